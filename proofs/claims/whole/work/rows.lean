section
-- ===== PART A: goes FIRST, ahead of the names: the tables' words, and 'selects' of the private methods out of them =====
/-- a private method of a class that the tables say can be made, by its rows of tables_1 -/
def lw_okq (q : MethodName × Nat) : Prop := (q.1.cls ≠ "java/lang/invoke/MethodHandle" ∧ q.1.cls ≠ "java/lang/invoke/VarHandle") ∧ Cond.instantiable q.1.cls q.2 ∈ tables_1 ∧ Cond.privateMethod q.1 ∈ tables_1 ∧ Cond.instanceMethod q.1 ∈ tables_1
theorem lw_p0 : lw_okq (⟨"SignetRing", "openKeys", "()I"⟩, 15) := ⟨⟨by decide +kernel, by decide +kernel⟩, List.mem_of_getElem? (i := 38) (by decide +kernel), List.mem_of_getElem? (i := 568) (by decide +kernel), List.mem_of_getElem? (i := 569) (by decide +kernel)⟩
theorem lw_p1 : lw_okq (⟨"SignetRing", "isInSigns", "()Z"⟩, 15) := ⟨⟨by decide +kernel, by decide +kernel⟩, List.mem_of_getElem? (i := 38) (by decide +kernel), List.mem_of_getElem? (i := 576) (by decide +kernel), List.mem_of_getElem? (i := 577) (by decide +kernel)⟩
theorem lw_p2 : lw_okq (⟨"SignetRing", "openSigns", "()I"⟩, 15) := ⟨⟨by decide +kernel, by decide +kernel⟩, List.mem_of_getElem? (i := 38) (by decide +kernel), List.mem_of_getElem? (i := 586) (by decide +kernel), List.mem_of_getElem? (i := 587) (by decide +kernel)⟩
theorem lw_p3 : lw_okq (⟨"java/lang/Throwable", "fillInStackTrace", "(I)Ljava/lang/Throwable;"⟩, 6) := ⟨⟨by decide +kernel, by decide +kernel⟩, List.mem_of_getElem? (i := 933) (by decide +kernel), List.mem_of_getElem? (i := 931) (by decide +kernel), List.mem_of_getElem? (i := 932) (by decide +kernel)⟩
theorem lw_p4 : lw_okq (⟨"java/util/ArrayList", "add", "(Ljava/lang/Object;[Ljava/lang/Object;I)V"⟩, 3) := ⟨⟨by decide +kernel, by decide +kernel⟩, List.mem_of_getElem? (i := 210) (by decide +kernel), List.mem_of_getElem? (i := 1154) (by decide +kernel), List.mem_of_getElem? (i := 1155) (by decide +kernel)⟩
theorem lw_p5 : lw_okq (⟨"java/util/ArrayList", "grow", "()[Ljava/lang/Object;"⟩, 3) := ⟨⟨by decide +kernel, by decide +kernel⟩, List.mem_of_getElem? (i := 210) (by decide +kernel), List.mem_of_getElem? (i := 1158) (by decide +kernel), List.mem_of_getElem? (i := 1159) (by decide +kernel)⟩
theorem lw_p6 : lw_okq (⟨"java/util/ArrayList", "grow", "(I)[Ljava/lang/Object;"⟩, 3) := ⟨⟨by decide +kernel, by decide +kernel⟩, List.mem_of_getElem? (i := 210) (by decide +kernel), List.mem_of_getElem? (i := 1162) (by decide +kernel), List.mem_of_getElem? (i := 1163) (by decide +kernel)⟩
theorem lw_p7 : lw_okq (⟨"java/util/ArrayList", "fastRemove", "([Ljava/lang/Object;I)V"⟩, 3) := ⟨⟨by decide +kernel, by decide +kernel⟩, List.mem_of_getElem? (i := 210) (by decide +kernel), List.mem_of_getElem? (i := 1318) (by decide +kernel), List.mem_of_getElem? (i := 1319) (by decide +kernel)⟩
theorem lw_p8 : lw_okq (⟨"SignetRing", "openLooked", "()I"⟩, 15) := ⟨⟨by decide +kernel, by decide +kernel⟩, List.mem_of_getElem? (i := 38) (by decide +kernel), List.mem_of_getElem? (i := 1397) (by decide +kernel), List.mem_of_getElem? (i := 1398) (by decide +kernel)⟩
theorem lw_p9 : lw_okq (⟨"SignetRing", "readSealed", "()I"⟩, 15) := ⟨⟨by decide +kernel, by decide +kernel⟩, List.mem_of_getElem? (i := 38) (by decide +kernel), List.mem_of_getElem? (i := 1402) (by decide +kernel), List.mem_of_getElem? (i := 1403) (by decide +kernel)⟩
theorem lw_p10 : lw_okq (⟨"SignetRing", "readSeal", "()Z"⟩, 15) := ⟨⟨by decide +kernel, by decide +kernel⟩, List.mem_of_getElem? (i := 38) (by decide +kernel), List.mem_of_getElem? (i := 1408) (by decide +kernel), List.mem_of_getElem? (i := 1409) (by decide +kernel)⟩
theorem lw_p11 : lw_okq (⟨"SignetRing", "readNothing", "()I"⟩, 15) := ⟨⟨by decide +kernel, by decide +kernel⟩, List.mem_of_getElem? (i := 38) (by decide +kernel), List.mem_of_getElem? (i := 1414) (by decide +kernel), List.mem_of_getElem? (i := 1415) (by decide +kernel)⟩
theorem lw_p12 : lw_okq (⟨"SignetRing", "readLetter", "()Z"⟩, 15) := ⟨⟨by decide +kernel, by decide +kernel⟩, List.mem_of_getElem? (i := 38) (by decide +kernel), List.mem_of_getElem? (i := 1420) (by decide +kernel), List.mem_of_getElem? (i := 1421) (by decide +kernel)⟩
theorem lw_p13 : lw_okq (⟨"SignetRing", "readClear", "()I"⟩, 15) := ⟨⟨by decide +kernel, by decide +kernel⟩, List.mem_of_getElem? (i := 38) (by decide +kernel), List.mem_of_getElem? (i := 1427) (by decide +kernel), List.mem_of_getElem? (i := 1428) (by decide +kernel)⟩
theorem lw_p14 : lw_okq (⟨"SignetRing", "checkLooked", "(J)I"⟩, 15) := ⟨⟨by decide +kernel, by decide +kernel⟩, List.mem_of_getElem? (i := 38) (by decide +kernel), List.mem_of_getElem? (i := 1437) (by decide +kernel), List.mem_of_getElem? (i := 1438) (by decide +kernel)⟩
theorem lw_p15 : lw_okq (⟨"SignetRing", "findSealer", "()LSignetRing$Key;"⟩, 15) := ⟨⟨by decide +kernel, by decide +kernel⟩, List.mem_of_getElem? (i := 38) (by decide +kernel), List.mem_of_getElem? (i := 1441) (by decide +kernel), List.mem_of_getElem? (i := 1442) (by decide +kernel)⟩
def lw_privs_1 : List (MethodName × Nat) := [(⟨"SignetRing", "openKeys", "()I"⟩, 15), (⟨"SignetRing", "isInSigns", "()Z"⟩, 15), (⟨"SignetRing", "openSigns", "()I"⟩, 15), (⟨"java/lang/Throwable", "fillInStackTrace", "(I)Ljava/lang/Throwable;"⟩, 6), (⟨"java/util/ArrayList", "add", "(Ljava/lang/Object;[Ljava/lang/Object;I)V"⟩, 3), (⟨"java/util/ArrayList", "grow", "()[Ljava/lang/Object;"⟩, 3), (⟨"java/util/ArrayList", "grow", "(I)[Ljava/lang/Object;"⟩, 3), (⟨"java/util/ArrayList", "fastRemove", "([Ljava/lang/Object;I)V"⟩, 3), (⟨"SignetRing", "openLooked", "()I"⟩, 15), (⟨"SignetRing", "readSealed", "()I"⟩, 15), (⟨"SignetRing", "readSeal", "()Z"⟩, 15), (⟨"SignetRing", "readNothing", "()I"⟩, 15), (⟨"SignetRing", "readLetter", "()Z"⟩, 15), (⟨"SignetRing", "readClear", "()I"⟩, 15), (⟨"SignetRing", "checkLooked", "(J)I"⟩, 15), (⟨"SignetRing", "findSealer", "()LSignetRing$Key;"⟩, 15)]
theorem lw_r1 : ∀ q ∈ lw_privs_1, lw_okq q := List.forall_mem_cons.mpr ⟨lw_p0, List.forall_mem_cons.mpr ⟨lw_p1, List.forall_mem_cons.mpr ⟨lw_p2, List.forall_mem_cons.mpr ⟨lw_p3, List.forall_mem_cons.mpr ⟨lw_p4, List.forall_mem_cons.mpr ⟨lw_p5, List.forall_mem_cons.mpr ⟨lw_p6, List.forall_mem_cons.mpr ⟨lw_p7, List.forall_mem_cons.mpr ⟨lw_p8, List.forall_mem_cons.mpr ⟨lw_p9, List.forall_mem_cons.mpr ⟨lw_p10, List.forall_mem_cons.mpr ⟨lw_p11, List.forall_mem_cons.mpr ⟨lw_p12, List.forall_mem_cons.mpr ⟨lw_p13, List.forall_mem_cons.mpr ⟨lw_p14, List.forall_mem_cons.mpr ⟨lw_p15, fun _ h => absurd h List.not_mem_nil⟩⟩⟩⟩⟩⟩⟩⟩⟩⟩⟩⟩⟩⟩⟩⟩
theorem lw_p16 : lw_okq (⟨"SignetRing", "hasSealed", "(LSignetRing$Key;)Z"⟩, 15) := ⟨⟨by decide +kernel, by decide +kernel⟩, List.mem_of_getElem? (i := 38) (by decide +kernel), List.mem_of_getElem? (i := 1447) (by decide +kernel), List.mem_of_getElem? (i := 1448) (by decide +kernel)⟩
theorem lw_p17 : lw_okq (⟨"SignetRing", "found", "(II)LSignetRing$Key;"⟩, 15) := ⟨⟨by decide +kernel, by decide +kernel⟩, List.mem_of_getElem? (i := 38) (by decide +kernel), List.mem_of_getElem? (i := 1613) (by decide +kernel), List.mem_of_getElem? (i := 1614) (by decide +kernel)⟩
theorem lw_p18 : lw_okq (⟨"SignetRing", "stripTold", "()V"⟩, 15) := ⟨⟨by decide +kernel, by decide +kernel⟩, List.mem_of_getElem? (i := 38) (by decide +kernel), List.mem_of_getElem? (i := 1673) (by decide +kernel), List.mem_of_getElem? (i := 1674) (by decide +kernel)⟩
theorem lw_p19 : lw_okq (⟨"SignetRing", "makeSeal", "(LSignetRing$Key;IJLSignetRing$Span;)V"⟩, 15) := ⟨⟨by decide +kernel, by decide +kernel⟩, List.mem_of_getElem? (i := 38) (by decide +kernel), List.mem_of_getElem? (i := 1678) (by decide +kernel), List.mem_of_getElem? (i := 1679) (by decide +kernel)⟩
theorem lw_p20 : lw_okq (⟨"SignetRing", "pushPrint", "(LSignetRing$Key;I)V"⟩, 15) := ⟨⟨by decide +kernel, by decide +kernel⟩, List.mem_of_getElem? (i := 38) (by decide +kernel), List.mem_of_getElem? (i := 1684) (by decide +kernel), List.mem_of_getElem? (i := 1685) (by decide +kernel)⟩
theorem lw_p21 : lw_okq (⟨"SignetRing", "writeClear", "()V"⟩, 15) := ⟨⟨by decide +kernel, by decide +kernel⟩, List.mem_of_getElem? (i := 38) (by decide +kernel), List.mem_of_getElem? (i := 1700) (by decide +kernel), List.mem_of_getElem? (i := 1701) (by decide +kernel)⟩
theorem lw_p22 : lw_okq (⟨"SignetRing", "writeLetter", "(LSignetRing$Key;)V"⟩, 15) := ⟨⟨by decide +kernel, by decide +kernel⟩, List.mem_of_getElem? (i := 38) (by decide +kernel), List.mem_of_getElem? (i := 1732) (by decide +kernel), List.mem_of_getElem? (i := 1733) (by decide +kernel)⟩
theorem lw_p23 : lw_okq (⟨"SignetRing", "writePlace", "(LSignetRing$Place;)V"⟩, 15) := ⟨⟨by decide +kernel, by decide +kernel⟩, List.mem_of_getElem? (i := 38) (by decide +kernel), List.mem_of_getElem? (i := 1744) (by decide +kernel), List.mem_of_getElem? (i := 1745) (by decide +kernel)⟩
theorem lw_p24 : lw_okq (⟨"SignetRingModel", "taken", "()[I"⟩, 64) := ⟨⟨by decide +kernel, by decide +kernel⟩, List.mem_of_getElem? (i := 1814) (by decide +kernel), List.mem_of_getElem? (i := 2030) (by decide +kernel), List.mem_of_getElem? (i := 2031) (by decide +kernel)⟩
theorem lw_p25 : lw_okq (⟨"SignetRingModel", "startLines", "([I)V"⟩, 64) := ⟨⟨by decide +kernel, by decide +kernel⟩, List.mem_of_getElem? (i := 1814) (by decide +kernel), List.mem_of_getElem? (i := 2037) (by decide +kernel), List.mem_of_getElem? (i := 2038) (by decide +kernel)⟩
theorem lw_p26 : lw_okq (⟨"SignetRingModel", "line", "()Z"⟩, 64) := ⟨⟨by decide +kernel, by decide +kernel⟩, List.mem_of_getElem? (i := 1814) (by decide +kernel), List.mem_of_getElem? (i := 2041) (by decide +kernel), List.mem_of_getElem? (i := 2042) (by decide +kernel)⟩
theorem lw_p27 : lw_okq (⟨"SignetRingModel", "failLine", "(I)V"⟩, 64) := ⟨⟨by decide +kernel, by decide +kernel⟩, List.mem_of_getElem? (i := 1814) (by decide +kernel), List.mem_of_getElem? (i := 2045) (by decide +kernel), List.mem_of_getElem? (i := 2046) (by decide +kernel)⟩
theorem lw_p28 : lw_okq (⟨"SignetRingModel", "fail", "(I)V"⟩, 64) := ⟨⟨by decide +kernel, by decide +kernel⟩, List.mem_of_getElem? (i := 1814) (by decide +kernel), List.mem_of_getElem? (i := 2050) (by decide +kernel), List.mem_of_getElem? (i := 2051) (by decide +kernel)⟩
theorem lw_p29 : lw_okq (⟨"SignetRingModel", "signsByLabel", "()[I"⟩, 64) := ⟨⟨by decide +kernel, by decide +kernel⟩, List.mem_of_getElem? (i := 1814) (by decide +kernel), List.mem_of_getElem? (i := 2057) (by decide +kernel), List.mem_of_getElem? (i := 2058) (by decide +kernel)⟩
theorem lw_p30 : lw_okq (⟨"SignetRingModel", "is", "(Ljava/lang/String;)Z"⟩, 64) := ⟨⟨by decide +kernel, by decide +kernel⟩, List.mem_of_getElem? (i := 1814) (by decide +kernel), List.mem_of_getElem? (i := 2073) (by decide +kernel), List.mem_of_getElem? (i := 2074) (by decide +kernel)⟩
theorem lw_p31 : lw_okq (⟨"SignetRingModel", "signs", "(Ljava/lang/String;)[I"⟩, 64) := ⟨⟨by decide +kernel, by decide +kernel⟩, List.mem_of_getElem? (i := 1814) (by decide +kernel), List.mem_of_getElem? (i := 2079) (by decide +kernel), List.mem_of_getElem? (i := 2080) (by decide +kernel)⟩
def lw_privs_2 : List (MethodName × Nat) := [(⟨"SignetRing", "hasSealed", "(LSignetRing$Key;)Z"⟩, 15), (⟨"SignetRing", "found", "(II)LSignetRing$Key;"⟩, 15), (⟨"SignetRing", "stripTold", "()V"⟩, 15), (⟨"SignetRing", "makeSeal", "(LSignetRing$Key;IJLSignetRing$Span;)V"⟩, 15), (⟨"SignetRing", "pushPrint", "(LSignetRing$Key;I)V"⟩, 15), (⟨"SignetRing", "writeClear", "()V"⟩, 15), (⟨"SignetRing", "writeLetter", "(LSignetRing$Key;)V"⟩, 15), (⟨"SignetRing", "writePlace", "(LSignetRing$Place;)V"⟩, 15), (⟨"SignetRingModel", "taken", "()[I"⟩, 64), (⟨"SignetRingModel", "startLines", "([I)V"⟩, 64), (⟨"SignetRingModel", "line", "()Z"⟩, 64), (⟨"SignetRingModel", "failLine", "(I)V"⟩, 64), (⟨"SignetRingModel", "fail", "(I)V"⟩, 64), (⟨"SignetRingModel", "signsByLabel", "()[I"⟩, 64), (⟨"SignetRingModel", "is", "(Ljava/lang/String;)Z"⟩, 64), (⟨"SignetRingModel", "signs", "(Ljava/lang/String;)[I"⟩, 64)]
theorem lw_r2 : ∀ q ∈ lw_privs_2, lw_okq q := List.forall_mem_cons.mpr ⟨lw_p16, List.forall_mem_cons.mpr ⟨lw_p17, List.forall_mem_cons.mpr ⟨lw_p18, List.forall_mem_cons.mpr ⟨lw_p19, List.forall_mem_cons.mpr ⟨lw_p20, List.forall_mem_cons.mpr ⟨lw_p21, List.forall_mem_cons.mpr ⟨lw_p22, List.forall_mem_cons.mpr ⟨lw_p23, List.forall_mem_cons.mpr ⟨lw_p24, List.forall_mem_cons.mpr ⟨lw_p25, List.forall_mem_cons.mpr ⟨lw_p26, List.forall_mem_cons.mpr ⟨lw_p27, List.forall_mem_cons.mpr ⟨lw_p28, List.forall_mem_cons.mpr ⟨lw_p29, List.forall_mem_cons.mpr ⟨lw_p30, List.forall_mem_cons.mpr ⟨lw_p31, fun _ h => absurd h List.not_mem_nil⟩⟩⟩⟩⟩⟩⟩⟩⟩⟩⟩⟩⟩⟩⟩⟩
theorem lw_p32 : lw_okq (⟨"SignetRingModel", "heads", "()V"⟩, 64) := ⟨⟨by decide +kernel, by decide +kernel⟩, List.mem_of_getElem? (i := 1814) (by decide +kernel), List.mem_of_getElem? (i := 2083) (by decide +kernel), List.mem_of_getElem? (i := 2084) (by decide +kernel)⟩
theorem lw_p33 : lw_okq (⟨"SignetRingModel", "sign", "(I)I"⟩, 64) := ⟨⟨by decide +kernel, by decide +kernel⟩, List.mem_of_getElem? (i := 1814) (by decide +kernel), List.mem_of_getElem? (i := 2087) (by decide +kernel), List.mem_of_getElem? (i := 2088) (by decide +kernel)⟩
theorem lw_p34 : lw_okq (⟨"SignetRingModel", "open", "([I)V"⟩, 64) := ⟨⟨by decide +kernel, by decide +kernel⟩, List.mem_of_getElem? (i := 1814) (by decide +kernel), List.mem_of_getElem? (i := 2102) (by decide +kernel), List.mem_of_getElem? (i := 2103) (by decide +kernel)⟩
theorem lw_p35 : lw_okq (⟨"SignetRingModel", "readKeys", "()I"⟩, 64) := ⟨⟨by decide +kernel, by decide +kernel⟩, List.mem_of_getElem? (i := 1814) (by decide +kernel), List.mem_of_getElem? (i := 2106) (by decide +kernel), List.mem_of_getElem? (i := 2107) (by decide +kernel)⟩
theorem lw_p36 : lw_okq (⟨"SignetRingModel", "packet", "()Z"⟩, 64) := ⟨⟨by decide +kernel, by decide +kernel⟩, List.mem_of_getElem? (i := 1814) (by decide +kernel), List.mem_of_getElem? (i := 2110) (by decide +kernel), List.mem_of_getElem? (i := 2111) (by decide +kernel)⟩
theorem lw_p37 : lw_okq (⟨"SignetRingModel", "byteOf", "()I"⟩, 64) := ⟨⟨by decide +kernel, by decide +kernel⟩, List.mem_of_getElem? (i := 1814) (by decide +kernel), List.mem_of_getElem? (i := 2114) (by decide +kernel), List.mem_of_getElem? (i := 2115) (by decide +kernel)⟩
theorem lw_p38 : lw_okq (⟨"SignetRingModel", "failPacket", "()Z"⟩, 64) := ⟨⟨by decide +kernel, by decide +kernel⟩, List.mem_of_getElem? (i := 1814) (by decide +kernel), List.mem_of_getElem? (i := 2118) (by decide +kernel), List.mem_of_getElem? (i := 2119) (by decide +kernel)⟩
theorem lw_p39 : lw_okq (⟨"SignetRingModel", "lengthOf", "(I)I"⟩, 64) := ⟨⟨by decide +kernel, by decide +kernel⟩, List.mem_of_getElem? (i := 1814) (by decide +kernel), List.mem_of_getElem? (i := 2122) (by decide +kernel), List.mem_of_getElem? (i := 2123) (by decide +kernel)⟩
theorem lw_p40 : lw_okq (⟨"SignetRingModel", "collect", "(I)V"⟩, 64) := ⟨⟨by decide +kernel, by decide +kernel⟩, List.mem_of_getElem? (i := 1814) (by decide +kernel), List.mem_of_getElem? (i := 2129) (by decide +kernel), List.mem_of_getElem? (i := 2130) (by decide +kernel)⟩
theorem lw_p41 : lw_okq (⟨"SignetRingModel", "readKey", "([IZ)Z"⟩, 64) := ⟨⟨by decide +kernel, by decide +kernel⟩, List.mem_of_getElem? (i := 1814) (by decide +kernel), List.mem_of_getElem? (i := 2139) (by decide +kernel), List.mem_of_getElem? (i := 2140) (by decide +kernel)⟩
theorem lw_p42 : lw_okq (⟨"SignetRingModel", "one", "()I"⟩, 64) := ⟨⟨by decide +kernel, by decide +kernel⟩, List.mem_of_getElem? (i := 1814) (by decide +kernel), List.mem_of_getElem? (i := 2143) (by decide +kernel), List.mem_of_getElem? (i := 2144) (by decide +kernel)⟩
theorem lw_p43 : lw_okq (⟨"SignetRingModel", "some", "(I)J"⟩, 64) := ⟨⟨by decide +kernel, by decide +kernel⟩, List.mem_of_getElem? (i := 1814) (by decide +kernel), List.mem_of_getElem? (i := 2147) (by decide +kernel), List.mem_of_getElem? (i := 2148) (by decide +kernel)⟩
theorem lw_p44 : lw_okq (⟨"SignetRingModel", "numberOf", "()[I"⟩, 64) := ⟨⟨by decide +kernel, by decide +kernel⟩, List.mem_of_getElem? (i := 1814) (by decide +kernel), List.mem_of_getElem? (i := 2151) (by decide +kernel), List.mem_of_getElem? (i := 2152) (by decide +kernel)⟩
theorem lw_p45 : lw_okq (⟨"SignetRingModel", "comes", "(IIII)I"⟩, 64) := ⟨⟨by decide +kernel, by decide +kernel⟩, List.mem_of_getElem? (i := 1814) (by decide +kernel), List.mem_of_getElem? (i := 2158) (by decide +kernel), List.mem_of_getElem? (i := 2159) (by decide +kernel)⟩
theorem lw_p46 : lw_okq (⟨"SignetRingModel", "printOf", "([I)[I"⟩, 64) := ⟨⟨by decide +kernel, by decide +kernel⟩, List.mem_of_getElem? (i := 1814) (by decide +kernel), List.mem_of_getElem? (i := 2162) (by decide +kernel), List.mem_of_getElem? (i := 2163) (by decide +kernel)⟩
theorem lw_p47 : lw_okq (⟨"SignetRingModel", "sayKey", "([I)V"⟩, 64) := ⟨⟨by decide +kernel, by decide +kernel⟩, List.mem_of_getElem? (i := 1814) (by decide +kernel), List.mem_of_getElem? (i := 2166) (by decide +kernel), List.mem_of_getElem? (i := 2167) (by decide +kernel)⟩
def lw_privs_3 : List (MethodName × Nat) := [(⟨"SignetRingModel", "heads", "()V"⟩, 64), (⟨"SignetRingModel", "sign", "(I)I"⟩, 64), (⟨"SignetRingModel", "open", "([I)V"⟩, 64), (⟨"SignetRingModel", "readKeys", "()I"⟩, 64), (⟨"SignetRingModel", "packet", "()Z"⟩, 64), (⟨"SignetRingModel", "byteOf", "()I"⟩, 64), (⟨"SignetRingModel", "failPacket", "()Z"⟩, 64), (⟨"SignetRingModel", "lengthOf", "(I)I"⟩, 64), (⟨"SignetRingModel", "collect", "(I)V"⟩, 64), (⟨"SignetRingModel", "readKey", "([IZ)Z"⟩, 64), (⟨"SignetRingModel", "one", "()I"⟩, 64), (⟨"SignetRingModel", "some", "(I)J"⟩, 64), (⟨"SignetRingModel", "numberOf", "()[I"⟩, 64), (⟨"SignetRingModel", "comes", "(IIII)I"⟩, 64), (⟨"SignetRingModel", "printOf", "([I)[I"⟩, 64), (⟨"SignetRingModel", "sayKey", "([I)V"⟩, 64)]
theorem lw_r3 : ∀ q ∈ lw_privs_3, lw_okq q := List.forall_mem_cons.mpr ⟨lw_p32, List.forall_mem_cons.mpr ⟨lw_p33, List.forall_mem_cons.mpr ⟨lw_p34, List.forall_mem_cons.mpr ⟨lw_p35, List.forall_mem_cons.mpr ⟨lw_p36, List.forall_mem_cons.mpr ⟨lw_p37, List.forall_mem_cons.mpr ⟨lw_p38, List.forall_mem_cons.mpr ⟨lw_p39, List.forall_mem_cons.mpr ⟨lw_p40, List.forall_mem_cons.mpr ⟨lw_p41, List.forall_mem_cons.mpr ⟨lw_p42, List.forall_mem_cons.mpr ⟨lw_p43, List.forall_mem_cons.mpr ⟨lw_p44, List.forall_mem_cons.mpr ⟨lw_p45, List.forall_mem_cons.mpr ⟨lw_p46, List.forall_mem_cons.mpr ⟨lw_p47, fun _ h => absurd h List.not_mem_nil⟩⟩⟩⟩⟩⟩⟩⟩⟩⟩⟩⟩⟩⟩⟩⟩
theorem lw_p48 : lw_okq (⟨"SignetRingModel", "say", "(I)V"⟩, 64) := ⟨⟨by decide +kernel, by decide +kernel⟩, List.mem_of_getElem? (i := 1814) (by decide +kernel), List.mem_of_getElem? (i := 2170) (by decide +kernel), List.mem_of_getElem? (i := 2171) (by decide +kernel)⟩
theorem lw_p49 : lw_okq (⟨"SignetRingModel", "sayNumber", "(JI)V"⟩, 64) := ⟨⟨by decide +kernel, by decide +kernel⟩, List.mem_of_getElem? (i := 1814) (by decide +kernel), List.mem_of_getElem? (i := 2174) (by decide +kernel), List.mem_of_getElem? (i := 2175) (by decide +kernel)⟩
theorem lw_p50 : lw_okq (⟨"SignetRingModel", "sayRow", "([III)V"⟩, 64) := ⟨⟨by decide +kernel, by decide +kernel⟩, List.mem_of_getElem? (i := 1814) (by decide +kernel), List.mem_of_getElem? (i := 2178) (by decide +kernel), List.mem_of_getElem? (i := 2179) (by decide +kernel)⟩
theorem lw_p51 : lw_okq (⟨"SignetRingModel", "hashOf", "(I)I"⟩, 64) := ⟨⟨by decide +kernel, by decide +kernel⟩, List.mem_of_getElem? (i := 1814) (by decide +kernel), List.mem_of_getElem? (i := 2182) (by decide +kernel), List.mem_of_getElem? (i := 2183) (by decide +kernel)⟩
theorem lw_p52 : lw_okq (⟨"SignetRingModel", "firstHash", "()V"⟩, 64) := ⟨⟨by decide +kernel, by decide +kernel⟩, List.mem_of_getElem? (i := 1814) (by decide +kernel), List.mem_of_getElem? (i := 2186) (by decide +kernel), List.mem_of_getElem? (i := 2187) (by decide +kernel)⟩
theorem lw_p53 : lw_okq (⟨"SignetRingModel", "close", "()I"⟩, 64) := ⟨⟨by decide +kernel, by decide +kernel⟩, List.mem_of_getElem? (i := 1814) (by decide +kernel), List.mem_of_getElem? (i := 2190) (by decide +kernel), List.mem_of_getElem? (i := 2191) (by decide +kernel)⟩
theorem lw_p54 : lw_okq (⟨"SignetRingModel", "keep", "(II)V"⟩, 64) := ⟨⟨by decide +kernel, by decide +kernel⟩, List.mem_of_getElem? (i := 1814) (by decide +kernel), List.mem_of_getElem? (i := 2210) (by decide +kernel), List.mem_of_getElem? (i := 2211) (by decide +kernel)⟩
theorem lw_p55 : lw_okq (⟨"SignetRingModel", "secondHash", "()V"⟩, 64) := ⟨⟨by decide +kernel, by decide +kernel⟩, List.mem_of_getElem? (i := 1814) (by decide +kernel), List.mem_of_getElem? (i := 2214) (by decide +kernel), List.mem_of_getElem? (i := 2215) (by decide +kernel)⟩
theorem lw_p56 : lw_okq (⟨"SignetRingModel", "findPrint", "(III[I)I"⟩, 64) := ⟨⟨by decide +kernel, by decide +kernel⟩, List.mem_of_getElem? (i := 1814) (by decide +kernel), List.mem_of_getElem? (i := 2228) (by decide +kernel), List.mem_of_getElem? (i := 2229) (by decide +kernel)⟩
theorem lw_p57 : lw_okq (⟨"SignetRingModel", "countOf", "(III)I"⟩, 64) := ⟨⟨by decide +kernel, by decide +kernel⟩, List.mem_of_getElem? (i := 1814) (by decide +kernel), List.mem_of_getElem? (i := 2235) (by decide +kernel), List.mem_of_getElem? (i := 2236) (by decide +kernel)⟩
theorem lw_p58 : lw_okq (⟨"SignetRingModel", "insert", "(II[I[I)V"⟩, 64) := ⟨⟨by decide +kernel, by decide +kernel⟩, List.mem_of_getElem? (i := 1814) (by decide +kernel), List.mem_of_getElem? (i := 2239) (by decide +kernel), List.mem_of_getElem? (i := 2240) (by decide +kernel)⟩
theorem lw_p59 : lw_okq (⟨"SignetRingModel", "endOf", "(I)I"⟩, 64) := ⟨⟨by decide +kernel, by decide +kernel⟩, List.mem_of_getElem? (i := 1814) (by decide +kernel), List.mem_of_getElem? (i := 2243) (by decide +kernel), List.mem_of_getElem? (i := 2244) (by decide +kernel)⟩
theorem lw_p60 : lw_okq (⟨"SignetRingModel", "userComes", "(I)I"⟩, 64) := ⟨⟨by decide +kernel, by decide +kernel⟩, List.mem_of_getElem? (i := 1814) (by decide +kernel), List.mem_of_getElem? (i := 2247) (by decide +kernel), List.mem_of_getElem? (i := 2248) (by decide +kernel)⟩
theorem lw_p61 : lw_okq (⟨"SignetRingModel", "usersEnd", "(I)I"⟩, 64) := ⟨⟨by decide +kernel, by decide +kernel⟩, List.mem_of_getElem? (i := 1814) (by decide +kernel), List.mem_of_getElem? (i := 2251) (by decide +kernel), List.mem_of_getElem? (i := 2252) (by decide +kernel)⟩
theorem lw_p62 : lw_okq (⟨"SignetRingModel", "find", "(III[I)I"⟩, 64) := ⟨⟨by decide +kernel, by decide +kernel⟩, List.mem_of_getElem? (i := 1814) (by decide +kernel), List.mem_of_getElem? (i := 2255) (by decide +kernel), List.mem_of_getElem? (i := 2256) (by decide +kernel)⟩
theorem lw_p63 : lw_okq (⟨"SignetRingModel", "sealComes", "(I)V"⟩, 64) := ⟨⟨by decide +kernel, by decide +kernel⟩, List.mem_of_getElem? (i := 1814) (by decide +kernel), List.mem_of_getElem? (i := 2259) (by decide +kernel), List.mem_of_getElem? (i := 2260) (by decide +kernel)⟩
def lw_privs_4 : List (MethodName × Nat) := [(⟨"SignetRingModel", "say", "(I)V"⟩, 64), (⟨"SignetRingModel", "sayNumber", "(JI)V"⟩, 64), (⟨"SignetRingModel", "sayRow", "([III)V"⟩, 64), (⟨"SignetRingModel", "hashOf", "(I)I"⟩, 64), (⟨"SignetRingModel", "firstHash", "()V"⟩, 64), (⟨"SignetRingModel", "close", "()I"⟩, 64), (⟨"SignetRingModel", "keep", "(II)V"⟩, 64), (⟨"SignetRingModel", "secondHash", "()V"⟩, 64), (⟨"SignetRingModel", "findPrint", "(III[I)I"⟩, 64), (⟨"SignetRingModel", "countOf", "(III)I"⟩, 64), (⟨"SignetRingModel", "insert", "(II[I[I)V"⟩, 64), (⟨"SignetRingModel", "endOf", "(I)I"⟩, 64), (⟨"SignetRingModel", "userComes", "(I)I"⟩, 64), (⟨"SignetRingModel", "usersEnd", "(I)I"⟩, 64), (⟨"SignetRingModel", "find", "(III[I)I"⟩, 64), (⟨"SignetRingModel", "sealComes", "(I)V"⟩, 64)]
theorem lw_r4 : ∀ q ∈ lw_privs_4, lw_okq q := List.forall_mem_cons.mpr ⟨lw_p48, List.forall_mem_cons.mpr ⟨lw_p49, List.forall_mem_cons.mpr ⟨lw_p50, List.forall_mem_cons.mpr ⟨lw_p51, List.forall_mem_cons.mpr ⟨lw_p52, List.forall_mem_cons.mpr ⟨lw_p53, List.forall_mem_cons.mpr ⟨lw_p54, List.forall_mem_cons.mpr ⟨lw_p55, List.forall_mem_cons.mpr ⟨lw_p56, List.forall_mem_cons.mpr ⟨lw_p57, List.forall_mem_cons.mpr ⟨lw_p58, List.forall_mem_cons.mpr ⟨lw_p59, List.forall_mem_cons.mpr ⟨lw_p60, List.forall_mem_cons.mpr ⟨lw_p61, List.forall_mem_cons.mpr ⟨lw_p62, List.forall_mem_cons.mpr ⟨lw_p63, fun _ h => absurd h List.not_mem_nil⟩⟩⟩⟩⟩⟩⟩⟩⟩⟩⟩⟩⟩⟩⟩⟩
theorem lw_p64 : lw_okq (⟨"SignetRingModel", "readSeal", "([I)Z"⟩, 64) := ⟨⟨by decide +kernel, by decide +kernel⟩, List.mem_of_getElem? (i := 1814) (by decide +kernel), List.mem_of_getElem? (i := 2266) (by decide +kernel), List.mem_of_getElem? (i := 2267) (by decide +kernel)⟩
theorem lw_p65 : lw_okq (⟨"SignetRingModel", "readNotes", "(Z)Z"⟩, 64) := ⟨⟨by decide +kernel, by decide +kernel⟩, List.mem_of_getElem? (i := 1814) (by decide +kernel), List.mem_of_getElem? (i := 2271) (by decide +kernel), List.mem_of_getElem? (i := 2272) (by decide +kernel)⟩
theorem lw_p66 : lw_okq (⟨"SignetRingModel", "readNote", "(IZZ[I)Z"⟩, 64) := ⟨⟨by decide +kernel, by decide +kernel⟩, List.mem_of_getElem? (i := 1814) (by decide +kernel), List.mem_of_getElem? (i := 2275) (by decide +kernel), List.mem_of_getElem? (i := 2276) (by decide +kernel)⟩
theorem lw_p67 : lw_okq (⟨"SignetRingModel", "takes", "(IZ)Z"⟩, 64) := ⟨⟨by decide +kernel, by decide +kernel⟩, List.mem_of_getElem? (i := 1814) (by decide +kernel), List.mem_of_getElem? (i := 2279) (by decide +kernel), List.mem_of_getElem? (i := 2280) (by decide +kernel)⟩
theorem lw_p68 : lw_okq (⟨"SignetRingModel", "behindSeals", "(I)I"⟩, 64) := ⟨⟨by decide +kernel, by decide +kernel⟩, List.mem_of_getElem? (i := 1814) (by decide +kernel), List.mem_of_getElem? (i := 2283) (by decide +kernel), List.mem_of_getElem? (i := 2284) (by decide +kernel)⟩
theorem lw_p69 : lw_okq (⟨"SignetRingModel", "readCase", "([I)V"⟩, 64) := ⟨⟨by decide +kernel, by decide +kernel⟩, List.mem_of_getElem? (i := 1814) (by decide +kernel), List.mem_of_getElem? (i := 2299) (by decide +kernel), List.mem_of_getElem? (i := 2300) (by decide +kernel)⟩
theorem lw_p70 : lw_okq (⟨"SignetRingModel", "readPackets", "([I)V"⟩, 64) := ⟨⟨by decide +kernel, by decide +kernel⟩, List.mem_of_getElem? (i := 1814) (by decide +kernel), List.mem_of_getElem? (i := 2303) (by decide +kernel), List.mem_of_getElem? (i := 2304) (by decide +kernel)⟩
theorem lw_p71 : lw_okq (⟨"SignetRingModel", "ownSeal", "()Z"⟩, 64) := ⟨⟨by decide +kernel, by decide +kernel⟩, List.mem_of_getElem? (i := 1814) (by decide +kernel), List.mem_of_getElem? (i := 2307) (by decide +kernel), List.mem_of_getElem? (i := 2308) (by decide +kernel)⟩
theorem lw_p72 : lw_okq (⟨"SignetRingModel", "mustEnd", "()V"⟩, 64) := ⟨⟨by decide +kernel, by decide +kernel⟩, List.mem_of_getElem? (i := 1814) (by decide +kernel), List.mem_of_getElem? (i := 2311) (by decide +kernel), List.mem_of_getElem? (i := 2312) (by decide +kernel)⟩
theorem lw_p73 : lw_okq (⟨"SignetRingModel", "readClear", "()V"⟩, 64) := ⟨⟨by decide +kernel, by decide +kernel⟩, List.mem_of_getElem? (i := 1814) (by decide +kernel), List.mem_of_getElem? (i := 2316) (by decide +kernel), List.mem_of_getElem? (i := 2317) (by decide +kernel)⟩
theorem lw_p74 : lw_okq (⟨"SignetRingModel", "isNamed", "([I)Z"⟩, 64) := ⟨⟨by decide +kernel, by decide +kernel⟩, List.mem_of_getElem? (i := 1814) (by decide +kernel), List.mem_of_getElem? (i := 2321) (by decide +kernel), List.mem_of_getElem? (i := 2322) (by decide +kernel)⟩
theorem lw_p75 : lw_okq (⟨"SignetRingModel", "hasEnded", "(J)Z"⟩, 64) := ⟨⟨by decide +kernel, by decide +kernel⟩, List.mem_of_getElem? (i := 1814) (by decide +kernel), List.mem_of_getElem? (i := 2325) (by decide +kernel), List.mem_of_getElem? (i := 2326) (by decide +kernel)⟩
theorem lw_p76 : lw_okq (⟨"SignetRingModel", "sayText", "([IZ)V"⟩, 64) := ⟨⟨by decide +kernel, by decide +kernel⟩, List.mem_of_getElem? (i := 1814) (by decide +kernel), List.mem_of_getElem? (i := 2329) (by decide +kernel), List.mem_of_getElem? (i := 2330) (by decide +kernel)⟩
theorem lw_p77 : lw_okq (⟨"SignetRingModel", "isTrue", "([I[I)Z"⟩, 64) := ⟨⟨by decide +kernel, by decide +kernel⟩, List.mem_of_getElem? (i := 1814) (by decide +kernel), List.mem_of_getElem? (i := 2333) (by decide +kernel), List.mem_of_getElem? (i := 2334) (by decide +kernel)⟩
theorem lw_p78 : lw_okq (⟨"SignetRingModel", "raise", "([I[I[I)[I"⟩, 64) := ⟨⟨by decide +kernel, by decide +kernel⟩, List.mem_of_getElem? (i := 1814) (by decide +kernel), List.mem_of_getElem? (i := 2340) (by decide +kernel), List.mem_of_getElem? (i := 2341) (by decide +kernel)⟩
theorem lw_p79 : lw_okq (⟨"SignetRingModel", "isGreat", "()Z"⟩, 64) := ⟨⟨by decide +kernel, by decide +kernel⟩, List.mem_of_getElem? (i := 1814) (by decide +kernel), List.mem_of_getElem? (i := 2349) (by decide +kernel), List.mem_of_getElem? (i := 2350) (by decide +kernel)⟩
def lw_privs_5 : List (MethodName × Nat) := [(⟨"SignetRingModel", "readSeal", "([I)Z"⟩, 64), (⟨"SignetRingModel", "readNotes", "(Z)Z"⟩, 64), (⟨"SignetRingModel", "readNote", "(IZZ[I)Z"⟩, 64), (⟨"SignetRingModel", "takes", "(IZ)Z"⟩, 64), (⟨"SignetRingModel", "behindSeals", "(I)I"⟩, 64), (⟨"SignetRingModel", "readCase", "([I)V"⟩, 64), (⟨"SignetRingModel", "readPackets", "([I)V"⟩, 64), (⟨"SignetRingModel", "ownSeal", "()Z"⟩, 64), (⟨"SignetRingModel", "mustEnd", "()V"⟩, 64), (⟨"SignetRingModel", "readClear", "()V"⟩, 64), (⟨"SignetRingModel", "isNamed", "([I)Z"⟩, 64), (⟨"SignetRingModel", "hasEnded", "(J)Z"⟩, 64), (⟨"SignetRingModel", "sayText", "([IZ)V"⟩, 64), (⟨"SignetRingModel", "isTrue", "([I[I)Z"⟩, 64), (⟨"SignetRingModel", "raise", "([I[I[I)[I"⟩, 64), (⟨"SignetRingModel", "isGreat", "()Z"⟩, 64)]
theorem lw_r5 : ∀ q ∈ lw_privs_5, lw_okq q := List.forall_mem_cons.mpr ⟨lw_p64, List.forall_mem_cons.mpr ⟨lw_p65, List.forall_mem_cons.mpr ⟨lw_p66, List.forall_mem_cons.mpr ⟨lw_p67, List.forall_mem_cons.mpr ⟨lw_p68, List.forall_mem_cons.mpr ⟨lw_p69, List.forall_mem_cons.mpr ⟨lw_p70, List.forall_mem_cons.mpr ⟨lw_p71, List.forall_mem_cons.mpr ⟨lw_p72, List.forall_mem_cons.mpr ⟨lw_p73, List.forall_mem_cons.mpr ⟨lw_p74, List.forall_mem_cons.mpr ⟨lw_p75, List.forall_mem_cons.mpr ⟨lw_p76, List.forall_mem_cons.mpr ⟨lw_p77, List.forall_mem_cons.mpr ⟨lw_p78, List.forall_mem_cons.mpr ⟨lw_p79, fun _ h => absurd h List.not_mem_nil⟩⟩⟩⟩⟩⟩⟩⟩⟩⟩⟩⟩⟩⟩⟩⟩
theorem lw_p80 : lw_okq (⟨"SignetRingModel", "less", "()V"⟩, 64) := ⟨⟨by decide +kernel, by decide +kernel⟩, List.mem_of_getElem? (i := 1814) (by decide +kernel), List.mem_of_getElem? (i := 2353) (by decide +kernel), List.mem_of_getElem? (i := 2354) (by decide +kernel)⟩
theorem lw_p81 : lw_okq (⟨"SignetRingModel", "product", "([J[J[J)V"⟩, 64) := ⟨⟨by decide +kernel, by decide +kernel⟩, List.mem_of_getElem? (i := 1814) (by decide +kernel), List.mem_of_getElem? (i := 2357) (by decide +kernel), List.mem_of_getElem? (i := 2358) (by decide +kernel)⟩
theorem lw_p82 : lw_okq (⟨"SignetRingModel", "padded", "(III)[I"⟩, 64) := ⟨⟨by decide +kernel, by decide +kernel⟩, List.mem_of_getElem? (i := 1814) (by decide +kernel), List.mem_of_getElem? (i := 2362) (by decide +kernel), List.mem_of_getElem? (i := 2363) (by decide +kernel)⟩
theorem lw_p83 : lw_okq (⟨"SignetRingModel", "usableAt", "(IIJ)I"⟩, 64) := ⟨⟨by decide +kernel, by decide +kernel⟩, List.mem_of_getElem? (i := 1814) (by decide +kernel), List.mem_of_getElem? (i := 2366) (by decide +kernel), List.mem_of_getElem? (i := 2367) (by decide +kernel)⟩
theorem lw_p84 : lw_okq (⟨"SignetRingModel", "usableKey", "(IJ)I"⟩, 64) := ⟨⟨by decide +kernel, by decide +kernel⟩, List.mem_of_getElem? (i := 1814) (by decide +kernel), List.mem_of_getElem? (i := 2370) (by decide +kernel), List.mem_of_getElem? (i := 2371) (by decide +kernel)⟩
theorem lw_p85 : lw_okq (⟨"SignetRingModel", "isRevoked", "(IIIJ)Z"⟩, 64) := ⟨⟨by decide +kernel, by decide +kernel⟩, List.mem_of_getElem? (i := 1814) (by decide +kernel), List.mem_of_getElem? (i := 2374) (by decide +kernel), List.mem_of_getElem? (i := 2375) (by decide +kernel)⟩
theorem lw_p86 : lw_okq (⟨"SignetRingModel", "typeAt", "(I)I"⟩, 64) := ⟨⟨by decide +kernel, by decide +kernel⟩, List.mem_of_getElem? (i := 1814) (by decide +kernel), List.mem_of_getElem? (i := 2378) (by decide +kernel), List.mem_of_getElem? (i := 2379) (by decide +kernel)⟩
theorem lw_p87 : lw_okq (⟨"SignetRingModel", "isTrueAt", "([III[I)Z"⟩, 64) := ⟨⟨by decide +kernel, by decide +kernel⟩, List.mem_of_getElem? (i := 1814) (by decide +kernel), List.mem_of_getElem? (i := 2382) (by decide +kernel), List.mem_of_getElem? (i := 2383) (by decide +kernel)⟩
theorem lw_p88 : lw_okq (⟨"SignetRingModel", "counts", "(IIIJ)Z"⟩, 64) := ⟨⟨by decide +kernel, by decide +kernel⟩, List.mem_of_getElem? (i := 1814) (by decide +kernel), List.mem_of_getElem? (i := 2386) (by decide +kernel), List.mem_of_getElem? (i := 2387) (by decide +kernel)⟩
theorem lw_p89 : lw_okq (⟨"SignetRingModel", "bondOf", "(IJ)I"⟩, 64) := ⟨⟨by decide +kernel, by decide +kernel⟩, List.mem_of_getElem? (i := 1814) (by decide +kernel), List.mem_of_getElem? (i := 2390) (by decide +kernel), List.mem_of_getElem? (i := 2391) (by decide +kernel)⟩
theorem lw_p90 : lw_okq (⟨"SignetRingModel", "latestOf", "(IIIIJ)I"⟩, 64) := ⟨⟨by decide +kernel, by decide +kernel⟩, List.mem_of_getElem? (i := 1814) (by decide +kernel), List.mem_of_getElem? (i := 2394) (by decide +kernel), List.mem_of_getElem? (i := 2395) (by decide +kernel)⟩
theorem lw_p91 : lw_okq (⟨"SignetRingModel", "lastOf", "(I)I"⟩, 64) := ⟨⟨by decide +kernel, by decide +kernel⟩, List.mem_of_getElem? (i := 1814) (by decide +kernel), List.mem_of_getElem? (i := 2398) (by decide +kernel), List.mem_of_getElem? (i := 2399) (by decide +kernel)⟩
theorem lw_p92 : lw_okq (⟨"SignetRingModel", "isDropped", "(IIIJ)Z"⟩, 64) := ⟨⟨by decide +kernel, by decide +kernel⟩, List.mem_of_getElem? (i := 1814) (by decide +kernel), List.mem_of_getElem? (i := 2402) (by decide +kernel), List.mem_of_getElem? (i := 2403) (by decide +kernel)⟩
theorem lw_p93 : lw_okq (⟨"SignetRingModel", "madeAt", "(I)J"⟩, 64) := ⟨⟨by decide +kernel, by decide +kernel⟩, List.mem_of_getElem? (i := 1814) (by decide +kernel), List.mem_of_getElem? (i := 2406) (by decide +kernel), List.mem_of_getElem? (i := 2407) (by decide +kernel)⟩
theorem lw_p94 : lw_okq (⟨"SignetRingModel", "byBond", "(IJJZ)I"⟩, 64) := ⟨⟨by decide +kernel, by decide +kernel⟩, List.mem_of_getElem? (i := 1814) (by decide +kernel), List.mem_of_getElem? (i := 2410) (by decide +kernel), List.mem_of_getElem? (i := 2411) (by decide +kernel)⟩
theorem lw_p95 : lw_okq (⟨"SignetRingModel", "isBacked", "(IIIJ)Z"⟩, 64) := ⟨⟨by decide +kernel, by decide +kernel⟩, List.mem_of_getElem? (i := 1814) (by decide +kernel), List.mem_of_getElem? (i := 2414) (by decide +kernel), List.mem_of_getElem? (i := 2415) (by decide +kernel)⟩
def lw_privs_6 : List (MethodName × Nat) := [(⟨"SignetRingModel", "less", "()V"⟩, 64), (⟨"SignetRingModel", "product", "([J[J[J)V"⟩, 64), (⟨"SignetRingModel", "padded", "(III)[I"⟩, 64), (⟨"SignetRingModel", "usableAt", "(IIJ)I"⟩, 64), (⟨"SignetRingModel", "usableKey", "(IJ)I"⟩, 64), (⟨"SignetRingModel", "isRevoked", "(IIIJ)Z"⟩, 64), (⟨"SignetRingModel", "typeAt", "(I)I"⟩, 64), (⟨"SignetRingModel", "isTrueAt", "([III[I)Z"⟩, 64), (⟨"SignetRingModel", "counts", "(IIIJ)Z"⟩, 64), (⟨"SignetRingModel", "bondOf", "(IJ)I"⟩, 64), (⟨"SignetRingModel", "latestOf", "(IIIIJ)I"⟩, 64), (⟨"SignetRingModel", "lastOf", "(I)I"⟩, 64), (⟨"SignetRingModel", "isDropped", "(IIIJ)Z"⟩, 64), (⟨"SignetRingModel", "madeAt", "(I)J"⟩, 64), (⟨"SignetRingModel", "byBond", "(IJJZ)I"⟩, 64), (⟨"SignetRingModel", "isBacked", "(IIIJ)Z"⟩, 64)]
theorem lw_r6 : ∀ q ∈ lw_privs_6, lw_okq q := List.forall_mem_cons.mpr ⟨lw_p80, List.forall_mem_cons.mpr ⟨lw_p81, List.forall_mem_cons.mpr ⟨lw_p82, List.forall_mem_cons.mpr ⟨lw_p83, List.forall_mem_cons.mpr ⟨lw_p84, List.forall_mem_cons.mpr ⟨lw_p85, List.forall_mem_cons.mpr ⟨lw_p86, List.forall_mem_cons.mpr ⟨lw_p87, List.forall_mem_cons.mpr ⟨lw_p88, List.forall_mem_cons.mpr ⟨lw_p89, List.forall_mem_cons.mpr ⟨lw_p90, List.forall_mem_cons.mpr ⟨lw_p91, List.forall_mem_cons.mpr ⟨lw_p92, List.forall_mem_cons.mpr ⟨lw_p93, List.forall_mem_cons.mpr ⟨lw_p94, List.forall_mem_cons.mpr ⟨lw_p95, fun _ h => absurd h List.not_mem_nil⟩⟩⟩⟩⟩⟩⟩⟩⟩⟩⟩⟩⟩⟩⟩⟩
theorem lw_p96 : lw_okq (⟨"SignetRingModel", "placeOf", "(I)I"⟩, 64) := ⟨⟨by decide +kernel, by decide +kernel⟩, List.mem_of_getElem? (i := 1814) (by decide +kernel), List.mem_of_getElem? (i := 2426) (by decide +kernel), List.mem_of_getElem? (i := 2427) (by decide +kernel)⟩
theorem lw_p97 : lw_okq (⟨"SignetRingModel", "howMany", "(II)I"⟩, 64) := ⟨⟨by decide +kernel, by decide +kernel⟩, List.mem_of_getElem? (i := 1814) (by decide +kernel), List.mem_of_getElem? (i := 2430) (by decide +kernel), List.mem_of_getElem? (i := 2431) (by decide +kernel)⟩
theorem lw_p98 : lw_okq (⟨"SignetRingModel", "thingOf", "(II)I"⟩, 64) := ⟨⟨by decide +kernel, by decide +kernel⟩, List.mem_of_getElem? (i := 1814) (by decide +kernel), List.mem_of_getElem? (i := 2438) (by decide +kernel), List.mem_of_getElem? (i := 2439) (by decide +kernel)⟩
theorem lw_p99 : lw_okq (⟨"SignetRingModel", "partOf", "(II)I"⟩, 64) := ⟨⟨by decide +kernel, by decide +kernel⟩, List.mem_of_getElem? (i := 1814) (by decide +kernel), List.mem_of_getElem? (i := 2442) (by decide +kernel), List.mem_of_getElem? (i := 2443) (by decide +kernel)⟩
theorem lw_p100 : lw_okq (⟨"SignetRingModel", "sealClear", "(IJ)V"⟩, 64) := ⟨⟨by decide +kernel, by decide +kernel⟩, List.mem_of_getElem? (i := 1814) (by decide +kernel), List.mem_of_getElem? (i := 2454) (by decide +kernel), List.mem_of_getElem? (i := 2455) (by decide +kernel)⟩
theorem lw_p101 : lw_okq (⟨"SignetRingModel", "putText", "(Ljava/lang/String;)V"⟩, 64) := ⟨⟨by decide +kernel, by decide +kernel⟩, List.mem_of_getElem? (i := 1814) (by decide +kernel), List.mem_of_getElem? (i := 2458) (by decide +kernel), List.mem_of_getElem? (i := 2459) (by decide +kernel)⟩
theorem lw_p102 : lw_okq (⟨"SignetRingModel", "put", "(I)V"⟩, 64) := ⟨⟨by decide +kernel, by decide +kernel⟩, List.mem_of_getElem? (i := 1814) (by decide +kernel), List.mem_of_getElem? (i := 2462) (by decide +kernel), List.mem_of_getElem? (i := 2463) (by decide +kernel)⟩
theorem lw_p103 : lw_okq (⟨"SignetRingModel", "made", "(II[IJ)[I"⟩, 64) := ⟨⟨by decide +kernel, by decide +kernel⟩, List.mem_of_getElem? (i := 1814) (by decide +kernel), List.mem_of_getElem? (i := 2468) (by decide +kernel), List.mem_of_getElem? (i := 2469) (by decide +kernel)⟩
theorem lw_p104 : lw_okq (⟨"SignetRingModel", "putPacket", "(I[I)V"⟩, 64) := ⟨⟨by decide +kernel, by decide +kernel⟩, List.mem_of_getElem? (i := 1814) (by decide +kernel), List.mem_of_getElem? (i := 2473) (by decide +kernel), List.mem_of_getElem? (i := 2474) (by decide +kernel)⟩
theorem lw_p105 : lw_okq (⟨"SignetRingModel", "putLength", "(I)V"⟩, 64) := ⟨⟨by decide +kernel, by decide +kernel⟩, List.mem_of_getElem? (i := 1814) (by decide +kernel), List.mem_of_getElem? (i := 2477) (by decide +kernel), List.mem_of_getElem? (i := 2478) (by decide +kernel)⟩
theorem lw_p106 : lw_okq (⟨"SignetRingModel", "putRow", "([I)V"⟩, 64) := ⟨⟨by decide +kernel, by decide +kernel⟩, List.mem_of_getElem? (i := 1814) (by decide +kernel), List.mem_of_getElem? (i := 2481) (by decide +kernel), List.mem_of_getElem? (i := 2482) (by decide +kernel)⟩
theorem lw_p107 : lw_okq (⟨"SignetRingModel", "putSigns", "([II)V"⟩, 64) := ⟨⟨by decide +kernel, by decide +kernel⟩, List.mem_of_getElem? (i := 1814) (by decide +kernel), List.mem_of_getElem? (i := 2485) (by decide +kernel), List.mem_of_getElem? (i := 2486) (by decide +kernel)⟩
def lw_privs_7 : List (MethodName × Nat) := [(⟨"SignetRingModel", "placeOf", "(I)I"⟩, 64), (⟨"SignetRingModel", "howMany", "(II)I"⟩, 64), (⟨"SignetRingModel", "thingOf", "(II)I"⟩, 64), (⟨"SignetRingModel", "partOf", "(II)I"⟩, 64), (⟨"SignetRingModel", "sealClear", "(IJ)V"⟩, 64), (⟨"SignetRingModel", "putText", "(Ljava/lang/String;)V"⟩, 64), (⟨"SignetRingModel", "put", "(I)V"⟩, 64), (⟨"SignetRingModel", "made", "(II[IJ)[I"⟩, 64), (⟨"SignetRingModel", "putPacket", "(I[I)V"⟩, 64), (⟨"SignetRingModel", "putLength", "(I)V"⟩, 64), (⟨"SignetRingModel", "putRow", "([I)V"⟩, 64), (⟨"SignetRingModel", "putSigns", "([II)V"⟩, 64)]
theorem lw_r7 : ∀ q ∈ lw_privs_7, lw_okq q := List.forall_mem_cons.mpr ⟨lw_p96, List.forall_mem_cons.mpr ⟨lw_p97, List.forall_mem_cons.mpr ⟨lw_p98, List.forall_mem_cons.mpr ⟨lw_p99, List.forall_mem_cons.mpr ⟨lw_p100, List.forall_mem_cons.mpr ⟨lw_p101, List.forall_mem_cons.mpr ⟨lw_p102, List.forall_mem_cons.mpr ⟨lw_p103, List.forall_mem_cons.mpr ⟨lw_p104, List.forall_mem_cons.mpr ⟨lw_p105, List.forall_mem_cons.mpr ⟨lw_p106, List.forall_mem_cons.mpr ⟨lw_p107, fun _ h => absurd h List.not_mem_nil⟩⟩⟩⟩⟩⟩⟩⟩⟩⟩⟩⟩
def lw_privs : List (MethodName × Nat) := lw_privs_1 ++ (lw_privs_2 ++ (lw_privs_3 ++ (lw_privs_4 ++ (lw_privs_5 ++ (lw_privs_6 ++ (lw_privs_7))))))
def lw_tbl : List Cond := k2_sels lw_privs ++ tables_1
theorem lw_privs_ok : ∀ q ∈ lw_privs, lw_okq q := by
  show ∀ q ∈ lw_privs_1 ++ (lw_privs_2 ++ (lw_privs_3 ++ (lw_privs_4 ++ (lw_privs_5 ++ (lw_privs_6 ++ (lw_privs_7)))))), lw_okq q
  exact List.forall_mem_append.mpr ⟨lw_r1, List.forall_mem_append.mpr ⟨lw_r2, List.forall_mem_append.mpr ⟨lw_r3, List.forall_mem_append.mpr ⟨lw_r4, List.forall_mem_append.mpr ⟨lw_r5, List.forall_mem_append.mpr ⟨lw_r6, lw_r7⟩⟩⟩⟩⟩⟩
-- ===== end of PART A; then your names; then what follows =====
end
section
/-! ===== BEGIN words of one list among another's, by their places ===== -/
theorem goodIn_r {big : List Cond} (ws : List Cond) (ps : List Nat) (hp : ws = ps.filterMap (fun i => big[i]?)) (h : ws.all goodWord = true) : GoodIn big ws := by
  intro w hw
  have h1 := List.all_eq_true.mp h w hw
  rw [hp] at hw
  obtain ⟨i, -, hi⟩ := List.mem_filterMap.mp hw
  have hm : w ∈ big := by first | exact List.mem_of_getElem? hi | exact List.getElem?_mem hi
  exact ⟨hm, good_of_word h1⟩
theorem goodIn_app {big a b : List Cond} (ha : GoodIn big a) (hb : GoodIn big b) : GoodIn big (a ++ b) := fun w h => (List.mem_append.mp h).elim (ha w) (hb w)
theorem goodIn_ca {big a b : List Cond} {c : Cond} (ha : GoodIn big (c :: a)) (hb : GoodIn big b) : GoodIn big (c :: (a ++ b)) := fun w h => (List.mem_cons.mp h).elim (fun e => ha w (List.mem_cons.mpr (Or.inl e))) (fun h => (List.mem_append.mp h).elim (fun h => ha w (List.mem_cons.mpr (Or.inr h))) (hb w))
theorem goodIn_sub {big ws : List Cond} (hm : ∀ w ∈ ws, w ∈ big) (h : ws.all goodWord = true) : GoodIn big ws := fun w hw => ⟨hm w hw, good_of_word (List.all_eq_true.mp h w hw)⟩
/-! ===== END ===== -/

def vx_no (w : Cond) : Bool := decide (w ≠ .isRef (.static Bundle.tN "UNASSIGNED_STACK" Bundle.steD)) && decide (w ≠ .isRef (.static Bundle.tN "SUPPRESSED_SENTINEL" Bundle.listD)) && decide (w ≠ .laysStatic Bundle.tN "UNASSIGNED_STACK" Bundle.steD) && decide (w ≠ .laysStatic Bundle.tN "SUPPRESSED_SENTINEL" Bundle.listD)
def vx_at0 (own : String) (ic : Nat) (X : String) (names : List String) : List Cond := (Bundle.ownAtoms0 own ic X names).filter vx_no
def vx_atS (own : String) (ic : Nat) (X : String) (names : List String) : List Cond := (Bundle.ownAtoms own ic X names).filter vx_no
def vx_atN (n : Nat) : List Cond := (Bundle.npeArmAtoms n).filter vx_no
def vx_atM (X : String) (names : List String) : List Cond := (Bundle.messageArmAtoms X names).filter vx_no
end
section
def RX0 : String := "SignetRing$Bytes"
def TX0 : u_T := fun k => match k with
  | 0 => ("SignetRing$Span", "row", "[B", false)
  | 1 => ("SignetRing$Span", "from", "I", false)
  | _ => ("SignetRing$Span", "size", "I", false)
def tyX0 : Nat → FieldType := fun k => match k with
  | 0 => .array .byte
  | 1 => .int
  | _ => .int
abbrev wsX00 : List Cond := u_ws RX0 TX0 3
theorem nmX0 : ∀ a, a < 3 → ∀ b, b < 3 → a ≠ b → (TX0 a).2.1 ≠ (TX0 b).2.1 := by decide +kernel
theorem tyX0_ok : ∀ k, k < 3 → parseFieldDescriptor (TX0 k).2.2.1 = some (tyX0 k) := by decide +kernel
abbrev cX0_init : ByteArray := prog_2_method_1_code
def yX0_init : MethodName := ⟨RX0, "<init>", "(I)V"⟩
abbrev cX0_push : ByteArray := prog_2_method_2_code
def yX0_push : MethodName := ⟨RX0, "push", "(I)V"⟩
abbrev cX0_pushNumber : ByteArray := prog_2_method_3_code
def yX0_pushNumber : MethodName := ⟨RX0, "pushNumber", "(JI)V"⟩
abbrev cX0_pushSpan : ByteArray := prog_2_method_4_code
def yX0_pushSpan : MethodName := ⟨RX0, "pushSpan", "(LSignetRing$Span;II)V"⟩
abbrev cX0_pushSealed : ByteArray := prog_2_method_5_code
def yX0_pushSealed : MethodName := ⟨RX0, "pushSealed", "(LSignetRing$Span;I)V"⟩
abbrev cX0_pushKey : ByteArray := prog_2_method_6_code
def yX0_pushKey : MethodName := ⟨RX0, "pushKey", "(LSignetRing$Span;)V"⟩
abbrev cX0_pushLines : ByteArray := prog_2_method_7_code
def yX0_pushLines : MethodName := ⟨RX0, "pushLines", "(LSignetRing$Span;)V"⟩
abbrev cX0_pushText : ByteArray := prog_2_method_8_code
def yX0_pushText : MethodName := ⟨RX0, "pushText", "(Ljava/lang/String;)V"⟩
abbrev cX0_pushHead : ByteArray := prog_2_method_9_code
def yX0_pushHead : MethodName := ⟨RX0, "pushHead", "(II)V"⟩
abbrev cX0_pushPacket : ByteArray := prog_2_method_10_code
def yX0_pushPacket : MethodName := ⟨RX0, "pushPacket", "(ILSignetRing$Span;)V"⟩
def RX1 : String := "SignetRing$Digest"
def TX1 : u_T := fun k => match k with
  | 0 => ("SignetRing$Digest", "state", "[I", true)
  | 1 => ("SignetRing$Digest", "words", "[I", true)
  | _ => ("SignetRing$Digest", "second", "Z", false)
def tyX1 : Nat → FieldType := fun k => match k with
  | 0 => .array .int
  | 1 => .array .int
  | _ => .boolean
abbrev wsX10 : List Cond := u_ws RX1 TX1 3
theorem nmX1 : ∀ a, a < 3 → ∀ b, b < 3 → a ≠ b → (TX1 a).2.1 ≠ (TX1 b).2.1 := by decide +kernel
theorem tyX1_ok : ∀ k, k < 3 → parseFieldDescriptor (TX1 k).2.2.1 = some (tyX1 k) := by decide +kernel
abbrev cX1_init : ByteArray := prog_3_method_1_code
def yX1_init : MethodName := ⟨RX1, "<init>", "()V"⟩
abbrev cX1_make : ByteArray := prog_3_method_2_code
def yX1_make : MethodName := ⟨RX1, "make", "(ILSignetRing$Span;)V"⟩
abbrev cX1_wordOf : ByteArray := prog_3_method_3_code
def yX1_wordOf : MethodName := ⟨RX1, "wordOf", "(LSignetRing$Span;I)I"⟩
abbrev cX1_size : ByteArray := prog_3_method_4_code
def yX1_size : MethodName := ⟨RX1, "size", "()I"⟩
abbrev cX1_at : ByteArray := prog_3_method_5_code
def yX1_at : MethodName := ⟨RX1, "at", "(I)I"⟩
abbrev cX1_mixFirst : ByteArray := prog_3_method_6_code
def yX1_mixFirst : MethodName := ⟨RX1, "mixFirst", "()V"⟩
abbrev cX1_mixSecond : ByteArray := prog_3_method_7_code
def yX1_mixSecond : MethodName := ⟨RX1, "mixSecond", "()V"⟩
def RX2 : String := "SignetRing$Judge"
def TX2 : u_T := fun k => match k with
  | 0 => ("SignetRing$Judge", "digest", "LSignetRing$Digest;", true)
  | 1 => ("SignetRing$Judge", "message", "LSignetRing$Bytes;", true)
  | 2 => ("SignetRing$Judge", "power", "LSignetRing$Power;", true)
  | 3 => ("SignetRing$Judge", "frame", "LSignetRing$Bytes;", true)
  | _ => ("SignetRing$Judge", "inner", "LSignetRing$Seal;", true)
def tyX2 : Nat → FieldType := fun k => match k with
  | 0 => .object "SignetRing$Digest"
  | 1 => .object "SignetRing$Bytes"
  | 2 => .object "SignetRing$Power"
  | 3 => .object "SignetRing$Bytes"
  | _ => .object "SignetRing$Seal"
abbrev wsX20 : List Cond := u_ws RX2 TX2 5
theorem nmX2 : ∀ a, a < 5 → ∀ b, b < 5 → a ≠ b → (TX2 a).2.1 ≠ (TX2 b).2.1 := by decide +kernel
theorem tyX2_ok : ∀ k, k < 5 → parseFieldDescriptor (TX2 k).2.2.1 = some (tyX2 k) := by decide +kernel
abbrev cX2_init : ByteArray := prog_4_method_1_code
def yX2_init : MethodName := ⟨RX2, "<init>", "()V"⟩
abbrev cX2_digestThing : ByteArray := prog_4_method_2_code
def yX2_digestThing : MethodName := ⟨RX2, "digestThing", "(LSignetRing$Seal;LSignetRing$Key;LSignetRing$Place;)V"⟩
abbrev cX2_digestDocument : ByteArray := prog_4_method_3_code
def yX2_digestDocument : MethodName := ⟨RX2, "digestDocument", "(LSignetRing$Span;IILSignetRing$Span;I)V"⟩
abbrev cX2_makeFrame : ByteArray := prog_4_method_4_code
def yX2_makeFrame : MethodName := ⟨RX2, "makeFrame", "(I)V"⟩
abbrev cX2_isTrueBy : ByteArray := prog_4_method_5_code
def yX2_isTrueBy : MethodName := ⟨RX2, "isTrueBy", "(LSignetRing$Seal;LSignetRing$Key;)Z"⟩
abbrev cX2_isBelow : ByteArray := prog_4_method_6_code
def yX2_isBelow : MethodName := ⟨RX2, "isBelow", "(LSignetRing$Seal;LSignetRing$Key;)Z"⟩
abbrev cX2_writeNumber : ByteArray := prog_4_method_7_code
def yX2_writeNumber : MethodName := ⟨RX2, "writeNumber", "(LSignetRing$Key;LSignetRing$Span;LSignetRing$Bytes;)V"⟩
abbrev cX2_settle : ByteArray := prog_4_method_8_code
def yX2_settle : MethodName := ⟨RX2, "settle", "(LSignetRing$Key;)V"⟩
abbrev cX2_settleAt : ByteArray := prog_4_method_9_code
def yX2_settleAt : MethodName := ⟨RX2, "settleAt", "(LSignetRing$Key;LSignetRing$Place;)V"⟩
abbrev cX2_counts : ByteArray := prog_4_method_10_code
def yX2_counts : MethodName := ⟨RX2, "counts", "(LSignetRing$Seal;LSignetRing$Key;J)Z"⟩
abbrev cX2_latest : ByteArray := prog_4_method_11_code
def yX2_latest : MethodName := ⟨RX2, "latest", "(LSignetRing$Key;LSignetRing$Place;IIJ)LSignetRing$Seal;"⟩
abbrev cX2_bondOf : ByteArray := prog_4_method_12_code
def yX2_bondOf : MethodName := ⟨RX2, "bondOf", "(LSignetRing$Key;J)LSignetRing$Seal;"⟩
abbrev cX2_isRevoked : ByteArray := prog_4_method_13_code
def yX2_isRevoked : MethodName := ⟨RX2, "isRevoked", "(LSignetRing$Key;LSignetRing$Place;IJ)Z"⟩
abbrev cX2_stateOf : ByteArray := prog_4_method_14_code
def yX2_stateOf : MethodName := ⟨RX2, "stateOf", "(LSignetRing$Key;J)I"⟩
abbrev cX2_keyState : ByteArray := prog_4_method_15_code
def yX2_keyState : MethodName := ⟨RX2, "keyState", "(LSignetRing$Key;J)I"⟩
abbrev cX2_partState : ByteArray := prog_4_method_16_code
def yX2_partState : MethodName := ⟨RX2, "partState", "(LSignetRing$Key;LSignetRing$Key;IJ)I"⟩
abbrev cX2_isBacked : ByteArray := prog_4_method_17_code
def yX2_isBacked : MethodName := ⟨RX2, "isBacked", "(LSignetRing$Seal;LSignetRing$Key;LSignetRing$Key;J)Z"⟩
def RX3 : String := "SignetRing$Key"
def TX3 : u_T := fun k => match k with
  | 0 => ("SignetRing$Place", "seals", "Ljava/util/ArrayList;", true)
  | 1 => ("SignetRing$Place", "keptSeals", "I", false)
  | 2 => ("SignetRing$Span", "row", "[B", false)
  | 3 => ("SignetRing$Span", "from", "I", false)
  | 4 => ("SignetRing$Span", "size", "I", false)
  | 5 => ("SignetRing$Key", "owner", "LSignetRing$Key;", true)
  | 6 => ("SignetRing$Key", "users", "Ljava/util/ArrayList;", true)
  | 7 => ("SignetRing$Key", "parts", "Ljava/util/ArrayList;", true)
  | 8 => ("SignetRing$Key", "print", "[B", true)
  | 9 => ("SignetRing$Key", "keptUsers", "I", false)
  | 10 => ("SignetRing$Key", "keptParts", "I", false)
  | 11 => ("SignetRing$Key", "made", "J", false)
  | 12 => ("SignetRing$Key", "bits", "I", false)
  | 13 => ("SignetRing$Key", "exponentAt", "I", false)
  | 14 => ("SignetRing$Key", "secretAt", "I", false)
  | 15 => ("SignetRing$Key", "secret", "LSignetRing$Span;", false)
  | _ => ("SignetRing$Key", "keptSecret", "Z", false)
def tyX3 : Nat → FieldType := fun k => match k with
  | 0 => .object "java/util/ArrayList"
  | 1 => .int
  | 2 => .array .byte
  | 3 => .int
  | 4 => .int
  | 5 => .object "SignetRing$Key"
  | 6 => .object "java/util/ArrayList"
  | 7 => .object "java/util/ArrayList"
  | 8 => .array .byte
  | 9 => .int
  | 10 => .int
  | 11 => .long
  | 12 => .int
  | 13 => .int
  | 14 => .int
  | 15 => .object "SignetRing$Span"
  | _ => .boolean
abbrev wsX30 : List Cond := u_ws RX3 TX3 17
theorem nmX3 : ∀ a, a < 17 → ∀ b, b < 17 → a ≠ b → (TX3 a).2.1 ≠ (TX3 b).2.1 := by decide +kernel
theorem tyX3_ok : ∀ k, k < 17 → parseFieldDescriptor (TX3 k).2.2.1 = some (tyX3 k) := by decide +kernel
abbrev cX3_init : ByteArray := prog_5_method_1_code
def yX3_init : MethodName := ⟨RX3, "<init>", "([BLSignetRing$Key;)V"⟩
abbrev cX3_kept : ByteArray := prog_5_method_2_code
def yX3_kept : MethodName := ⟨RX3, "kept", "(LSignetRing$Key;)LSignetRing$Key;"⟩
abbrev cX3_kind : ByteArray := prog_5_method_3_code
def yX3_kind : MethodName := ⟨RX3, "kind", "()I"⟩
abbrev cX3_read : ByteArray := prog_5_method_4_code
def yX3_read : MethodName := ⟨RX3, "read", "(LSignetRing$Span;Z)Z"⟩
abbrev cX3_hasSecret : ByteArray := prog_5_method_5_code
def yX3_hasSecret : MethodName := ⟨RX3, "hasSecret", "(LSignetRing$Span;)Z"⟩
abbrev cX3_giveSecret : ByteArray := prog_5_method_6_code
def yX3_giveSecret : MethodName := ⟨RX3, "giveSecret", "(LSignetRing$Span;I)V"⟩
abbrev cX3_makePrint : ByteArray := prog_5_method_7_code
def yX3_makePrint : MethodName := ⟨RX3, "makePrint", "(LSignetRing$Digest;LSignetRing$Bytes;)V"⟩
abbrev cX3_hasPrint : ByteArray := prog_5_method_8_code
def yX3_hasPrint : MethodName := ⟨RX3, "hasPrint", "(LSignetRing$Span;II)Z"⟩
abbrev cX3_isLikeKey : ByteArray := prog_5_method_9_code
def yX3_isLikeKey : MethodName := ⟨RX3, "isLikeKey", "(LSignetRing$Key;)Z"⟩
abbrev cX3_countSeals : ByteArray := prog_5_method_10_code
def yX3_countSeals : MethodName := ⟨RX3, "countSeals", "()I"⟩
abbrev cX3_keep : ByteArray := prog_5_method_11_code
def yX3_keep : MethodName := ⟨RX3, "keep", "()V"⟩
abbrev cX3_undo : ByteArray := prog_5_method_12_code
def yX3_undo : MethodName := ⟨RX3, "undo", "()V"⟩
def RX4 : String := "SignetRing$Packets"
def TX4 : u_T := fun k => match k with
  | 0 => ("SignetRing$Packets", "body", "LSignetRing$Span;", true)
  | 1 => ("SignetRing$Packets", "parts", "LSignetRing$Bytes;", true)
  | 2 => ("SignetRing$Packets", "in", "LSignetRing$Span;", false)
  | 3 => ("SignetRing$Packets", "place", "I", false)
  | 4 => ("SignetRing$Packets", "next", "I", false)
  | _ => ("SignetRing$Packets", "kind", "I", false)
def tyX4 : Nat → FieldType := fun k => match k with
  | 0 => .object "SignetRing$Span"
  | 1 => .object "SignetRing$Bytes"
  | 2 => .object "SignetRing$Span"
  | 3 => .int
  | 4 => .int
  | _ => .int
abbrev wsX40 : List Cond := u_ws RX4 TX4 6
theorem nmX4 : ∀ a, a < 6 → ∀ b, b < 6 → a ≠ b → (TX4 a).2.1 ≠ (TX4 b).2.1 := by decide +kernel
theorem tyX4_ok : ∀ k, k < 6 → parseFieldDescriptor (TX4 k).2.2.1 = some (tyX4 k) := by decide +kernel
abbrev cX4_init : ByteArray := prog_6_method_1_code
def yX4_init : MethodName := ⟨RX4, "<init>", "()V"⟩
abbrev cX4_open : ByteArray := prog_6_method_2_code
def yX4_open : MethodName := ⟨RX4, "open", "(LSignetRing$Span;)V"⟩
abbrev cX4_more : ByteArray := prog_6_method_3_code
def yX4_more : MethodName := ⟨RX4, "more", "()Z"⟩
abbrev cX4_fault : ByteArray := prog_6_method_4_code
def yX4_fault : MethodName := ⟨RX4, "fault", "()I"⟩
abbrev cX4_read : ByteArray := prog_6_method_5_code
def yX4_read : MethodName := ⟨RX4, "read", "()Z"⟩
abbrev cX4_readWhole : ByteArray := prog_6_method_6_code
def yX4_readWhole : MethodName := ⟨RX4, "readWhole", "(I)Z"⟩
abbrev cX4_cut : ByteArray := prog_6_method_7_code
def yX4_cut : MethodName := ⟨RX4, "cut", "(IJ)Z"⟩
abbrev cX4_readParts : ByteArray := prog_6_method_8_code
def yX4_readParts : MethodName := ⟨RX4, "readParts", "(I)Z"⟩
abbrev cX4_isPart : ByteArray := prog_6_method_9_code
def yX4_isPart : MethodName := ⟨RX4, "isPart", "(I)Z"⟩
def RX5 : String := "SignetRing$Place"
def TX5 : u_T := fun k => match k with
  | 0 => ("SignetRing$Span", "row", "[B", false)
  | 1 => ("SignetRing$Span", "from", "I", false)
  | 2 => ("SignetRing$Span", "size", "I", false)
  | 3 => ("SignetRing$Place", "seals", "Ljava/util/ArrayList;", true)
  | _ => ("SignetRing$Place", "keptSeals", "I", false)
def tyX5 : Nat → FieldType := fun k => match k with
  | 0 => .array .byte
  | 1 => .int
  | 2 => .int
  | 3 => .object "java/util/ArrayList"
  | _ => .int
abbrev wsX50 : List Cond := u_ws RX5 TX5 5
theorem nmX5 : ∀ a, a < 5 → ∀ b, b < 5 → a ≠ b → (TX5 a).2.1 ≠ (TX5 b).2.1 := by decide +kernel
theorem tyX5_ok : ∀ k, k < 5 → parseFieldDescriptor (TX5 k).2.2.1 = some (tyX5 k) := by decide +kernel
abbrev cX5_init : ByteArray := prog_7_method_1_code
def yX5_init : MethodName := ⟨RX5, "<init>", "([B)V"⟩
abbrev cX5_has : ByteArray := prog_7_method_2_code
def yX5_has : MethodName := ⟨RX5, "has", "(LSignetRing$Seal;)Z"⟩
abbrev cX5_keepSeals : ByteArray := prog_7_method_3_code
def yX5_keepSeals : MethodName := ⟨RX5, "keepSeals", "()V"⟩
abbrev cX5_undoSeals : ByteArray := prog_7_method_4_code
def yX5_undoSeals : MethodName := ⟨RX5, "undoSeals", "()V"⟩
abbrev cX5_kind : ByteArray := prog_7_method_5_code
def yX5_kind : MethodName := ⟨RX5, "kind", "()I"⟩
def RX6 : String := "SignetRing$Power"
def TX6 : u_T := fun k => match k with
  | 0 => ("SignetRing$Power", "modulus", "[J", true)
  | 1 => ("SignetRing$Power", "quotient", "[J", true)
  | 2 => ("SignetRing$Power", "one", "[J", true)
  | 3 => ("SignetRing$Power", "unit", "[J", true)
  | 4 => ("SignetRing$Power", "square", "[J", true)
  | 5 => ("SignetRing$Power", "base", "[J", true)
  | 6 => ("SignetRing$Power", "power", "[J", true)
  | 7 => ("SignetRing$Power", "key", "LSignetRing$Key;", false)
  | 8 => ("SignetRing$Power", "limbs", "I", false)
  | 9 => ("SignetRing$Power", "bytes", "I", false)
  | _ => ("SignetRing$Power", "inverse", "J", false)
def tyX6 : Nat → FieldType := fun k => match k with
  | 0 => .array .long
  | 1 => .array .long
  | 2 => .array .long
  | 3 => .array .long
  | 4 => .array .long
  | 5 => .array .long
  | 6 => .array .long
  | 7 => .object "SignetRing$Key"
  | 8 => .int
  | 9 => .int
  | _ => .long
abbrev wsX60 : List Cond := u_ws RX6 TX6 11
theorem nmX6 : ∀ a, a < 11 → ∀ b, b < 11 → a ≠ b → (TX6 a).2.1 ≠ (TX6 b).2.1 := by decide +kernel
theorem tyX6_ok : ∀ k, k < 11 → parseFieldDescriptor (TX6 k).2.2.1 = some (tyX6 k) := by decide +kernel
abbrev cX6_init : ByteArray := prog_8_method_1_code
def yX6_init : MethodName := ⟨RX6, "<init>", "()V"⟩
abbrev cX6_open : ByteArray := prog_8_method_2_code
def yX6_open : MethodName := ⟨RX6, "open", "(LSignetRing$Key;)V"⟩
abbrev cX6_inverseOf : ByteArray := prog_8_method_3_code
def yX6_inverseOf : MethodName := ⟨RX6, "inverseOf", "(J)J"⟩
abbrev cX6_load : ByteArray := prog_8_method_4_code
def yX6_load : MethodName := ⟨RX6, "load", "([JLSignetRing$Span;II)V"⟩
abbrev cX6_doubleUp : ByteArray := prog_8_method_5_code
def yX6_doubleUp : MethodName := ⟨RX6, "doubleUp", "([J)V"⟩
abbrev cX6_reduce : ByteArray := prog_8_method_6_code
def yX6_reduce : MethodName := ⟨RX6, "reduce", "([JJ)V"⟩
abbrev cX6_multiply : ByteArray := prog_8_method_7_code
def yX6_multiply : MethodName := ⟨RX6, "multiply", "([J[J[J)V"⟩
abbrev cX6_raise : ByteArray := prog_8_method_8_code
def yX6_raise : MethodName := ⟨RX6, "raise", "(LSignetRing$Span;II)V"⟩
abbrev cX6_countBits : ByteArray := prog_8_method_9_code
def yX6_countBits : MethodName := ⟨RX6, "countBits", "()I"⟩
abbrev cX6_byteAt : ByteArray := prog_8_method_10_code
def yX6_byteAt : MethodName := ⟨RX6, "byteAt", "(I)I"⟩
def RX7 : String := "SignetRing$Ring"
def TX7 : u_T := fun k => match k with
  | 0 => ("SignetRing$Ring", "keys", "Ljava/util/ArrayList;", true)
  | 1 => ("SignetRing$Ring", "digest", "LSignetRing$Digest;", true)
  | 2 => ("SignetRing$Ring", "message", "LSignetRing$Bytes;", true)
  | 3 => ("SignetRing$Ring", "newKey", "LSignetRing$Key;", true)
  | 4 => ("SignetRing$Ring", "newSeal", "LSignetRing$Seal;", true)
  | 5 => ("SignetRing$Ring", "key", "LSignetRing$Key;", false)
  | _ => ("SignetRing$Ring", "place", "LSignetRing$Place;", false)
def tyX7 : Nat → FieldType := fun k => match k with
  | 0 => .object "java/util/ArrayList"
  | 1 => .object "SignetRing$Digest"
  | 2 => .object "SignetRing$Bytes"
  | 3 => .object "SignetRing$Key"
  | 4 => .object "SignetRing$Seal"
  | 5 => .object "SignetRing$Key"
  | _ => .object "SignetRing$Place"
abbrev wsX70 : List Cond := u_ws RX7 TX7 7
theorem nmX7 : ∀ a, a < 7 → ∀ b, b < 7 → a ≠ b → (TX7 a).2.1 ≠ (TX7 b).2.1 := by decide +kernel
theorem tyX7_ok : ∀ k, k < 7 → parseFieldDescriptor (TX7 k).2.2.1 = some (tyX7 k) := by decide +kernel
abbrev cX7_init : ByteArray := prog_9_method_1_code
def yX7_init : MethodName := ⟨RX7, "<init>", "()V"⟩
abbrev cX7_joinAll : ByteArray := prog_9_method_2_code
def yX7_joinAll : MethodName := ⟨RX7, "joinAll", "(LSignetRing$Packets;)I"⟩
abbrev cX7_undo : ByteArray := prog_9_method_3_code
def yX7_undo : MethodName := ⟨RX7, "undo", "(I)V"⟩
abbrev cX7_joinPacket : ByteArray := prog_9_method_4_code
def yX7_joinPacket : MethodName := ⟨RX7, "joinPacket", "(ILSignetRing$Span;)Z"⟩
abbrev cX7_known : ByteArray := prog_9_method_5_code
def yX7_known : MethodName := ⟨RX7, "known", "(Ljava/util/ArrayList;)LSignetRing$Key;"⟩
abbrev cX7_joinKey : ByteArray := prog_9_method_6_code
def yX7_joinKey : MethodName := ⟨RX7, "joinKey", "(Ljava/util/ArrayList;LSignetRing$Key;LSignetRing$Span;Z)Z"⟩
abbrev cX7_joinUser : ByteArray := prog_9_method_7_code
def yX7_joinUser : MethodName := ⟨RX7, "joinUser", "(LSignetRing$Span;)Z"⟩
abbrev cX7_joinSeal : ByteArray := prog_9_method_8_code
def yX7_joinSeal : MethodName := ⟨RX7, "joinSeal", "(LSignetRing$Span;)Z"⟩
def RX8 : String := "SignetRing$Seal"
def TX8 : u_T := fun k => match k with
  | 0 => ("SignetRing$Span", "row", "[B", false)
  | 1 => ("SignetRing$Span", "from", "I", false)
  | 2 => ("SignetRing$Span", "size", "I", false)
  | 3 => ("SignetRing$Seal", "type", "I", false)
  | 4 => ("SignetRing$Seal", "hash", "I", false)
  | 5 => ("SignetRing$Seal", "sealedEnd", "I", false)
  | 6 => ("SignetRing$Seal", "check", "I", false)
  | 7 => ("SignetRing$Seal", "vain", "Z", false)
  | 8 => ("SignetRing$Seal", "made", "J", false)
  | 9 => ("SignetRing$Seal", "lasts", "J", false)
  | 10 => ("SignetRing$Seal", "keyLasts", "J", false)
  | 11 => ("SignetRing$Seal", "uses", "I", false)
  | 12 => ("SignetRing$Seal", "why", "I", false)
  | 13 => ("SignetRing$Seal", "nameAt", "I", false)
  | 14 => ("SignetRing$Seal", "printAt", "I", false)
  | 15 => ("SignetRing$Seal", "innerAt", "I", false)
  | 16 => ("SignetRing$Seal", "innerSize", "I", false)
  | _ => ("SignetRing$Seal", "truth", "I", false)
def tyX8 : Nat → FieldType := fun k => match k with
  | 0 => .array .byte
  | 1 => .int
  | 2 => .int
  | 3 => .int
  | 4 => .int
  | 5 => .int
  | 6 => .int
  | 7 => .boolean
  | 8 => .long
  | 9 => .long
  | 10 => .long
  | 11 => .int
  | 12 => .int
  | 13 => .int
  | 14 => .int
  | 15 => .int
  | 16 => .int
  | _ => .int
abbrev wsX80 : List Cond := u_ws RX8 TX8 18
theorem nmX8 : ∀ a, a < 18 → ∀ b, b < 18 → a ≠ b → (TX8 a).2.1 ≠ (TX8 b).2.1 := by decide +kernel
theorem tyX8_ok : ∀ k, k < 18 → parseFieldDescriptor (TX8 k).2.2.1 = some (tyX8 k) := by decide +kernel
abbrev cX8_init : ByteArray := prog_10_method_1_code
def yX8_init : MethodName := ⟨RX8, "<init>", "([B)V"⟩
abbrev cX8_read : ByteArray := prog_10_method_2_code
def yX8_read : MethodName := ⟨RX8, "read", "()I"⟩
abbrev cX8_forget : ByteArray := prog_10_method_3_code
def yX8_forget : MethodName := ⟨RX8, "forget", "()V"⟩
abbrev cX8_readNotes : ByteArray := prog_10_method_4_code
def yX8_readNotes : MethodName := ⟨RX8, "readNotes", "(IIZ)Z"⟩
abbrev cX8_readNote : ByteArray := prog_10_method_5_code
def yX8_readNote : MethodName := ⟨RX8, "readNote", "(IIZ)Z"⟩
abbrev cX8_hasEnded : ByteArray := prog_10_method_6_code
def yX8_hasEnded : MethodName := ⟨RX8, "hasEnded", "(J)Z"⟩
def RX9 : String := "SignetRing$Signs"
def TX9 : u_T := fun k => match k with
  | 0 => ("SignetRing$Signs", "plain", "LSignetRing$Bytes;", true)
  | 1 => ("SignetRing$Signs", "in", "LSignetRing$Span;", false)
  | 2 => ("SignetRing$Signs", "next", "I", false)
  | 3 => ("SignetRing$Signs", "start", "I", false)
  | 4 => ("SignetRing$Signs", "end", "I", false)
  | 5 => ("SignetRing$Signs", "wholeEnd", "I", false)
  | _ => ("SignetRing$Signs", "padded", "Z", false)
def tyX9 : Nat → FieldType := fun k => match k with
  | 0 => .object "SignetRing$Bytes"
  | 1 => .object "SignetRing$Span"
  | 2 => .int
  | 3 => .int
  | 4 => .int
  | 5 => .int
  | _ => .boolean
abbrev wsX90 : List Cond := u_ws RX9 TX9 7
theorem nmX9 : ∀ a, a < 7 → ∀ b, b < 7 → a ≠ b → (TX9 a).2.1 ≠ (TX9 b).2.1 := by decide +kernel
theorem tyX9_ok : ∀ k, k < 7 → parseFieldDescriptor (TX9 k).2.2.1 = some (tyX9 k) := by decide +kernel
abbrev cX9_init : ByteArray := prog_11_method_1_code
def yX9_init : MethodName := ⟨RX9, "<init>", "()V"⟩
abbrev cX9_label : ByteArray := prog_11_method_2_code
def yX9_label : MethodName := ⟨RX9, "label", "(I)Ljava/lang/String;"⟩
abbrev cX9_isBlank : ByteArray := prog_11_method_3_code
def yX9_isBlank : MethodName := ⟨RX9, "isBlank", "(I)Z"⟩
abbrev cX9_sumOf : ByteArray := prog_11_method_4_code
def yX9_sumOf : MethodName := ⟨RX9, "sumOf", "(LSignetRing$Span;)I"⟩
abbrev cX9_valueOf : ByteArray := prog_11_method_5_code
def yX9_valueOf : MethodName := ⟨RX9, "valueOf", "(I)I"⟩
abbrev cX9_signOf : ByteArray := prog_11_method_6_code
def yX9_signOf : MethodName := ⟨RX9, "signOf", "(I)I"⟩
abbrev cX9_open : ByteArray := prog_11_method_7_code
def yX9_open : MethodName := ⟨RX9, "open", "(LSignetRing$Span;)V"⟩
abbrev cX9_advance : ByteArray := prog_11_method_8_code
def yX9_advance : MethodName := ⟨RX9, "advance", "()Z"⟩
abbrev cX9_fault : ByteArray := prog_11_method_9_code
def yX9_fault : MethodName := ⟨RX9, "fault", "()I"⟩
abbrev cX9_isEmpty : ByteArray := prog_11_method_10_code
def yX9_isEmpty : MethodName := ⟨RX9, "isEmpty", "()Z"⟩
abbrev cX9_hasText : ByteArray := prog_11_method_11_code
def yX9_hasText : MethodName := ⟨RX9, "hasText", "(ILjava/lang/String;)Z"⟩
abbrev cX9_isFramed : ByteArray := prog_11_method_12_code
def yX9_isFramed : MethodName := ⟨RX9, "isFramed", "(Ljava/lang/String;Ljava/lang/String;)Z"⟩
abbrev cX9_begun : ByteArray := prog_11_method_13_code
def yX9_begun : MethodName := ⟨RX9, "begun", "()I"⟩
abbrev cX9_hasColon : ByteArray := prog_11_method_14_code
def yX9_hasColon : MethodName := ⟨RX9, "hasColon", "()Z"⟩
abbrev cX9_readHead : ByteArray := prog_11_method_15_code
def yX9_readHead : MethodName := ⟨RX9, "readHead", "()Z"⟩
abbrev cX9_read : ByteArray := prog_11_method_16_code
def yX9_read : MethodName := ⟨RX9, "read", "(I)I"⟩
abbrev cX9_readLines : ByteArray := prog_11_method_17_code
def yX9_readLines : MethodName := ⟨RX9, "readLines", "()Z"⟩
abbrev cX9_readLine : ByteArray := prog_11_method_18_code
def yX9_readLine : MethodName := ⟨RX9, "readLine", "()Z"⟩
abbrev cX9_readGroup : ByteArray := prog_11_method_19_code
def yX9_readGroup : MethodName := ⟨RX9, "readGroup", "(I)Z"⟩
abbrev cX9_isSum : ByteArray := prog_11_method_20_code
def yX9_isSum : MethodName := ⟨RX9, "isSum", "()Z"⟩
abbrev cX9_readEnd : ByteArray := prog_11_method_21_code
def yX9_readEnd : MethodName := ⟨RX9, "readEnd", "()Z"⟩
abbrev cX9_readText : ByteArray := prog_11_method_22_code
def yX9_readText : MethodName := ⟨RX9, "readText", "(LSignetRing$Bytes;)Z"⟩
abbrev cX9_write : ByteArray := prog_11_method_23_code
def yX9_write : MethodName := ⟨RX9, "write", "(LSignetRing$Span;ILSignetRing$Bytes;)V"⟩
abbrev cX9_writeGroup : ByteArray := prog_11_method_24_code
def yX9_writeGroup : MethodName := ⟨RX9, "writeGroup", "(JILSignetRing$Bytes;)V"⟩
def RX10 : String := "SignetRing$Span"
def TX10 : u_T := fun k => match k with
  | 0 => ("SignetRing$Span", "row", "[B", false)
  | 1 => ("SignetRing$Span", "from", "I", false)
  | _ => ("SignetRing$Span", "size", "I", false)
def tyX10 : Nat → FieldType := fun k => match k with
  | 0 => .array .byte
  | 1 => .int
  | _ => .int
abbrev wsX100 : List Cond := u_ws RX10 TX10 3
theorem nmX10 : ∀ a, a < 3 → ∀ b, b < 3 → a ≠ b → (TX10 a).2.1 ≠ (TX10 b).2.1 := by decide +kernel
theorem tyX10_ok : ∀ k, k < 3 → parseFieldDescriptor (TX10 k).2.2.1 = some (tyX10 k) := by decide +kernel
abbrev cX10_init : ByteArray := prog_12_method_1_code
def yX10_init : MethodName := ⟨RX10, "<init>", "([BII)V"⟩
abbrev cX10_view : ByteArray := prog_12_method_2_code
def yX10_view : MethodName := ⟨RX10, "view", "([BII)V"⟩
abbrev cX10_at : ByteArray := prog_12_method_3_code
def yX10_at : MethodName := ⟨RX10, "at", "(I)I"⟩
abbrev cX10_number : ByteArray := prog_12_method_4_code
def yX10_number : MethodName := ⟨RX10, "number", "(II)J"⟩
abbrev cX10_numberEnd : ByteArray := prog_12_method_5_code
def yX10_numberEnd : MethodName := ⟨RX10, "numberEnd", "(I)I"⟩
abbrev cX10_lengthWidth : ByteArray := prog_12_method_6_code
def yX10_lengthWidth : MethodName := ⟨RX10, "lengthWidth", "(I)I"⟩
abbrev cX10_lengthAt : ByteArray := prog_12_method_7_code
def yX10_lengthAt : MethodName := ⟨RX10, "lengthAt", "(I)J"⟩
abbrev cX10_isLike : ByteArray := prog_12_method_8_code
def yX10_isLike : MethodName := ⟨RX10, "isLike", "(LSignetRing$Span;)Z"⟩
abbrev cX10_copied : ByteArray := prog_12_method_9_code
def yX10_copied : MethodName := ⟨RX10, "copied", "(II)[B"⟩
def RX11 : String := "SignetRing"
def TX11 : u_T := fun k => match k with
  | 0 => ("SignetRing", "bytes", "LSignetRing$Bytes;", true)
  | 1 => ("SignetRing", "told", "LSignetRing$Bytes;", true)
  | 2 => ("SignetRing", "clear", "LSignetRing$Bytes;", true)
  | 3 => ("SignetRing", "packet", "LSignetRing$Bytes;", true)
  | 4 => ("SignetRing", "letter", "LSignetRing$Span;", true)
  | 5 => ("SignetRing", "packets", "LSignetRing$Packets;", true)
  | 6 => ("SignetRing", "signs", "LSignetRing$Signs;", true)
  | 7 => ("SignetRing", "toldDigest", "LSignetRing$Digest;", true)
  | 8 => ("SignetRing", "ring", "LSignetRing$Ring;", true)
  | 9 => ("SignetRing", "judge", "LSignetRing$Judge;", true)
  | 10 => ("SignetRing", "looked", "LSignetRing$Seal;", true)
  | 11 => ("SignetRing", "out", "LSignetRing$Bytes;", false)
  | 12 => ("SignetRing", "spare", "LSignetRing$Bytes;", false)
  | 13 => ("SignetRing", "toldHash", "I", false)
  | _ => ("SignetRing", "sealer", "LSignetRing$Key;", false)
def tyX11 : Nat → FieldType := fun k => match k with
  | 0 => .object "SignetRing$Bytes"
  | 1 => .object "SignetRing$Bytes"
  | 2 => .object "SignetRing$Bytes"
  | 3 => .object "SignetRing$Bytes"
  | 4 => .object "SignetRing$Span"
  | 5 => .object "SignetRing$Packets"
  | 6 => .object "SignetRing$Signs"
  | 7 => .object "SignetRing$Digest"
  | 8 => .object "SignetRing$Ring"
  | 9 => .object "SignetRing$Judge"
  | 10 => .object "SignetRing$Seal"
  | 11 => .object "SignetRing$Bytes"
  | 12 => .object "SignetRing$Bytes"
  | 13 => .int
  | _ => .object "SignetRing$Key"
abbrev wsX110 : List Cond := u_ws RX11 TX11 15
theorem nmX11 : ∀ a, a < 15 → ∀ b, b < 15 → a ≠ b → (TX11 a).2.1 ≠ (TX11 b).2.1 := by decide +kernel
theorem tyX11_ok : ∀ k, k < 15 → parseFieldDescriptor (TX11 k).2.2.1 = some (tyX11 k) := by decide +kernel
abbrev cX11_init : ByteArray := prog_1_method_1_code
def yX11_init : MethodName := ⟨RX11, "<init>", "()V"⟩
abbrev cX11_add : ByteArray := prog_1_method_2_code
def yX11_add : MethodName := ⟨RX11, "add", "(JI)Z"⟩
abbrev cX11_join : ByteArray := prog_1_method_3_code
def yX11_join : MethodName := ⟨RX11, "join", "()I"⟩
abbrev cX11_document : ByteArray := prog_1_method_4_code
def yX11_document : MethodName := ⟨RX11, "document", "()I"⟩
abbrev cX11_look : ByteArray := prog_1_method_5_code
def yX11_look : MethodName := ⟨RX11, "look", "(J)I"⟩
abbrev cX11_keys : ByteArray := prog_1_method_6_code
def yX11_keys : MethodName := ⟨RX11, "keys", "()I"⟩
abbrev cX11_key : ByteArray := prog_1_method_7_code
def yX11_key : MethodName := ⟨RX11, "key", "(II)J"⟩
abbrev cX11_print : ByteArray := prog_1_method_8_code
def yX11_print : MethodName := ⟨RX11, "print", "(III)I"⟩
abbrev cX11_usable : ByteArray := prog_1_method_9_code
def yX11_usable : MethodName := ⟨RX11, "usable", "(IIJ)I"⟩
abbrev cX11_seal : ByteArray := prog_1_method_10_code
def yX11_seal : MethodName := ⟨RX11, "seal", "(IIIJ)I"⟩
abbrev cX11_export : ByteArray := prog_1_method_11_code
def yX11_export : MethodName := ⟨RX11, "export", "(I)I"⟩
abbrev cX11_armor : ByteArray := prog_1_method_12_code
def yX11_armor : MethodName := ⟨RX11, "armor", "(I)I"⟩
abbrev cX11_out : ByteArray := prog_1_method_13_code
def yX11_out : MethodName := ⟨RX11, "out", "(I)I"⟩
abbrev cX11_sum : ByteArray := prog_1_method_14_code
def yX11_sum : MethodName := ⟨RX11, "sum", "()I"⟩
abbrev cX11_take : ByteArray := prog_1_method_15_code
def yX11_take : MethodName := ⟨RX11, "take", "()I"⟩
abbrev cX11_drop : ByteArray := prog_1_method_16_code
def yX11_drop : MethodName := ⟨RX11, "drop", "(I)I"⟩
abbrev cX11_hash : ByteArray := prog_1_method_17_code
def yX11_hash : MethodName := ⟨RX11, "hash", "(II)I"⟩
abbrev cX11_isTime : ByteArray := prog_1_method_18_code
def yX11_isTime : MethodName := ⟨RX11, "isTime", "(J)Z"⟩
abbrev cX11_found : ByteArray := prog_1_method_19_code
def yX11_found : MethodName := ⟨RX11, "found", "(II)LSignetRing$Key;"⟩
abbrev cX11_isInSigns : ByteArray := prog_1_method_20_code
def yX11_isInSigns : MethodName := ⟨RX11, "isInSigns", "()Z"⟩
abbrev cX11_openKeys : ByteArray := prog_1_method_21_code
def yX11_openKeys : MethodName := ⟨RX11, "openKeys", "()I"⟩
abbrev cX11_openSigns : ByteArray := prog_1_method_22_code
def yX11_openSigns : MethodName := ⟨RX11, "openSigns", "()I"⟩
abbrev cX11_openLooked : ByteArray := prog_1_method_23_code
def yX11_openLooked : MethodName := ⟨RX11, "openLooked", "()I"⟩
abbrev cX11_readClear : ByteArray := prog_1_method_24_code
def yX11_readClear : MethodName := ⟨RX11, "readClear", "()I"⟩
abbrev cX11_readSealed : ByteArray := prog_1_method_25_code
def yX11_readSealed : MethodName := ⟨RX11, "readSealed", "()I"⟩
abbrev cX11_readLetter : ByteArray := prog_1_method_26_code
def yX11_readLetter : MethodName := ⟨RX11, "readLetter", "()Z"⟩
abbrev cX11_readSeal : ByteArray := prog_1_method_27_code
def yX11_readSeal : MethodName := ⟨RX11, "readSeal", "()Z"⟩
abbrev cX11_readNothing : ByteArray := prog_1_method_28_code
def yX11_readNothing : MethodName := ⟨RX11, "readNothing", "()I"⟩
abbrev cX11_checkLooked : ByteArray := prog_1_method_29_code
def yX11_checkLooked : MethodName := ⟨RX11, "checkLooked", "(J)I"⟩
abbrev cX11_findSealer : ByteArray := prog_1_method_30_code
def yX11_findSealer : MethodName := ⟨RX11, "findSealer", "()LSignetRing$Key;"⟩
abbrev cX11_hasSealed : ByteArray := prog_1_method_31_code
def yX11_hasSealed : MethodName := ⟨RX11, "hasSealed", "(LSignetRing$Key;)Z"⟩
abbrev cX11_stripTold : ByteArray := prog_1_method_32_code
def yX11_stripTold : MethodName := ⟨RX11, "stripTold", "()V"⟩
abbrev cX11_makeSeal : ByteArray := prog_1_method_33_code
def yX11_makeSeal : MethodName := ⟨RX11, "makeSeal", "(LSignetRing$Key;IJLSignetRing$Span;)V"⟩
abbrev cX11_pushPrint : ByteArray := prog_1_method_34_code
def yX11_pushPrint : MethodName := ⟨RX11, "pushPrint", "(LSignetRing$Key;I)V"⟩
abbrev cX11_writeLetter : ByteArray := prog_1_method_35_code
def yX11_writeLetter : MethodName := ⟨RX11, "writeLetter", "(LSignetRing$Key;)V"⟩
abbrev cX11_writeClear : ByteArray := prog_1_method_36_code
def yX11_writeClear : MethodName := ⟨RX11, "writeClear", "()V"⟩
abbrev cX11_writePlace : ByteArray := prog_1_method_37_code
def yX11_writePlace : MethodName := ⟨RX11, "writePlace", "(LSignetRing$Place;)V"⟩
def RX12 : String := "SignetRingModel"
def TX12 : u_T := fun k => match k with
  | 0 => ("SignetRingModel", "thrown", "I", false)
  | 1 => ("SignetRingModel", "taped", "I", false)
  | 2 => ("SignetRingModel", "tape", "[I", true)
  | 3 => ("SignetRingModel", "document", "[I", false)
  | 4 => ("SignetRingModel", "outSize", "I", false)
  | 5 => ("SignetRingModel", "out", "[I", true)
  | 6 => ("SignetRingModel", "packets", "I", false)
  | 7 => ("SignetRingModel", "kinds", "[I", false)
  | 8 => ("SignetRingModel", "bodies", "[[I", false)
  | 9 => ("SignetRingModel", "secrets", "[[I", false)
  | 10 => ("SignetRingModel", "newPackets", "I", false)
  | 11 => ("SignetRingModel", "newKinds", "[I", false)
  | 12 => ("SignetRingModel", "newBodies", "[[I", false)
  | 13 => ("SignetRingModel", "newSecrets", "[[I", false)
  | 14 => ("SignetRingModel", "messageSize", "I", false)
  | 15 => ("SignetRingModel", "message", "[I", true)
  | 16 => ("SignetRingModel", "digest", "[I", true)
  | 17 => ("SignetRingModel", "words", "[I", true)
  | 18 => ("SignetRingModel", "state", "[I", true)
  | 19 => ("SignetRingModel", "now", "[I", true)
  | 20 => ("SignetRingModel", "digits", "I", false)
  | 21 => ("SignetRingModel", "modulus", "[J", true)
  | 22 => ("SignetRingModel", "sum", "[J", true)
  | 23 => ("SignetRingModel", "inverse", "J", false)
  | 24 => ("SignetRingModel", "base", "[J", true)
  | 25 => ("SignetRingModel", "result", "[J", true)
  | 26 => ("SignetRingModel", "square", "[J", true)
  | 27 => ("SignetRingModel", "told", "I", false)
  | 28 => ("SignetRingModel", "text", "[I", false)
  | 29 => ("SignetRingModel", "nextLine", "I", false)
  | 30 => ("SignetRingModel", "from", "I", false)
  | 31 => ("SignetRingModel", "to", "I", false)
  | 32 => ("SignetRingModel", "row", "[I", false)
  | 33 => ("SignetRingModel", "next", "I", false)
  | 34 => ("SignetRingModel", "place", "I", false)
  | 35 => ("SignetRingModel", "kind", "I", false)
  | 36 => ("SignetRingModel", "body", "[I", false)
  | 37 => ("SignetRingModel", "parts", "[I", false)
  | 38 => ("SignetRingModel", "collected", "I", false)
  | 39 => ("SignetRingModel", "keySize", "I", false)
  | 40 => ("SignetRingModel", "keyMade", "J", false)
  | 41 => ("SignetRingModel", "keyN", "[I", false)
  | 42 => ("SignetRingModel", "keyE", "[I", false)
  | 43 => ("SignetRingModel", "keySecret", "[I", false)
  | 44 => ("SignetRingModel", "of", "[I", false)
  | 45 => ("SignetRingModel", "at", "I", false)
  | 46 => ("SignetRingModel", "right", "Z", false)
  | 47 => ("SignetRingModel", "sealType", "I", false)
  | 48 => ("SignetRingModel", "sealHash", "I", false)
  | 49 => ("SignetRingModel", "sealEnd", "I", false)
  | 50 => ("SignetRingModel", "sealLeft", "I", false)
  | 51 => ("SignetRingModel", "sealNumber", "[I", false)
  | 52 => ("SignetRingModel", "sealMade", "J", false)
  | 53 => ("SignetRingModel", "sealEnds", "J", false)
  | 54 => ("SignetRingModel", "sealKeyEnds", "J", false)
  | 55 => ("SignetRingModel", "sealName", "[I", false)
  | 56 => ("SignetRingModel", "sealPrint", "[I", false)
  | 57 => ("SignetRingModel", "sealBack", "[I", false)
  | 58 => ("SignetRingModel", "sealWhat", "I", false)
  | 59 => ("SignetRingModel", "sealWhy", "I", false)
  | 60 => ("SignetRingModel", "isVain", "Z", false)
  | 61 => ("SignetRingModel", "wasSealed", "[Z", true)
  | 62 => ("SignetRingModel", "caseSeal", "[I", false)
  | _ => ("SignetRingModel", "caseText", "[I", false)
def tyX12 : Nat → FieldType := fun k => match k with
  | 0 => .int
  | 1 => .int
  | 2 => .array .int
  | 3 => .array .int
  | 4 => .int
  | 5 => .array .int
  | 6 => .int
  | 7 => .array .int
  | 8 => .array (.array .int)
  | 9 => .array (.array .int)
  | 10 => .int
  | 11 => .array .int
  | 12 => .array (.array .int)
  | 13 => .array (.array .int)
  | 14 => .int
  | 15 => .array .int
  | 16 => .array .int
  | 17 => .array .int
  | 18 => .array .int
  | 19 => .array .int
  | 20 => .int
  | 21 => .array .long
  | 22 => .array .long
  | 23 => .long
  | 24 => .array .long
  | 25 => .array .long
  | 26 => .array .long
  | 27 => .int
  | 28 => .array .int
  | 29 => .int
  | 30 => .int
  | 31 => .int
  | 32 => .array .int
  | 33 => .int
  | 34 => .int
  | 35 => .int
  | 36 => .array .int
  | 37 => .array .int
  | 38 => .int
  | 39 => .int
  | 40 => .long
  | 41 => .array .int
  | 42 => .array .int
  | 43 => .array .int
  | 44 => .array .int
  | 45 => .int
  | 46 => .boolean
  | 47 => .int
  | 48 => .int
  | 49 => .int
  | 50 => .int
  | 51 => .array .int
  | 52 => .long
  | 53 => .long
  | 54 => .long
  | 55 => .array .int
  | 56 => .array .int
  | 57 => .array .int
  | 58 => .int
  | 59 => .int
  | 60 => .boolean
  | 61 => .array .boolean
  | 62 => .array .int
  | _ => .array .int
abbrev wsX120 : List Cond := u_ws RX12 TX12 64
theorem nmX12 : ∀ a, a < 64 → ∀ b, b < 64 → a ≠ b → (TX12 a).2.1 ≠ (TX12 b).2.1 := by decide +kernel
theorem tyX12_ok : ∀ k, k < 64 → parseFieldDescriptor (TX12 k).2.2.1 = some (tyX12 k) := by decide +kernel
abbrev cX12_init : ByteArray := prog_14_method_1_code
def yX12_init : MethodName := ⟨RX12, "<init>", "()V"⟩
abbrev cX12_thrown : ByteArray := prog_14_method_2_code
def yX12_thrown : MethodName := ⟨RX12, "thrown", "()I"⟩
abbrev cX12_part : ByteArray := prog_14_method_3_code
def yX12_part : MethodName := ⟨RX12, "part", "([III)[I"⟩
abbrev cX12_areSame : ByteArray := prog_14_method_4_code
def yX12_areSame : MethodName := ⟨RX12, "areSame", "([I[I)Z"⟩
abbrev cX12_number : ByteArray := prog_14_method_5_code
def yX12_number : MethodName := ⟨RX12, "number", "([III)J"⟩
abbrev cX12_add : ByteArray := prog_14_method_6_code
def yX12_add : MethodName := ⟨RX12, "add", "(JI)Z"⟩
abbrev cX12_taken : ByteArray := prog_14_method_7_code
def yX12_taken : MethodName := ⟨RX12, "taken", "()[I"⟩
abbrev cX12_say : ByteArray := prog_14_method_8_code
def yX12_say : MethodName := ⟨RX12, "say", "(I)V"⟩
abbrev cX12_sayRow : ByteArray := prog_14_method_9_code
def yX12_sayRow : MethodName := ⟨RX12, "sayRow", "([III)V"⟩
abbrev cX12_sayNumber : ByteArray := prog_14_method_10_code
def yX12_sayNumber : MethodName := ⟨RX12, "sayNumber", "(JI)V"⟩
abbrev cX12_left : ByteArray := prog_14_method_11_code
def yX12_left : MethodName := ⟨RX12, "left", "(II)I"⟩
abbrev cX12_close : ByteArray := prog_14_method_12_code
def yX12_close : MethodName := ⟨RX12, "close", "()I"⟩
abbrev cX12_keep : ByteArray := prog_14_method_13_code
def yX12_keep : MethodName := ⟨RX12, "keep", "(II)V"⟩
abbrev cX12_firstHash : ByteArray := prog_14_method_14_code
def yX12_firstHash : MethodName := ⟨RX12, "firstHash", "()V"⟩
abbrev cX12_secondHash : ByteArray := prog_14_method_15_code
def yX12_secondHash : MethodName := ⟨RX12, "secondHash", "()V"⟩
abbrev cX12_hashOf : ByteArray := prog_14_method_16_code
def yX12_hashOf : MethodName := ⟨RX12, "hashOf", "(I)I"⟩
abbrev cX12_toDigits : ByteArray := prog_14_method_17_code
def yX12_toDigits : MethodName := ⟨RX12, "toDigits", "([I[J)V"⟩
abbrev cX12_isGreat : ByteArray := prog_14_method_18_code
def yX12_isGreat : MethodName := ⟨RX12, "isGreat", "()Z"⟩
abbrev cX12_less : ByteArray := prog_14_method_19_code
def yX12_less : MethodName := ⟨RX12, "less", "()V"⟩
abbrev cX12_product : ByteArray := prog_14_method_20_code
def yX12_product : MethodName := ⟨RX12, "product", "([J[J[J)V"⟩
abbrev cX12_raise : ByteArray := prog_14_method_21_code
def yX12_raise : MethodName := ⟨RX12, "raise", "([I[I[I)[I"⟩
abbrev cX12_bitsOf : ByteArray := prog_14_method_22_code
def yX12_bitsOf : MethodName := ⟨RX12, "bitsOf", "([I)I"⟩
abbrev cX12_isBelow : ByteArray := prog_14_method_23_code
def yX12_isBelow : MethodName := ⟨RX12, "isBelow", "([I[I)Z"⟩
abbrev cX12_fail : ByteArray := prog_14_method_24_code
def yX12_fail : MethodName := ⟨RX12, "fail", "(I)V"⟩
abbrev cX12_failLine : ByteArray := prog_14_method_25_code
def yX12_failLine : MethodName := ⟨RX12, "failLine", "(I)V"⟩
abbrev cX12_isBlank : ByteArray := prog_14_method_26_code
def yX12_isBlank : MethodName := ⟨RX12, "isBlank", "(I)Z"⟩
abbrev cX12_line : ByteArray := prog_14_method_27_code
def yX12_line : MethodName := ⟨RX12, "line", "()Z"⟩
abbrev cX12_label : ByteArray := prog_14_method_28_code
def yX12_label : MethodName := ⟨RX12, "label", "(I)Ljava/lang/String;"⟩
abbrev cX12_is : ByteArray := prog_14_method_29_code
def yX12_is : MethodName := ⟨RX12, "is", "(Ljava/lang/String;)Z"⟩
abbrev cX12_heads : ByteArray := prog_14_method_30_code
def yX12_heads : MethodName := ⟨RX12, "heads", "()V"⟩
abbrev cX12_valueOf : ByteArray := prog_14_method_31_code
def yX12_valueOf : MethodName := ⟨RX12, "valueOf", "(I)I"⟩
abbrev cX12_signOf : ByteArray := prog_14_method_32_code
def yX12_signOf : MethodName := ⟨RX12, "signOf", "(I)I"⟩
abbrev cX12_sumOf : ByteArray := prog_14_method_33_code
def yX12_sumOf : MethodName := ⟨RX12, "sumOf", "([II)I"⟩
abbrev cX12_sign : ByteArray := prog_14_method_34_code
def yX12_sign : MethodName := ⟨RX12, "sign", "(I)I"⟩
abbrev cX12_signs : ByteArray := prog_14_method_35_code
def yX12_signs : MethodName := ⟨RX12, "signs", "(Ljava/lang/String;)[I"⟩
abbrev cX12_signsByLabel : ByteArray := prog_14_method_36_code
def yX12_signsByLabel : MethodName := ⟨RX12, "signsByLabel", "()[I"⟩
abbrev cX12_startLines : ByteArray := prog_14_method_37_code
def yX12_startLines : MethodName := ⟨RX12, "startLines", "([I)V"⟩
abbrev cX12_failPacket : ByteArray := prog_14_method_38_code
def yX12_failPacket : MethodName := ⟨RX12, "failPacket", "()Z"⟩
abbrev cX12_open : ByteArray := prog_14_method_39_code
def yX12_open : MethodName := ⟨RX12, "open", "([I)V"⟩
abbrev cX12_byteOf : ByteArray := prog_14_method_40_code
def yX12_byteOf : MethodName := ⟨RX12, "byteOf", "()I"⟩
abbrev cX12_lengthOf : ByteArray := prog_14_method_41_code
def yX12_lengthOf : MethodName := ⟨RX12, "lengthOf", "(I)I"⟩
abbrev cX12_collect : ByteArray := prog_14_method_42_code
def yX12_collect : MethodName := ⟨RX12, "collect", "(I)V"⟩
abbrev cX12_packet : ByteArray := prog_14_method_43_code
def yX12_packet : MethodName := ⟨RX12, "packet", "()Z"⟩
abbrev cX12_one : ByteArray := prog_14_method_44_code
def yX12_one : MethodName := ⟨RX12, "one", "()I"⟩
abbrev cX12_some : ByteArray := prog_14_method_45_code
def yX12_some : MethodName := ⟨RX12, "some", "(I)J"⟩
abbrev cX12_numberOf : ByteArray := prog_14_method_46_code
def yX12_numberOf : MethodName := ⟨RX12, "numberOf", "()[I"⟩
abbrev cX12_readKey : ByteArray := prog_14_method_47_code
def yX12_readKey : MethodName := ⟨RX12, "readKey", "([IZ)Z"⟩
abbrev cX12_sayKey : ByteArray := prog_14_method_48_code
def yX12_sayKey : MethodName := ⟨RX12, "sayKey", "([I)V"⟩
abbrev cX12_printOf : ByteArray := prog_14_method_49_code
def yX12_printOf : MethodName := ⟨RX12, "printOf", "([I)[I"⟩
abbrev cX12_isOurs : ByteArray := prog_14_method_50_code
def yX12_isOurs : MethodName := ⟨RX12, "isOurs", "([I)Z"⟩
abbrev cX12_takes : ByteArray := prog_14_method_51_code
def yX12_takes : MethodName := ⟨RX12, "takes", "(IZ)Z"⟩
abbrev cX12_readNote : ByteArray := prog_14_method_52_code
def yX12_readNote : MethodName := ⟨RX12, "readNote", "(IZZ[I)Z"⟩
abbrev cX12_readNotes : ByteArray := prog_14_method_53_code
def yX12_readNotes : MethodName := ⟨RX12, "readNotes", "(Z)Z"⟩
abbrev cX12_readSeal : ByteArray := prog_14_method_54_code
def yX12_readSeal : MethodName := ⟨RX12, "readSeal", "([I)Z"⟩
abbrev cX12_hasEnded : ByteArray := prog_14_method_55_code
def yX12_hasEnded : MethodName := ⟨RX12, "hasEnded", "(J)Z"⟩
abbrev cX12_padded : ByteArray := prog_14_method_56_code
def yX12_padded : MethodName := ⟨RX12, "padded", "(III)[I"⟩
abbrev cX12_isTrue : ByteArray := prog_14_method_57_code
def yX12_isTrue : MethodName := ⟨RX12, "isTrue", "([I[I)Z"⟩
abbrev cX12_isKeyKind : ByteArray := prog_14_method_58_code
def yX12_isKeyKind : MethodName := ⟨RX12, "isKeyKind", "(I)Z"⟩
abbrev cX12_isPartKind : ByteArray := prog_14_method_59_code
def yX12_isPartKind : MethodName := ⟨RX12, "isPartKind", "(I)Z"⟩
abbrev cX12_endOf : ByteArray := prog_14_method_60_code
def yX12_endOf : MethodName := ⟨RX12, "endOf", "(I)I"⟩
abbrev cX12_behindSeals : ByteArray := prog_14_method_61_code
def yX12_behindSeals : MethodName := ⟨RX12, "behindSeals", "(I)I"⟩
abbrev cX12_insert : ByteArray := prog_14_method_62_code
def yX12_insert : MethodName := ⟨RX12, "insert", "(II[I[I)V"⟩
abbrev cX12_countOf : ByteArray := prog_14_method_63_code
def yX12_countOf : MethodName := ⟨RX12, "countOf", "(III)I"⟩
abbrev cX12_find : ByteArray := prog_14_method_64_code
def yX12_find : MethodName := ⟨RX12, "find", "(III[I)I"⟩
abbrev cX12_findPrint : ByteArray := prog_14_method_65_code
def yX12_findPrint : MethodName := ⟨RX12, "findPrint", "(III[I)I"⟩
abbrev cX12_comes : ByteArray := prog_14_method_66_code
def yX12_comes : MethodName := ⟨RX12, "comes", "(IIII)I"⟩
abbrev cX12_usersEnd : ByteArray := prog_14_method_67_code
def yX12_usersEnd : MethodName := ⟨RX12, "usersEnd", "(I)I"⟩
abbrev cX12_readKeys : ByteArray := prog_14_method_68_code
def yX12_readKeys : MethodName := ⟨RX12, "readKeys", "()I"⟩
abbrev cX12_userComes : ByteArray := prog_14_method_69_code
def yX12_userComes : MethodName := ⟨RX12, "userComes", "(I)I"⟩
abbrev cX12_sealComes : ByteArray := prog_14_method_70_code
def yX12_sealComes : MethodName := ⟨RX12, "sealComes", "(I)V"⟩
abbrev cX12_join : ByteArray := prog_14_method_71_code
def yX12_join : MethodName := ⟨RX12, "join", "()I"⟩
abbrev cX12_placeOf : ByteArray := prog_14_method_72_code
def yX12_placeOf : MethodName := ⟨RX12, "placeOf", "(I)I"⟩
abbrev cX12_lastOf : ByteArray := prog_14_method_73_code
def yX12_lastOf : MethodName := ⟨RX12, "lastOf", "(I)I"⟩
abbrev cX12_partOf : ByteArray := prog_14_method_74_code
def yX12_partOf : MethodName := ⟨RX12, "partOf", "(II)I"⟩
abbrev cX12_howMany : ByteArray := prog_14_method_75_code
def yX12_howMany : MethodName := ⟨RX12, "howMany", "(II)I"⟩
abbrev cX12_isTrueAt : ByteArray := prog_14_method_76_code
def yX12_isTrueAt : MethodName := ⟨RX12, "isTrueAt", "([III[I)Z"⟩
abbrev cX12_counts : ByteArray := prog_14_method_77_code
def yX12_counts : MethodName := ⟨RX12, "counts", "(IIIJ)Z"⟩
abbrev cX12_typeAt : ByteArray := prog_14_method_78_code
def yX12_typeAt : MethodName := ⟨RX12, "typeAt", "(I)I"⟩
abbrev cX12_latestOf : ByteArray := prog_14_method_79_code
def yX12_latestOf : MethodName := ⟨RX12, "latestOf", "(IIIIJ)I"⟩
abbrev cX12_madeAt : ByteArray := prog_14_method_80_code
def yX12_madeAt : MethodName := ⟨RX12, "madeAt", "(I)J"⟩
abbrev cX12_isDropped : ByteArray := prog_14_method_81_code
def yX12_isDropped : MethodName := ⟨RX12, "isDropped", "(IIIJ)Z"⟩
abbrev cX12_bondOf : ByteArray := prog_14_method_82_code
def yX12_bondOf : MethodName := ⟨RX12, "bondOf", "(IJ)I"⟩
abbrev cX12_isRevoked : ByteArray := prog_14_method_83_code
def yX12_isRevoked : MethodName := ⟨RX12, "isRevoked", "(IIIJ)Z"⟩
abbrev cX12_byBond : ByteArray := prog_14_method_84_code
def yX12_byBond : MethodName := ⟨RX12, "byBond", "(IJJZ)I"⟩
abbrev cX12_usableKey : ByteArray := prog_14_method_85_code
def yX12_usableKey : MethodName := ⟨RX12, "usableKey", "(IJ)I"⟩
abbrev cX12_isBacked : ByteArray := prog_14_method_86_code
def yX12_isBacked : MethodName := ⟨RX12, "isBacked", "(IIIJ)Z"⟩
abbrev cX12_usableAt : ByteArray := prog_14_method_87_code
def yX12_usableAt : MethodName := ⟨RX12, "usableAt", "(IIJ)I"⟩
abbrev cX12_document : ByteArray := prog_14_method_88_code
def yX12_document : MethodName := ⟨RX12, "document", "()I"⟩
abbrev cX12_sayText : ByteArray := prog_14_method_89_code
def yX12_sayText : MethodName := ⟨RX12, "sayText", "([IZ)V"⟩
abbrev cX12_ownSeal : ByteArray := prog_14_method_90_code
def yX12_ownSeal : MethodName := ⟨RX12, "ownSeal", "()Z"⟩
abbrev cX12_mustEnd : ByteArray := prog_14_method_91_code
def yX12_mustEnd : MethodName := ⟨RX12, "mustEnd", "()V"⟩
abbrev cX12_readPackets : ByteArray := prog_14_method_92_code
def yX12_readPackets : MethodName := ⟨RX12, "readPackets", "([I)V"⟩
abbrev cX12_readClear : ByteArray := prog_14_method_93_code
def yX12_readClear : MethodName := ⟨RX12, "readClear", "()V"⟩
abbrev cX12_readCase : ByteArray := prog_14_method_94_code
def yX12_readCase : MethodName := ⟨RX12, "readCase", "([I)V"⟩
abbrev cX12_isTime : ByteArray := prog_14_method_95_code
def yX12_isTime : MethodName := ⟨RX12, "isTime", "(J)Z"⟩
abbrev cX12_isNamed : ByteArray := prog_14_method_96_code
def yX12_isNamed : MethodName := ⟨RX12, "isNamed", "([I)Z"⟩
abbrev cX12_look : ByteArray := prog_14_method_97_code
def yX12_look : MethodName := ⟨RX12, "look", "(J)I"⟩
abbrev cX12_keys : ByteArray := prog_14_method_98_code
def yX12_keys : MethodName := ⟨RX12, "keys", "()I"⟩
abbrev cX12_key : ByteArray := prog_14_method_99_code
def yX12_key : MethodName := ⟨RX12, "key", "(II)J"⟩
abbrev cX12_thingOf : ByteArray := prog_14_method_100_code
def yX12_thingOf : MethodName := ⟨RX12, "thingOf", "(II)I"⟩
abbrev cX12_print : ByteArray := prog_14_method_101_code
def yX12_print : MethodName := ⟨RX12, "print", "(III)I"⟩
abbrev cX12_usable : ByteArray := prog_14_method_102_code
def yX12_usable : MethodName := ⟨RX12, "usable", "(IIJ)I"⟩
abbrev cX12_put : ByteArray := prog_14_method_103_code
def yX12_put : MethodName := ⟨RX12, "put", "(I)V"⟩
abbrev cX12_putRow : ByteArray := prog_14_method_104_code
def yX12_putRow : MethodName := ⟨RX12, "putRow", "([I)V"⟩
abbrev cX12_putLength : ByteArray := prog_14_method_105_code
def yX12_putLength : MethodName := ⟨RX12, "putLength", "(I)V"⟩
abbrev cX12_putPacket : ByteArray := prog_14_method_106_code
def yX12_putPacket : MethodName := ⟨RX12, "putPacket", "(I[I)V"⟩
abbrev cX12_putText : ByteArray := prog_14_method_107_code
def yX12_putText : MethodName := ⟨RX12, "putText", "(Ljava/lang/String;)V"⟩
abbrev cX12_made : ByteArray := prog_14_method_108_code
def yX12_made : MethodName := ⟨RX12, "made", "(II[IJ)[I"⟩
abbrev cX12_sealClear : ByteArray := prog_14_method_109_code
def yX12_sealClear : MethodName := ⟨RX12, "sealClear", "(IJ)V"⟩
abbrev cX12_seal : ByteArray := prog_14_method_110_code
def yX12_seal : MethodName := ⟨RX12, "seal", "(IIIJ)I"⟩
abbrev cX12_export : ByteArray := prog_14_method_111_code
def yX12_export : MethodName := ⟨RX12, "export", "(I)I"⟩
abbrev cX12_putSigns : ByteArray := prog_14_method_112_code
def yX12_putSigns : MethodName := ⟨RX12, "putSigns", "([II)V"⟩
abbrev cX12_armor : ByteArray := prog_14_method_113_code
def yX12_armor : MethodName := ⟨RX12, "armor", "(I)I"⟩
abbrev cX12_out : ByteArray := prog_14_method_114_code
def yX12_out : MethodName := ⟨RX12, "out", "(I)I"⟩
abbrev cX12_sum : ByteArray := prog_14_method_115_code
def yX12_sum : MethodName := ⟨RX12, "sum", "()I"⟩
abbrev cX12_take : ByteArray := prog_14_method_116_code
def yX12_take : MethodName := ⟨RX12, "take", "()I"⟩
abbrev cX12_drop : ByteArray := prog_14_method_117_code
def yX12_drop : MethodName := ⟨RX12, "drop", "(I)I"⟩
abbrev cX12_hash : ByteArray := prog_14_method_118_code
def yX12_hash : MethodName := ⟨RX12, "hash", "(II)I"⟩
def RJx145de : String := "java/io/Serializable"
def TJx145de : u_T := fun k => match k with
  | _ => ("", "", "", false)
def tyJx145de : Nat → FieldType := fun k => match k with
  | _ => .int
abbrev wsJx145de0 : List Cond := u_ws RJx145de TJx145de 0
theorem nmJx145de : ∀ a, a < 0 → ∀ b, b < 0 → a ≠ b → (TJx145de a).2.1 ≠ (TJx145de b).2.1 := by decide +kernel
theorem tyJx145de_ok : ∀ k, k < 0 → parseFieldDescriptor (TJx145de k).2.2.1 = some (tyJx145de k) := by decide +kernel
def RJ5 : String := "java/lang/AbstractStringBuilder"
def TJ5 : u_T := fun k => match k with
  | _ => ("", "", "", false)
def tyJ5 : Nat → FieldType := fun k => match k with
  | _ => .int
abbrev wsJ50 : List Cond := u_ws RJ5 TJ5 0
theorem nmJ5 : ∀ a, a < 0 → ∀ b, b < 0 → a ≠ b → (TJ5 a).2.1 ≠ (TJ5 b).2.1 := by decide +kernel
theorem tyJ5_ok : ∀ k, k < 0 → parseFieldDescriptor (TJ5 k).2.2.1 = some (tyJ5 k) := by decide +kernel
abbrev cJ5_init_d00df : ByteArray := prog_16_method_2_code
def yJ5_init_d00df : MethodName := ⟨RJ5, "<init>", "(I)V"⟩
abbrev cJ5_length_8abf5 : ByteArray := prog_16_method_6_code
def yJ5_length_8abf5 : MethodName := ⟨RJ5, "length", "()I"⟩
abbrev cJ5_ensureCapacityInternal_d00df : ByteArray := prog_16_method_9_code
def yJ5_ensureCapacityInternal_d00df : MethodName := ⟨RJ5, "ensureCapacityInternal", "(I)V"⟩
abbrev cJ5_newCapacity_0f7a4 : ByteArray := prog_16_method_10_code
def yJ5_newCapacity_0f7a4 : MethodName := ⟨RJ5, "newCapacity", "(I)I"⟩
abbrev cJ5_inflate_da8c8 : ByteArray := prog_16_method_11_code
def yJ5_inflate_da8c8 : MethodName := ⟨RJ5, "inflate", "()V"⟩
abbrev cJ5_append_cf1ce : ByteArray := prog_16_method_22_code
def yJ5_append_cf1ce : MethodName := ⟨RJ5, "append", "(Ljava/lang/String;)Ljava/lang/AbstractStringBuilder;"⟩
abbrev cJ5_appendNull_278bc : ByteArray := prog_16_method_26_code
def yJ5_appendNull_278bc : MethodName := ⟨RJ5, "appendNull", "()Ljava/lang/AbstractStringBuilder;"⟩
abbrev cJ5_append_c97b9 : ByteArray := prog_16_method_32_code
def yJ5_append_c97b9 : MethodName := ⟨RJ5, "append", "(I)Ljava/lang/AbstractStringBuilder;"⟩
abbrev cJ5_getValue_6d5f1 : ByteArray := prog_16_method_64_code
def yJ5_getValue_6d5f1 : MethodName := ⟨RJ5, "getValue", "()[B"⟩
abbrev cJ5_isLatin1_aae02 : ByteArray := prog_16_method_68_code
def yJ5_isLatin1_aae02 : MethodName := ⟨RJ5, "isLatin1", "()Z"⟩
abbrev cJ5_inflateIfNeededFor_a7421 : ByteArray := prog_16_method_71_code
def yJ5_inflateIfNeededFor_a7421 : MethodName := ⟨RJ5, "inflateIfNeededFor", "(Ljava/lang/String;)V"⟩
abbrev cJ5_putStringAt_47b60 : ByteArray := prog_16_method_73_code
def yJ5_putStringAt_47b60 : MethodName := ⟨RJ5, "putStringAt", "(ILjava/lang/String;)V"⟩
def RJx00060 : String := "java/lang/ArrayIndexOutOfBoundsException"
def TJx00060 : u_T := fun k => match k with
  | 0 => ("java/lang/Throwable", "cause", "Ljava/lang/Throwable;", false)
  | 1 => ("java/lang/Throwable", "stackTrace", "[Ljava/lang/StackTraceElement;", false)
  | 2 => ("java/lang/Throwable", "suppressedExceptions", "Ljava/util/List;", false)
  | 3 => ("java/lang/Throwable", "detailMessage", "Ljava/lang/String;", false)
  | 4 => ("java/lang/Throwable", "backtrace", "Ljava/lang/Object;", false)
  | _ => ("java/lang/Throwable", "depth", "I", false)
def tyJx00060 : Nat → FieldType := fun k => match k with
  | 0 => .object "java/lang/Throwable"
  | 1 => .array (.object "java/lang/StackTraceElement")
  | 2 => .object "java/util/List"
  | 3 => .object "java/lang/String"
  | 4 => .object "java/lang/Object"
  | _ => .int
abbrev wsJx000600 : List Cond := u_ws RJx00060 TJx00060 6
theorem nmJx00060 : ∀ a, a < 6 → ∀ b, b < 6 → a ≠ b → (TJx00060 a).2.1 ≠ (TJx00060 b).2.1 := by decide +kernel
theorem tyJx00060_ok : ∀ k, k < 6 → parseFieldDescriptor (TJx00060 k).2.2.1 = some (tyJx00060 k) := by decide +kernel
abbrev cJx00060_init_da8c8 : ByteArray := prog_17_method_1_code
def yJx00060_init_da8c8 : MethodName := ⟨RJx00060, "<init>", "()V"⟩
def RJx8e188 : String := "java/lang/Cloneable"
def TJx8e188 : u_T := fun k => match k with
  | _ => ("", "", "", false)
def tyJx8e188 : Nat → FieldType := fun k => match k with
  | _ => .int
abbrev wsJx8e1880 : List Cond := u_ws RJx8e188 TJx8e188 0
theorem nmJx8e188 : ∀ a, a < 0 → ∀ b, b < 0 → a ≠ b → (TJx8e188 a).2.1 ≠ (TJx8e188 b).2.1 := by decide +kernel
theorem tyJx8e188_ok : ∀ k, k < 0 → parseFieldDescriptor (TJx8e188 k).2.2.1 = some (tyJx8e188 k) := by decide +kernel
def RJ6 : String := "java/lang/Integer"
def TJ6 : u_T := fun k => match k with
  | _ => ("", "", "", false)
def tyJ6 : Nat → FieldType := fun k => match k with
  | _ => .int
abbrev wsJ60 : List Cond := u_ws RJ6 TJ6 0
theorem nmJ6 : ∀ a, a < 0 → ∀ b, b < 0 → a ≠ b → (TJ6 a).2.1 ≠ (TJ6 b).2.1 := by decide +kernel
theorem tyJ6_ok : ∀ k, k < 0 → parseFieldDescriptor (TJ6 k).2.2.1 = some (tyJ6 k) := by decide +kernel
abbrev cJ6_getChars_ba4f3 : ByteArray := prog_23_method_12_code
def yJ6_getChars_ba4f3 : MethodName := ⟨RJ6, "getChars", "(II[B)I"⟩
abbrev cJ6_stringSize_0f7a4 : ByteArray := prog_23_method_13_code
def yJ6_stringSize_0f7a4 : MethodName := ⟨RJ6, "stringSize", "(I)I"⟩
def RJxab1ab : String := "java/lang/Iterable"
def TJxab1ab : u_T := fun k => match k with
  | _ => ("", "", "", false)
def tyJxab1ab : Nat → FieldType := fun k => match k with
  | _ => .int
abbrev wsJxab1ab0 : List Cond := u_ws RJxab1ab TJxab1ab 0
theorem nmJxab1ab : ∀ a, a < 0 → ∀ b, b < 0 → a ≠ b → (TJxab1ab a).2.1 ≠ (TJxab1ab b).2.1 := by decide +kernel
theorem tyJxab1ab_ok : ∀ k, k < 0 → parseFieldDescriptor (TJxab1ab k).2.2.1 = some (tyJxab1ab k) := by decide +kernel
def RJ9 : String := "java/lang/Math"
def TJ9 : u_T := fun k => match k with
  | _ => ("", "", "", false)
def tyJ9 : Nat → FieldType := fun k => match k with
  | _ => .int
abbrev wsJ90 : List Cond := u_ws RJ9 TJ9 0
theorem nmJ9 : ∀ a, a < 0 → ∀ b, b < 0 → a ≠ b → (TJ9 a).2.1 ≠ (TJ9 b).2.1 := by decide +kernel
theorem tyJ9_ok : ∀ k, k < 0 → parseFieldDescriptor (TJ9 k).2.2.1 = some (tyJ9 k) := by decide +kernel
abbrev cJ9_max_7cf53 : ByteArray := prog_25_method_65_code
def yJ9_max_7cf53 : MethodName := ⟨RJ9, "max", "(II)I"⟩
abbrev cJ9_min_7cf53 : ByteArray := prog_25_method_69_code
def yJ9_min_7cf53 : MethodName := ⟨RJ9, "min", "(II)I"⟩
def RJ0 : String := "java/lang/String"
def TJ0 : u_T := fun k => match k with
  | 0 => ("java/lang/String", "value", "[B", true)
  | 1 => ("java/lang/String", "coder", "B", true)
  | 2 => ("java/lang/String", "hash", "I", false)
  | _ => ("java/lang/String", "hashIsZero", "Z", false)
def tyJ0 : Nat → FieldType := fun k => match k with
  | 0 => .array .byte
  | 1 => .byte
  | 2 => .int
  | _ => .boolean
abbrev wsJ00 : List Cond := u_ws RJ0 TJ0 4
theorem nmJ0 : ∀ a, a < 4 → ∀ b, b < 4 → a ≠ b → (TJ0 a).2.1 ≠ (TJ0 b).2.1 := by decide +kernel
theorem tyJ0_ok : ∀ k, k < 4 → parseFieldDescriptor (TJ0 k).2.2.1 = some (tyJ0 k) := by decide +kernel
abbrev cJ0_init_81219 : ByteArray := prog_27_method_53_code
def yJ0_init_81219 : MethodName := ⟨RJ0, "<init>", "(Ljava/lang/StringBuilder;)V"⟩
abbrev cJ0_length_8abf5 : ByteArray := prog_27_method_54_code
def yJ0_length_8abf5 : MethodName := ⟨RJ0, "length", "()I"⟩
abbrev cJ0_charAt_5068e : ByteArray := prog_27_method_56_code
def yJ0_charAt_5068e : MethodName := ⟨RJ0, "charAt", "(I)C"⟩
abbrev cJ0_getBytes_840e7 : ByteArray := prog_27_method_147_code
def yJ0_getBytes_840e7 : MethodName := ⟨RJ0, "getBytes", "([BIB)V"⟩
abbrev cJ0_init_db425 : ByteArray := prog_27_method_150_code
def yJ0_init_db425 : MethodName := ⟨RJ0, "<init>", "(Ljava/lang/AbstractStringBuilder;Ljava/lang/Void;)V"⟩
abbrev cJ0_coder_7d493 : ByteArray := prog_27_method_152_code
def yJ0_coder_7d493 : MethodName := ⟨RJ0, "coder", "()B"⟩
abbrev cJ0_isLatin1_aae02 : ByteArray := prog_27_method_154_code
def yJ0_isLatin1_aae02 : MethodName := ⟨RJ0, "isLatin1", "()Z"⟩
abbrev cJ0_checkIndex_df160 : ByteArray := prog_27_method_155_code
def yJ0_checkIndex_df160 : MethodName := ⟨RJ0, "checkIndex", "(II)V"⟩
abbrev cJ0_checkBoundsOffCount_cabcc : ByteArray := prog_27_method_157_code
def yJ0_checkBoundsOffCount_cabcc : MethodName := ⟨RJ0, "checkBoundsOffCount", "(III)I"⟩
abbrev cJ0_checkBoundsBeginEnd_23922 : ByteArray := prog_27_method_158_code
def yJ0_checkBoundsBeginEnd_23922 : MethodName := ⟨RJ0, "checkBoundsBeginEnd", "(III)V"⟩
def RJ4 : String := "java/lang/StringBuilder"
def TJ4 : u_T := fun k => match k with
  | 0 => ("java/lang/AbstractStringBuilder", "value", "[B", false)
  | 1 => ("java/lang/AbstractStringBuilder", "coder", "B", false)
  | 2 => ("java/lang/AbstractStringBuilder", "maybeLatin1", "Z", false)
  | _ => ("java/lang/AbstractStringBuilder", "count", "I", false)
def tyJ4 : Nat → FieldType := fun k => match k with
  | 0 => .array .byte
  | 1 => .byte
  | 2 => .boolean
  | _ => .int
abbrev wsJ40 : List Cond := u_ws RJ4 TJ4 4
theorem nmJ4 : ∀ a, a < 4 → ∀ b, b < 4 → a ≠ b → (TJ4 a).2.1 ≠ (TJ4 b).2.1 := by decide +kernel
theorem tyJ4_ok : ∀ k, k < 4 → parseFieldDescriptor (TJ4 k).2.2.1 = some (tyJ4 k) := by decide +kernel
abbrev cJ4_init_da8c8 : ByteArray := prog_28_method_1_code
def yJ4_init_da8c8 : MethodName := ⟨RJ4, "<init>", "()V"⟩
abbrev cJ4_append_15ec4 : ByteArray := prog_28_method_7_code
def yJ4_append_15ec4 : MethodName := ⟨RJ4, "append", "(Ljava/lang/String;)Ljava/lang/StringBuilder;"⟩
abbrev cJ4_append_bf812 : ByteArray := prog_28_method_15_code
def yJ4_append_bf812 : MethodName := ⟨RJ4, "append", "(I)Ljava/lang/StringBuilder;"⟩
abbrev cJ4_toString_0e30d : ByteArray := prog_28_method_42_code
def yJ4_toString_0e30d : MethodName := ⟨RJ4, "toString", "()Ljava/lang/String;"⟩
abbrev cJ4_length_8abf5 : ByteArray := prog_28_method_93_code
def yJ4_length_8abf5 : MethodName := ⟨RJ4, "length", "()I"⟩
def RJ1 : String := "java/lang/StringLatin1"
def TJ1 : u_T := fun k => match k with
  | _ => ("", "", "", false)
def tyJ1 : Nat → FieldType := fun k => match k with
  | _ => .int
abbrev wsJ10 : List Cond := u_ws RJ1 TJ1 0
theorem nmJ1 : ∀ a, a < 0 → ∀ b, b < 0 → a ≠ b → (TJ1 a).2.1 ≠ (TJ1 b).2.1 := by decide +kernel
theorem tyJ1_ok : ∀ k, k < 0 → parseFieldDescriptor (TJ1 k).2.2.1 = some (tyJ1 k) := by decide +kernel
abbrev cJ1_charAt_3b067 : ByteArray := prog_29_method_2_code
def yJ1_charAt_3b067 : MethodName := ⟨RJ1, "charAt", "([BI)C"⟩
abbrev cJ1_inflate_0e8fd : ByteArray := prog_29_method_50_code
def yJ1_inflate_0e8fd : MethodName := ⟨RJ1, "inflate", "([BI[BII)V"⟩
def RJ2 : String := "java/lang/StringUTF16"
def TJ2 : u_T := fun k => match k with
  | _ => ("", "", "", false)
def tyJ2 : Nat → FieldType := fun k => match k with
  | _ => .int
abbrev wsJ20 : List Cond := u_ws RJ2 TJ2 0
theorem nmJ2 : ∀ a, a < 0 → ∀ b, b < 0 → a ≠ b → (TJ2 a).2.1 ≠ (TJ2 b).2.1 := by decide +kernel
theorem tyJ2_ok : ∀ k, k < 0 → parseFieldDescriptor (TJ2 k).2.2.1 = some (tyJ2 k) := by decide +kernel
abbrev cJ2_newBytesFor_77867 : ByteArray := prog_30_method_2_code
def yJ2_newBytesFor_77867 : MethodName := ⟨RJ2, "newBytesFor", "(I)[B"⟩
abbrev cJ2_newBytesLength_0f7a4 : ByteArray := prog_30_method_3_code
def yJ2_newBytesLength_0f7a4 : MethodName := ⟨RJ2, "newBytesLength", "(I)I"⟩
abbrev cJ2_putChar_b72d1 : ByteArray := prog_30_method_4_code
def yJ2_putChar_b72d1 : MethodName := ⟨RJ2, "putChar", "([BII)V"⟩
abbrev cJ2_getChar_3b067 : ByteArray := prog_30_method_5_code
def yJ2_getChar_3b067 : MethodName := ⟨RJ2, "getChar", "([BI)C"⟩
abbrev cJ2_length_9d52b : ByteArray := prog_30_method_6_code
def yJ2_length_9d52b : MethodName := ⟨RJ2, "length", "([B)I"⟩
abbrev cJ2_coderFromArrayLen_85cad : ByteArray := prog_30_method_15_code
def yJ2_coderFromArrayLen_85cad : MethodName := ⟨RJ2, "coderFromArrayLen", "([BI)B"⟩
abbrev cJ2_compress_39247 : ByteArray := prog_30_method_17_code
def yJ2_compress_39247 : MethodName := ⟨RJ2, "compress", "([BII)[B"⟩
abbrev cJ2_compress_5af95 : ByteArray := prog_30_method_22_code
def yJ2_compress_5af95 : MethodName := ⟨RJ2, "compress", "([BI[BII)I"⟩
abbrev cJ2_getChars_46870 : ByteArray := prog_30_method_77_code
def yJ2_getChars_46870 : MethodName := ⟨RJ2, "getChars", "(III[B)I"⟩
abbrev cJ2_putCharsAt_cd4e5 : ByteArray := prog_30_method_81_code
def yJ2_putCharsAt_cd4e5 : MethodName := ⟨RJ2, "putCharsAt", "([BICCCC)I"⟩
abbrev cJ2_charAt_3b067 : ByteArray := prog_30_method_83_code
def yJ2_charAt_3b067 : MethodName := ⟨RJ2, "charAt", "([BI)C"⟩
abbrev cJ2_inflate_0e8fd : ByteArray := prog_30_method_86_code
def yJ2_inflate_0e8fd : MethodName := ⟨RJ2, "inflate", "([BI[BII)V"⟩
abbrev cJ2_getChars_ba4f3 : ByteArray := prog_30_method_89_code
def yJ2_getChars_ba4f3 : MethodName := ⟨RJ2, "getChars", "(II[B)I"⟩
abbrev cJ2_checkIndex_2214a : ByteArray := prog_30_method_91_code
def yJ2_checkIndex_2214a : MethodName := ⟨RJ2, "checkIndex", "(I[B)V"⟩
abbrev cJ2_checkBoundsBeginEnd_d044e : ByteArray := prog_30_method_93_code
def yJ2_checkBoundsBeginEnd_d044e : MethodName := ⟨RJ2, "checkBoundsBeginEnd", "(II[B)V"⟩
abbrev cJ2_checkBoundsOffCount_d044e : ByteArray := prog_30_method_94_code
def yJ2_checkBoundsOffCount_d044e : MethodName := ⟨RJ2, "checkBoundsOffCount", "(II[B)V"⟩
def RJ10 : String := "java/lang/System"
def TJ10 : u_T := fun k => match k with
  | _ => ("", "", "", false)
def tyJ10 : Nat → FieldType := fun k => match k with
  | _ => .int
abbrev wsJ100 : List Cond := u_ws RJ10 TJ10 0
theorem nmJ10 : ∀ a, a < 0 → ∀ b, b < 0 → a ≠ b → (TJ10 a).2.1 ≠ (TJ10 b).2.1 := by decide +kernel
theorem tyJ10_ok : ∀ k, k < 0 → parseFieldDescriptor (TJ10 k).2.2.1 = some (tyJ10 k) := by decide +kernel
def RJxa1e45 : String := "java/util/AbstractCollection"
def TJxa1e45 : u_T := fun k => match k with
  | _ => ("", "", "", false)
def tyJxa1e45 : Nat → FieldType := fun k => match k with
  | _ => .int
abbrev wsJxa1e450 : List Cond := u_ws RJxa1e45 TJxa1e45 0
theorem nmJxa1e45 : ∀ a, a < 0 → ∀ b, b < 0 → a ≠ b → (TJxa1e45 a).2.1 ≠ (TJxa1e45 b).2.1 := by decide +kernel
theorem tyJxa1e45_ok : ∀ k, k < 0 → parseFieldDescriptor (TJxa1e45 k).2.2.1 = some (tyJxa1e45 k) := by decide +kernel
abbrev cJxa1e45_init_da8c8 : ByteArray := prog_34_method_1_code
def yJxa1e45_init_da8c8 : MethodName := ⟨RJxa1e45, "<init>", "()V"⟩
def RJxc12de : String := "java/util/AbstractList"
def TJxc12de : u_T := fun k => match k with
  | _ => ("", "", "", false)
def tyJxc12de : Nat → FieldType := fun k => match k with
  | _ => .int
abbrev wsJxc12de0 : List Cond := u_ws RJxc12de TJxc12de 0
theorem nmJxc12de : ∀ a, a < 0 → ∀ b, b < 0 → a ≠ b → (TJxc12de a).2.1 ≠ (TJxc12de b).2.1 := by decide +kernel
theorem tyJxc12de_ok : ∀ k, k < 0 → parseFieldDescriptor (TJxc12de k).2.2.1 = some (tyJxc12de k) := by decide +kernel
abbrev cJxc12de_init_da8c8 : ByteArray := prog_35_method_1_code
def yJxc12de_init_da8c8 : MethodName := ⟨RJxc12de, "<init>", "()V"⟩
def RJx4a65c : String := "java/util/ArrayList"
def TJx4a65c : u_T := fun k => match k with
  | 0 => ("java/util/AbstractList", "modCount", "I", false)
  | 1 => ("java/util/ArrayList", "elementData", "[Ljava/lang/Object;", false)
  | _ => ("java/util/ArrayList", "size", "I", false)
def tyJx4a65c : Nat → FieldType := fun k => match k with
  | 0 => .int
  | 1 => .array (.object "java/lang/Object")
  | _ => .int
abbrev wsJx4a65c0 : List Cond := u_ws RJx4a65c TJx4a65c 3
theorem nmJx4a65c : ∀ a, a < 3 → ∀ b, b < 3 → a ≠ b → (TJx4a65c a).2.1 ≠ (TJx4a65c b).2.1 := by decide +kernel
theorem tyJx4a65c_ok : ∀ k, k < 3 → parseFieldDescriptor (TJx4a65c k).2.2.1 = some (tyJx4a65c k) := by decide +kernel
abbrev cJx4a65c_init_da8c8 : ByteArray := prog_36_method_2_code
def yJx4a65c_init_da8c8 : MethodName := ⟨RJx4a65c, "<init>", "()V"⟩
abbrev cJx4a65c_grow_92f84 : ByteArray := prog_36_method_6_code
def yJx4a65c_grow_92f84 : MethodName := ⟨RJx4a65c, "grow", "(I)[Ljava/lang/Object;"⟩
abbrev cJx4a65c_grow_d5877 : ByteArray := prog_36_method_7_code
def yJx4a65c_grow_d5877 : MethodName := ⟨RJx4a65c, "grow", "()[Ljava/lang/Object;"⟩
abbrev cJx4a65c_size_8abf5 : ByteArray := prog_36_method_8_code
def yJx4a65c_size_8abf5 : MethodName := ⟨RJx4a65c, "size", "()I"⟩
abbrev cJx4a65c_elementData_915e3 : ByteArray := prog_36_method_18_code
def yJx4a65c_elementData_915e3 : MethodName := ⟨RJx4a65c, "elementData", "(I)Ljava/lang/Object;"⟩
abbrev cJx4a65c_get_915e3 : ByteArray := prog_36_method_20_code
def yJx4a65c_get_915e3 : MethodName := ⟨RJx4a65c, "get", "(I)Ljava/lang/Object;"⟩
abbrev cJx4a65c_add_72be8 : ByteArray := prog_36_method_24_code
def yJx4a65c_add_72be8 : MethodName := ⟨RJx4a65c, "add", "(Ljava/lang/Object;[Ljava/lang/Object;I)V"⟩
abbrev cJx4a65c_add_9ea2d : ByteArray := prog_36_method_25_code
def yJx4a65c_add_9ea2d : MethodName := ⟨RJx4a65c, "add", "(Ljava/lang/Object;)Z"⟩
abbrev cJx4a65c_remove_915e3 : ByteArray := prog_36_method_29_code
def yJx4a65c_remove_915e3 : MethodName := ⟨RJx4a65c, "remove", "(I)Ljava/lang/Object;"⟩
abbrev cJx4a65c_fastRemove_b59b0 : ByteArray := prog_36_method_39_code
def yJx4a65c_fastRemove_b59b0 : MethodName := ⟨RJx4a65c, "fastRemove", "([Ljava/lang/Object;I)V"⟩
def RJ7 : String := "java/util/Arrays"
def TJ7 : u_T := fun k => match k with
  | _ => ("", "", "", false)
def tyJ7 : Nat → FieldType := fun k => match k with
  | _ => .int
abbrev wsJ70 : List Cond := u_ws RJ7 TJ7 0
theorem nmJ7 : ∀ a, a < 0 → ∀ b, b < 0 → a ≠ b → (TJ7 a).2.1 ≠ (TJ7 b).2.1 := by decide +kernel
theorem tyJ7_ok : ∀ k, k < 0 → parseFieldDescriptor (TJ7 k).2.2.1 = some (tyJ7 k) := by decide +kernel
abbrev cJ7_fill_d0a16 : ByteArray := prog_37_method_101_code
def yJ7_fill_d0a16 : MethodName := ⟨RJ7, "fill", "([JJ)V"⟩
abbrev cJ7_copyOf_1904c : ByteArray := prog_37_method_119_code
def yJ7_copyOf_1904c : MethodName := ⟨RJ7, "copyOf", "([Ljava/lang/Object;I)[Ljava/lang/Object;"⟩
abbrev cJ7_copyOf_6403c : ByteArray := prog_37_method_120_code
def yJ7_copyOf_6403c : MethodName := ⟨RJ7, "copyOf", "([Ljava/lang/Object;ILjava/lang/Class;)[Ljava/lang/Object;"⟩
abbrev cJ7_copyOf_9075b : ByteArray := prog_37_method_121_code
def yJ7_copyOf_9075b : MethodName := ⟨RJ7, "copyOf", "([BI)[B"⟩
abbrev cJ7_checkLength_df160 : ByteArray := prog_37_method_131_code
def yJ7_checkLength_df160 : MethodName := ⟨RJ7, "checkLength", "(II)V"⟩
abbrev cJ7_copyOfRange_39247 : ByteArray := prog_37_method_132_code
def yJ7_copyOfRange_39247 : MethodName := ⟨RJ7, "copyOfRange", "([BII)[B"⟩
abbrev cJ7_copyOfRangeByte_39247 : ByteArray := prog_37_method_133_code
def yJ7_copyOfRangeByte_39247 : MethodName := ⟨RJ7, "copyOfRangeByte", "([BII)[B"⟩
def RJx5ef63 : String := "java/util/Collection"
def TJx5ef63 : u_T := fun k => match k with
  | _ => ("", "", "", false)
def tyJx5ef63 : Nat → FieldType := fun k => match k with
  | _ => .int
abbrev wsJx5ef630 : List Cond := u_ws RJx5ef63 TJx5ef63 0
theorem nmJx5ef63 : ∀ a, a < 0 → ∀ b, b < 0 → a ≠ b → (TJx5ef63 a).2.1 ≠ (TJx5ef63 b).2.1 := by decide +kernel
theorem tyJx5ef63_ok : ∀ k, k < 0 → parseFieldDescriptor (TJx5ef63 k).2.2.1 = some (tyJx5ef63 k) := by decide +kernel
def RJxbd725 : String := "java/util/List"
def TJxbd725 : u_T := fun k => match k with
  | _ => ("", "", "", false)
def tyJxbd725 : Nat → FieldType := fun k => match k with
  | _ => .int
abbrev wsJxbd7250 : List Cond := u_ws RJxbd725 TJxbd725 0
theorem nmJxbd725 : ∀ a, a < 0 → ∀ b, b < 0 → a ≠ b → (TJxbd725 a).2.1 ≠ (TJxbd725 b).2.1 := by decide +kernel
theorem tyJxbd725_ok : ∀ k, k < 0 → parseFieldDescriptor (TJxbd725 k).2.2.1 = some (tyJxbd725 k) := by decide +kernel
def RJ15 : String := "java/util/Objects"
def TJ15 : u_T := fun k => match k with
  | _ => ("", "", "", false)
def tyJ15 : Nat → FieldType := fun k => match k with
  | _ => .int
abbrev wsJ150 : List Cond := u_ws RJ15 TJ15 0
theorem nmJ15 : ∀ a, a < 0 → ∀ b, b < 0 → a ≠ b → (TJ15 a).2.1 ≠ (TJ15 b).2.1 := by decide +kernel
theorem tyJ15_ok : ∀ k, k < 0 → parseFieldDescriptor (TJ15 k).2.2.1 = some (tyJ15 k) := by decide +kernel
abbrev cJ15_checkIndex_7cf53 : ByteArray := prog_40_method_17_code
def yJ15_checkIndex_7cf53 : MethodName := ⟨RJ15, "checkIndex", "(II)I"⟩
def RJxf0a74 : String := "java/util/RandomAccess"
def TJxf0a74 : u_T := fun k => match k with
  | _ => ("", "", "", false)
def tyJxf0a74 : Nat → FieldType := fun k => match k with
  | _ => .int
abbrev wsJxf0a740 : List Cond := u_ws RJxf0a74 TJxf0a74 0
theorem nmJxf0a74 : ∀ a, a < 0 → ∀ b, b < 0 → a ≠ b → (TJxf0a74 a).2.1 ≠ (TJxf0a74 b).2.1 := by decide +kernel
theorem tyJxf0a74_ok : ∀ k, k < 0 → parseFieldDescriptor (TJxf0a74 k).2.2.1 = some (tyJxf0a74 k) := by decide +kernel
def RJxa66e6 : String := "java/util/SequencedCollection"
def TJxa66e6 : u_T := fun k => match k with
  | _ => ("", "", "", false)
def tyJxa66e6 : Nat → FieldType := fun k => match k with
  | _ => .int
abbrev wsJxa66e60 : List Cond := u_ws RJxa66e6 TJxa66e6 0
theorem nmJxa66e6 : ∀ a, a < 0 → ∀ b, b < 0 → a ≠ b → (TJxa66e6 a).2.1 ≠ (TJxa66e6 b).2.1 := by decide +kernel
theorem tyJxa66e6_ok : ∀ k, k < 0 → parseFieldDescriptor (TJxa66e6 k).2.2.1 = some (tyJxa66e6 k) := by decide +kernel
def RJ8 : String := "jdk/internal/util/ArraysSupport"
def TJ8 : u_T := fun k => match k with
  | _ => ("", "", "", false)
def tyJ8 : Nat → FieldType := fun k => match k with
  | _ => .int
abbrev wsJ80 : List Cond := u_ws RJ8 TJ8 0
theorem nmJ8 : ∀ a, a < 0 → ∀ b, b < 0 → a ≠ b → (TJ8 a).2.1 ≠ (TJ8 b).2.1 := by decide +kernel
theorem tyJ8_ok : ∀ k, k < 0 → parseFieldDescriptor (TJ8 k).2.2.1 = some (tyJ8 k) := by decide +kernel
abbrev cJ8_newLength_cabcc : ByteArray := prog_43_method_27_code
def yJ8_newLength_cabcc : MethodName := ⟨RJ8, "newLength", "(III)I"⟩
abbrev cJ8_hugeLength_7cf53 : ByteArray := prog_43_method_28_code
def yJ8_hugeLength_7cf53 : MethodName := ⟨RJ8, "hugeLength", "(II)I"⟩
def RJ3 : String := "jdk/internal/util/Preconditions"
def TJ3 : u_T := fun k => match k with
  | _ => ("", "", "", false)
def tyJ3 : Nat → FieldType := fun k => match k with
  | _ => .int
abbrev wsJ30 : List Cond := u_ws RJ3 TJ3 0
theorem nmJ3 : ∀ a, a < 0 → ∀ b, b < 0 → a ≠ b → (TJ3 a).2.1 ≠ (TJ3 b).2.1 := by decide +kernel
theorem tyJ3_ok : ∀ k, k < 0 → parseFieldDescriptor (TJ3 k).2.2.1 = some (tyJ3 k) := by decide +kernel
abbrev cJ3_checkIndex_8e157 : ByteArray := prog_44_method_11_code
def yJ3_checkIndex_8e157 : MethodName := ⟨RJ3, "checkIndex", "(IILjava/util/function/BiFunction;)I"⟩
abbrev cJ3_checkFromToIndex_8c36e : ByteArray := prog_44_method_12_code
def yJ3_checkFromToIndex_8c36e : MethodName := ⟨RJ3, "checkFromToIndex", "(IIILjava/util/function/BiFunction;)I"⟩
abbrev cJ3_checkFromIndexSize_8c36e : ByteArray := prog_44_method_13_code
def yJ3_checkFromIndexSize_8c36e : MethodName := ⟨RJ3, "checkFromIndexSize", "(IIILjava/util/function/BiFunction;)I"⟩
def RL : String := "SignetRingLaw"
abbrev cL_look : ByteArray := method_3_code
def yL_look : MethodName := ⟨RL, "look", "(LSignetRing;J[J)I"⟩
abbrev cL_key : ByteArray := method_4_code
def yL_key : MethodName := ⟨RL, "key", "(LSignetRing;II[J)I"⟩
abbrev cL_print : ByteArray := method_5_code
def yL_print : MethodName := ⟨RL, "print", "(LSignetRing;III[J)I"⟩
abbrev cL_usable : ByteArray := method_6_code
def yL_usable : MethodName := ⟨RL, "usable", "(LSignetRing;IIJ[J)I"⟩
abbrev cL_seal : ByteArray := method_7_code
def yL_seal : MethodName := ⟨RL, "seal", "(LSignetRing;IIIJ[J)I"⟩
abbrev cL_export : ByteArray := method_8_code
def yL_export : MethodName := ⟨RL, "export", "(LSignetRing;I[J)I"⟩
abbrev cL_armor : ByteArray := method_9_code
def yL_armor : MethodName := ⟨RL, "armor", "(LSignetRing;I[J)I"⟩
abbrev cL_out : ByteArray := method_10_code
def yL_out : MethodName := ⟨RL, "out", "(LSignetRing;I[J)I"⟩
abbrev cL_drop : ByteArray := method_11_code
def yL_drop : MethodName := ⟨RL, "drop", "(LSignetRing;I[J)I"⟩
abbrev cL_hash : ByteArray := method_12_code
def yL_hash : MethodName := ⟨RL, "hash", "(LSignetRing;II[J)I"⟩
abbrev cL_law : ByteArray := code
def yL_law : MethodName := ⟨RL, "law", "([I)Z"⟩
abbrev vwCl : List vw_C := [(RJ0, TJ0, 4), (RJ4, TJ4, 4), (RJx00060, TJx00060, 6), (RJx4a65c, TJx4a65c, 3), (RX0, TX0, 3), (RX1, TX1, 3), (RX2, TX2, 5), (RX3, TX3, 17), (RX4, TX4, 6), (RX5, TX5, 5), (RX6, TX6, 11), (RX7, TX7, 7), (RX8, TX8, 18), (RX9, TX9, 7), (RX10, TX10, 3), (RX11, TX11, 15), (RX12, TX12, 64)]
end
section
theorem dJ5_init_d00df_0 : decode cJ5_init_d00df 0 = .ok (.aload_n 0, 1) := by decide +kernel
theorem dJ5_init_d00df_1 : decode cJ5_init_d00df 1 = .ok (.invokespecial 3, 3) := by decide +kernel
theorem dJ5_init_d00df_4 : decode cJ5_init_d00df 4 = .ok (.getstatic 18, 3) := by decide +kernel
theorem dJ5_init_d00df_7 : decode cJ5_init_d00df 7 = .ok (.ifCond .eq 18, 3) := by decide +kernel
theorem dJ5_init_d00df_10 : decode cJ5_init_d00df 10 = .ok (.aload_n 0, 1) := by decide +kernel
theorem dJ5_init_d00df_11 : decode cJ5_init_d00df 11 = .ok (.iload_n 1, 1) := by decide +kernel
theorem dJ5_init_d00df_12 : decode cJ5_init_d00df 12 = .ok (.newarray .byte, 2) := by decide +kernel
theorem dJ5_init_d00df_14 : decode cJ5_init_d00df 14 = .ok (.putfield 15, 3) := by decide +kernel
theorem dJ5_init_d00df_17 : decode cJ5_init_d00df 17 = .ok (.aload_n 0, 1) := by decide +kernel
theorem dJ5_init_d00df_18 : decode cJ5_init_d00df 18 = .ok (.iconst 0, 1) := by decide +kernel
theorem dJ5_init_d00df_19 : decode cJ5_init_d00df 19 = .ok (.putfield 22, 3) := by decide +kernel
theorem dJ5_init_d00df_22 : decode cJ5_init_d00df 22 = .ok (.goto 16, 3) := by decide +kernel
theorem dJ5_init_d00df_25 : decode cJ5_init_d00df 25 = .ok (.aload_n 0, 1) := by decide +kernel
theorem dJ5_init_d00df_26 : decode cJ5_init_d00df 26 = .ok (.iload_n 1, 1) := by decide +kernel
theorem dJ5_init_d00df_27 : decode cJ5_init_d00df 27 = .ok (.invokestatic 26, 3) := by decide +kernel
theorem dJ5_init_d00df_30 : decode cJ5_init_d00df 30 = .ok (.putfield 15, 3) := by decide +kernel
theorem dJ5_init_d00df_33 : decode cJ5_init_d00df 33 = .ok (.aload_n 0, 1) := by decide +kernel
theorem dJ5_init_d00df_34 : decode cJ5_init_d00df 34 = .ok (.iconst 1, 1) := by decide +kernel
theorem dJ5_init_d00df_35 : decode cJ5_init_d00df 35 = .ok (.putfield 22, 3) := by decide +kernel
theorem dJ5_init_d00df_38 : decode cJ5_init_d00df 38 = .ok (.return_, 1) := by decide +kernel
theorem dJ5_length_8abf5_0 : decode cJ5_length_8abf5 0 = .ok (.aload_n 0, 1) := by decide +kernel
theorem dJ5_length_8abf5_1 : decode cJ5_length_8abf5 1 = .ok (.getfield 79, 3) := by decide +kernel
theorem dJ5_length_8abf5_4 : decode cJ5_length_8abf5 4 = .ok (.ireturn, 1) := by decide +kernel
theorem dJ5_ensureCapacityInternal_d00df_0 : decode cJ5_ensureCapacityInternal_d00df 0 = .ok (.aload_n 0, 1) := by decide +kernel
theorem dJ5_ensureCapacityInternal_d00df_1 : decode cJ5_ensureCapacityInternal_d00df 1 = .ok (.getfield 15, 3) := by decide +kernel
theorem dJ5_ensureCapacityInternal_d00df_4 : decode cJ5_ensureCapacityInternal_d00df 4 = .ok (.arraylength, 1) := by decide +kernel
theorem dJ5_ensureCapacityInternal_d00df_5 : decode cJ5_ensureCapacityInternal_d00df 5 = .ok (.aload_n 0, 1) := by decide +kernel
theorem dJ5_ensureCapacityInternal_d00df_6 : decode cJ5_ensureCapacityInternal_d00df 6 = .ok (.getfield 22, 3) := by decide +kernel
theorem dJ5_ensureCapacityInternal_d00df_9 : decode cJ5_ensureCapacityInternal_d00df 9 = .ok (.ishr, 1) := by decide +kernel
theorem dJ5_ensureCapacityInternal_d00df_10 : decode cJ5_ensureCapacityInternal_d00df 10 = .ok (.istore_n 2, 1) := by decide +kernel
theorem dJ5_ensureCapacityInternal_d00df_11 : decode cJ5_ensureCapacityInternal_d00df 11 = .ok (.iload_n 1, 1) := by decide +kernel
theorem dJ5_ensureCapacityInternal_d00df_12 : decode cJ5_ensureCapacityInternal_d00df 12 = .ok (.iload_n 2, 1) := by decide +kernel
theorem dJ5_ensureCapacityInternal_d00df_13 : decode cJ5_ensureCapacityInternal_d00df 13 = .ok (.isub, 1) := by decide +kernel
theorem dJ5_ensureCapacityInternal_d00df_14 : decode cJ5_ensureCapacityInternal_d00df 14 = .ok (.ifCond .le 24, 3) := by decide +kernel
theorem dJ5_ensureCapacityInternal_d00df_17 : decode cJ5_ensureCapacityInternal_d00df 17 = .ok (.aload_n 0, 1) := by decide +kernel
theorem dJ5_ensureCapacityInternal_d00df_18 : decode cJ5_ensureCapacityInternal_d00df 18 = .ok (.aload_n 0, 1) := by decide +kernel
theorem dJ5_ensureCapacityInternal_d00df_19 : decode cJ5_ensureCapacityInternal_d00df 19 = .ok (.getfield 15, 3) := by decide +kernel
theorem dJ5_ensureCapacityInternal_d00df_22 : decode cJ5_ensureCapacityInternal_d00df 22 = .ok (.aload_n 0, 1) := by decide +kernel
theorem dJ5_ensureCapacityInternal_d00df_23 : decode cJ5_ensureCapacityInternal_d00df 23 = .ok (.iload_n 1, 1) := by decide +kernel
theorem dJ5_ensureCapacityInternal_d00df_24 : decode cJ5_ensureCapacityInternal_d00df 24 = .ok (.invokevirtual 104, 3) := by decide +kernel
theorem dJ5_ensureCapacityInternal_d00df_27 : decode cJ5_ensureCapacityInternal_d00df 27 = .ok (.aload_n 0, 1) := by decide +kernel
theorem dJ5_ensureCapacityInternal_d00df_28 : decode cJ5_ensureCapacityInternal_d00df 28 = .ok (.getfield 22, 3) := by decide +kernel
theorem dJ5_ensureCapacityInternal_d00df_31 : decode cJ5_ensureCapacityInternal_d00df 31 = .ok (.ishl, 1) := by decide +kernel
theorem dJ5_ensureCapacityInternal_d00df_32 : decode cJ5_ensureCapacityInternal_d00df 32 = .ok (.invokestatic 108, 3) := by decide +kernel
theorem dJ5_ensureCapacityInternal_d00df_35 : decode cJ5_ensureCapacityInternal_d00df 35 = .ok (.putfield 15, 3) := by decide +kernel
theorem dJ5_ensureCapacityInternal_d00df_38 : decode cJ5_ensureCapacityInternal_d00df 38 = .ok (.return_, 1) := by decide +kernel
theorem dJ5_newCapacity_0f7a4_0 : decode cJ5_newCapacity_0f7a4 0 = .ok (.aload_n 0, 1) := by decide +kernel
theorem dJ5_newCapacity_0f7a4_1 : decode cJ5_newCapacity_0f7a4 1 = .ok (.getfield 15, 3) := by decide +kernel
theorem dJ5_newCapacity_0f7a4_4 : decode cJ5_newCapacity_0f7a4 4 = .ok (.arraylength, 1) := by decide +kernel
theorem dJ5_newCapacity_0f7a4_5 : decode cJ5_newCapacity_0f7a4 5 = .ok (.istore_n 2, 1) := by decide +kernel
theorem dJ5_newCapacity_0f7a4_6 : decode cJ5_newCapacity_0f7a4 6 = .ok (.iload_n 1, 1) := by decide +kernel
theorem dJ5_newCapacity_0f7a4_7 : decode cJ5_newCapacity_0f7a4 7 = .ok (.aload_n 0, 1) := by decide +kernel
theorem dJ5_newCapacity_0f7a4_8 : decode cJ5_newCapacity_0f7a4 8 = .ok (.getfield 22, 3) := by decide +kernel
theorem dJ5_newCapacity_0f7a4_11 : decode cJ5_newCapacity_0f7a4 11 = .ok (.ishl, 1) := by decide +kernel
theorem dJ5_newCapacity_0f7a4_12 : decode cJ5_newCapacity_0f7a4 12 = .ok (.istore_n 3, 1) := by decide +kernel
theorem dJ5_newCapacity_0f7a4_13 : decode cJ5_newCapacity_0f7a4 13 = .ok (.iload_n 3, 1) := by decide +kernel
theorem dJ5_newCapacity_0f7a4_14 : decode cJ5_newCapacity_0f7a4 14 = .ok (.iload_n 2, 1) := by decide +kernel
theorem dJ5_newCapacity_0f7a4_15 : decode cJ5_newCapacity_0f7a4 15 = .ok (.isub, 1) := by decide +kernel
theorem dJ5_newCapacity_0f7a4_16 : decode cJ5_newCapacity_0f7a4 16 = .ok (.istore 4, 2) := by decide +kernel
theorem dJ5_newCapacity_0f7a4_18 : decode cJ5_newCapacity_0f7a4 18 = .ok (.iload_n 2, 1) := by decide +kernel
theorem dJ5_newCapacity_0f7a4_19 : decode cJ5_newCapacity_0f7a4 19 = .ok (.iload 4, 2) := by decide +kernel
theorem dJ5_newCapacity_0f7a4_21 : decode cJ5_newCapacity_0f7a4 21 = .ok (.iload_n 2, 1) := by decide +kernel
theorem dJ5_newCapacity_0f7a4_22 : decode cJ5_newCapacity_0f7a4 22 = .ok (.iconst 2, 1) := by decide +kernel
theorem dJ5_newCapacity_0f7a4_23 : decode cJ5_newCapacity_0f7a4 23 = .ok (.aload_n 0, 1) := by decide +kernel
theorem dJ5_newCapacity_0f7a4_24 : decode cJ5_newCapacity_0f7a4 24 = .ok (.getfield 22, 3) := by decide +kernel
theorem dJ5_newCapacity_0f7a4_27 : decode cJ5_newCapacity_0f7a4 27 = .ok (.ishl, 1) := by decide +kernel
theorem dJ5_newCapacity_0f7a4_28 : decode cJ5_newCapacity_0f7a4 28 = .ok (.iadd, 1) := by decide +kernel
theorem dJ5_newCapacity_0f7a4_29 : decode cJ5_newCapacity_0f7a4 29 = .ok (.invokestatic 114, 3) := by decide +kernel
theorem dJ5_newCapacity_0f7a4_32 : decode cJ5_newCapacity_0f7a4 32 = .ok (.istore 5, 2) := by decide +kernel
theorem dJ5_newCapacity_0f7a4_34 : decode cJ5_newCapacity_0f7a4 34 = .ok (.iload 5, 2) := by decide +kernel
theorem dJ5_newCapacity_0f7a4_36 : decode cJ5_newCapacity_0f7a4 36 = .ok (.ldc 39, 2) := by decide +kernel
theorem dJ5_newCapacity_0f7a4_38 : decode cJ5_newCapacity_0f7a4 38 = .ok (.if_icmp .ne 13, 3) := by decide +kernel
theorem dJ5_newCapacity_0f7a4_41 : decode cJ5_newCapacity_0f7a4 41 = .ok (.new 120, 3) := by decide +kernel
theorem dJ5_newCapacity_0f7a4_44 : decode cJ5_newCapacity_0f7a4 44 = .ok (.dup, 1) := by decide +kernel
theorem dJ5_newCapacity_0f7a4_45 : decode cJ5_newCapacity_0f7a4 45 = .ok (.ldc 122, 2) := by decide +kernel
theorem dJ5_newCapacity_0f7a4_47 : decode cJ5_newCapacity_0f7a4 47 = .ok (.invokespecial 124, 3) := by decide +kernel
theorem dJ5_newCapacity_0f7a4_50 : decode cJ5_newCapacity_0f7a4 50 = .ok (.athrow, 1) := by decide +kernel
theorem dJ5_newCapacity_0f7a4_51 : decode cJ5_newCapacity_0f7a4 51 = .ok (.iload 5, 2) := by decide +kernel
theorem dJ5_newCapacity_0f7a4_53 : decode cJ5_newCapacity_0f7a4 53 = .ok (.aload_n 0, 1) := by decide +kernel
theorem dJ5_newCapacity_0f7a4_54 : decode cJ5_newCapacity_0f7a4 54 = .ok (.getfield 22, 3) := by decide +kernel
theorem dJ5_newCapacity_0f7a4_57 : decode cJ5_newCapacity_0f7a4 57 = .ok (.ishr, 1) := by decide +kernel
theorem dJ5_newCapacity_0f7a4_58 : decode cJ5_newCapacity_0f7a4 58 = .ok (.ireturn, 1) := by decide +kernel
theorem dJ5_inflate_da8c8_0 : decode cJ5_inflate_da8c8 0 = .ok (.aload_n 0, 1) := by decide +kernel
theorem dJ5_inflate_da8c8_1 : decode cJ5_inflate_da8c8 1 = .ok (.invokevirtual 83, 3) := by decide +kernel
theorem dJ5_inflate_da8c8_4 : decode cJ5_inflate_da8c8 4 = .ok (.ifCond .ne 4, 3) := by decide +kernel
theorem dJ5_inflate_da8c8_7 : decode cJ5_inflate_da8c8 7 = .ok (.return_, 1) := by decide +kernel
theorem dJ5_inflate_da8c8_8 : decode cJ5_inflate_da8c8 8 = .ok (.aload_n 0, 1) := by decide +kernel
theorem dJ5_inflate_da8c8_9 : decode cJ5_inflate_da8c8 9 = .ok (.getfield 15, 3) := by decide +kernel
theorem dJ5_inflate_da8c8_12 : decode cJ5_inflate_da8c8 12 = .ok (.arraylength, 1) := by decide +kernel
theorem dJ5_inflate_da8c8_13 : decode cJ5_inflate_da8c8 13 = .ok (.invokestatic 26, 3) := by decide +kernel
theorem dJ5_inflate_da8c8_16 : decode cJ5_inflate_da8c8 16 = .ok (.astore_n 1, 1) := by decide +kernel
theorem dJ5_inflate_da8c8_17 : decode cJ5_inflate_da8c8 17 = .ok (.aload_n 0, 1) := by decide +kernel
theorem dJ5_inflate_da8c8_18 : decode cJ5_inflate_da8c8 18 = .ok (.getfield 15, 3) := by decide +kernel
theorem dJ5_inflate_da8c8_21 : decode cJ5_inflate_da8c8 21 = .ok (.iconst 0, 1) := by decide +kernel
theorem dJ5_inflate_da8c8_22 : decode cJ5_inflate_da8c8 22 = .ok (.aload_n 1, 1) := by decide +kernel
theorem dJ5_inflate_da8c8_23 : decode cJ5_inflate_da8c8 23 = .ok (.iconst 0, 1) := by decide +kernel
theorem dJ5_inflate_da8c8_24 : decode cJ5_inflate_da8c8 24 = .ok (.aload_n 0, 1) := by decide +kernel
theorem dJ5_inflate_da8c8_25 : decode cJ5_inflate_da8c8 25 = .ok (.getfield 79, 3) := by decide +kernel
theorem dJ5_inflate_da8c8_28 : decode cJ5_inflate_da8c8 28 = .ok (.invokestatic 125, 3) := by decide +kernel
theorem dJ5_inflate_da8c8_31 : decode cJ5_inflate_da8c8 31 = .ok (.aload_n 0, 1) := by decide +kernel
theorem dJ5_inflate_da8c8_32 : decode cJ5_inflate_da8c8 32 = .ok (.aload_n 1, 1) := by decide +kernel
theorem dJ5_inflate_da8c8_33 : decode cJ5_inflate_da8c8 33 = .ok (.putfield 15, 3) := by decide +kernel
theorem dJ5_inflate_da8c8_36 : decode cJ5_inflate_da8c8 36 = .ok (.aload_n 0, 1) := by decide +kernel
theorem dJ5_inflate_da8c8_37 : decode cJ5_inflate_da8c8 37 = .ok (.iconst 1, 1) := by decide +kernel
theorem dJ5_inflate_da8c8_38 : decode cJ5_inflate_da8c8 38 = .ok (.putfield 22, 3) := by decide +kernel
theorem dJ5_inflate_da8c8_41 : decode cJ5_inflate_da8c8 41 = .ok (.return_, 1) := by decide +kernel
theorem dJ5_append_cf1ce_0 : decode cJ5_append_cf1ce 0 = .ok (.aload_n 1, 1) := by decide +kernel
theorem dJ5_append_cf1ce_1 : decode cJ5_append_cf1ce 1 = .ok (.ifnonnull 8, 3) := by decide +kernel
theorem dJ5_append_cf1ce_4 : decode cJ5_append_cf1ce 4 = .ok (.aload_n 0, 1) := by decide +kernel
theorem dJ5_append_cf1ce_5 : decode cJ5_append_cf1ce 5 = .ok (.invokevirtual 204, 3) := by decide +kernel
theorem dJ5_append_cf1ce_8 : decode cJ5_append_cf1ce 8 = .ok (.areturn, 1) := by decide +kernel
theorem dJ5_append_cf1ce_9 : decode cJ5_append_cf1ce 9 = .ok (.aload_n 1, 1) := by decide +kernel
theorem dJ5_append_cf1ce_10 : decode cJ5_append_cf1ce 10 = .ok (.invokevirtual 32, 3) := by decide +kernel
theorem dJ5_append_cf1ce_13 : decode cJ5_append_cf1ce 13 = .ok (.istore_n 2, 1) := by decide +kernel
theorem dJ5_append_cf1ce_14 : decode cJ5_append_cf1ce 14 = .ok (.aload_n 0, 1) := by decide +kernel
theorem dJ5_append_cf1ce_15 : decode cJ5_append_cf1ce 15 = .ok (.aload_n 0, 1) := by decide +kernel
theorem dJ5_append_cf1ce_16 : decode cJ5_append_cf1ce 16 = .ok (.getfield 79, 3) := by decide +kernel
theorem dJ5_append_cf1ce_19 : decode cJ5_append_cf1ce 19 = .ok (.iload_n 2, 1) := by decide +kernel
theorem dJ5_append_cf1ce_20 : decode cJ5_append_cf1ce 20 = .ok (.iadd, 1) := by decide +kernel
theorem dJ5_append_cf1ce_21 : decode cJ5_append_cf1ce 21 = .ok (.invokevirtual 100, 3) := by decide +kernel
theorem dJ5_append_cf1ce_24 : decode cJ5_append_cf1ce 24 = .ok (.aload_n 0, 1) := by decide +kernel
theorem dJ5_append_cf1ce_25 : decode cJ5_append_cf1ce 25 = .ok (.aload_n 0, 1) := by decide +kernel
theorem dJ5_append_cf1ce_26 : decode cJ5_append_cf1ce 26 = .ok (.getfield 79, 3) := by decide +kernel
theorem dJ5_append_cf1ce_29 : decode cJ5_append_cf1ce 29 = .ok (.aload_n 1, 1) := by decide +kernel
theorem dJ5_append_cf1ce_30 : decode cJ5_append_cf1ce 30 = .ok (.invokevirtual 208, 3) := by decide +kernel
theorem dJ5_append_cf1ce_33 : decode cJ5_append_cf1ce 33 = .ok (.aload_n 0, 1) := by decide +kernel
theorem dJ5_append_cf1ce_34 : decode cJ5_append_cf1ce 34 = .ok (.dup, 1) := by decide +kernel
theorem dJ5_append_cf1ce_35 : decode cJ5_append_cf1ce 35 = .ok (.getfield 79, 3) := by decide +kernel
theorem dJ5_append_cf1ce_38 : decode cJ5_append_cf1ce 38 = .ok (.iload_n 2, 1) := by decide +kernel
theorem dJ5_append_cf1ce_39 : decode cJ5_append_cf1ce 39 = .ok (.iadd, 1) := by decide +kernel
theorem dJ5_append_cf1ce_40 : decode cJ5_append_cf1ce 40 = .ok (.putfield 79, 3) := by decide +kernel
theorem dJ5_append_cf1ce_43 : decode cJ5_append_cf1ce 43 = .ok (.aload_n 0, 1) := by decide +kernel
theorem dJ5_append_cf1ce_44 : decode cJ5_append_cf1ce 44 = .ok (.areturn, 1) := by decide +kernel
theorem dJ5_appendNull_278bc_0 : decode cJ5_appendNull_278bc 0 = .ok (.aload_n 0, 1) := by decide +kernel
theorem dJ5_appendNull_278bc_1 : decode cJ5_appendNull_278bc 1 = .ok (.aload_n 0, 1) := by decide +kernel
theorem dJ5_appendNull_278bc_2 : decode cJ5_appendNull_278bc 2 = .ok (.getfield 79, 3) := by decide +kernel
theorem dJ5_appendNull_278bc_5 : decode cJ5_appendNull_278bc 5 = .ok (.iconst 4, 1) := by decide +kernel
theorem dJ5_appendNull_278bc_6 : decode cJ5_appendNull_278bc 6 = .ok (.iadd, 1) := by decide +kernel
theorem dJ5_appendNull_278bc_7 : decode cJ5_appendNull_278bc 7 = .ok (.invokevirtual 100, 3) := by decide +kernel
theorem dJ5_appendNull_278bc_10 : decode cJ5_appendNull_278bc 10 = .ok (.aload_n 0, 1) := by decide +kernel
theorem dJ5_appendNull_278bc_11 : decode cJ5_appendNull_278bc 11 = .ok (.getfield 79, 3) := by decide +kernel
theorem dJ5_appendNull_278bc_14 : decode cJ5_appendNull_278bc 14 = .ok (.istore_n 1, 1) := by decide +kernel
theorem dJ5_appendNull_278bc_15 : decode cJ5_appendNull_278bc 15 = .ok (.aload_n 0, 1) := by decide +kernel
theorem dJ5_appendNull_278bc_16 : decode cJ5_appendNull_278bc 16 = .ok (.getfield 15, 3) := by decide +kernel
theorem dJ5_appendNull_278bc_19 : decode cJ5_appendNull_278bc 19 = .ok (.astore_n 2, 1) := by decide +kernel
theorem dJ5_appendNull_278bc_20 : decode cJ5_appendNull_278bc 20 = .ok (.aload_n 0, 1) := by decide +kernel
theorem dJ5_appendNull_278bc_21 : decode cJ5_appendNull_278bc 21 = .ok (.invokevirtual 83, 3) := by decide +kernel
theorem dJ5_appendNull_278bc_24 : decode cJ5_appendNull_278bc 24 = .ok (.ifCond .eq 38, 3) := by decide +kernel
theorem dJ5_appendNull_278bc_27 : decode cJ5_appendNull_278bc 27 = .ok (.aload_n 2, 1) := by decide +kernel
theorem dJ5_appendNull_278bc_28 : decode cJ5_appendNull_278bc 28 = .ok (.iload_n 1, 1) := by decide +kernel
theorem dJ5_appendNull_278bc_29 : decode cJ5_appendNull_278bc 29 = .ok (.iinc 1 1, 3) := by decide +kernel
theorem dJ5_appendNull_278bc_32 : decode cJ5_appendNull_278bc 32 = .ok (.bipush 110, 2) := by decide +kernel
theorem dJ5_appendNull_278bc_34 : decode cJ5_appendNull_278bc 34 = .ok (.bastore, 1) := by decide +kernel
theorem dJ5_appendNull_278bc_35 : decode cJ5_appendNull_278bc 35 = .ok (.aload_n 2, 1) := by decide +kernel
theorem dJ5_appendNull_278bc_36 : decode cJ5_appendNull_278bc 36 = .ok (.iload_n 1, 1) := by decide +kernel
theorem dJ5_appendNull_278bc_37 : decode cJ5_appendNull_278bc 37 = .ok (.iinc 1 1, 3) := by decide +kernel
theorem dJ5_appendNull_278bc_40 : decode cJ5_appendNull_278bc 40 = .ok (.bipush 117, 2) := by decide +kernel
theorem dJ5_appendNull_278bc_42 : decode cJ5_appendNull_278bc 42 = .ok (.bastore, 1) := by decide +kernel
theorem dJ5_appendNull_278bc_43 : decode cJ5_appendNull_278bc 43 = .ok (.aload_n 2, 1) := by decide +kernel
theorem dJ5_appendNull_278bc_44 : decode cJ5_appendNull_278bc 44 = .ok (.iload_n 1, 1) := by decide +kernel
theorem dJ5_appendNull_278bc_45 : decode cJ5_appendNull_278bc 45 = .ok (.iinc 1 1, 3) := by decide +kernel
theorem dJ5_appendNull_278bc_48 : decode cJ5_appendNull_278bc 48 = .ok (.bipush 108, 2) := by decide +kernel
theorem dJ5_appendNull_278bc_50 : decode cJ5_appendNull_278bc 50 = .ok (.bastore, 1) := by decide +kernel
theorem dJ5_appendNull_278bc_51 : decode cJ5_appendNull_278bc 51 = .ok (.aload_n 2, 1) := by decide +kernel
theorem dJ5_appendNull_278bc_52 : decode cJ5_appendNull_278bc 52 = .ok (.iload_n 1, 1) := by decide +kernel
theorem dJ5_appendNull_278bc_53 : decode cJ5_appendNull_278bc 53 = .ok (.iinc 1 1, 3) := by decide +kernel
theorem dJ5_appendNull_278bc_56 : decode cJ5_appendNull_278bc 56 = .ok (.bipush 108, 2) := by decide +kernel
theorem dJ5_appendNull_278bc_58 : decode cJ5_appendNull_278bc 58 = .ok (.bastore, 1) := by decide +kernel
theorem dJ5_appendNull_278bc_59 : decode cJ5_appendNull_278bc 59 = .ok (.goto 17, 3) := by decide +kernel
theorem dJ5_appendNull_278bc_62 : decode cJ5_appendNull_278bc 62 = .ok (.aload_n 2, 1) := by decide +kernel
theorem dJ5_appendNull_278bc_63 : decode cJ5_appendNull_278bc 63 = .ok (.iload_n 1, 1) := by decide +kernel
theorem dJ5_appendNull_278bc_64 : decode cJ5_appendNull_278bc 64 = .ok (.bipush 110, 2) := by decide +kernel
theorem dJ5_appendNull_278bc_66 : decode cJ5_appendNull_278bc 66 = .ok (.bipush 117, 2) := by decide +kernel
theorem dJ5_appendNull_278bc_68 : decode cJ5_appendNull_278bc 68 = .ok (.bipush 108, 2) := by decide +kernel
theorem dJ5_appendNull_278bc_70 : decode cJ5_appendNull_278bc 70 = .ok (.bipush 108, 2) := by decide +kernel
theorem dJ5_appendNull_278bc_72 : decode cJ5_appendNull_278bc 72 = .ok (.invokestatic 226, 3) := by decide +kernel
theorem dJ5_appendNull_278bc_75 : decode cJ5_appendNull_278bc 75 = .ok (.istore_n 1, 1) := by decide +kernel
theorem dJ5_appendNull_278bc_76 : decode cJ5_appendNull_278bc 76 = .ok (.aload_n 0, 1) := by decide +kernel
theorem dJ5_appendNull_278bc_77 : decode cJ5_appendNull_278bc 77 = .ok (.iload_n 1, 1) := by decide +kernel
theorem dJ5_appendNull_278bc_78 : decode cJ5_appendNull_278bc 78 = .ok (.putfield 79, 3) := by decide +kernel
theorem dJ5_appendNull_278bc_81 : decode cJ5_appendNull_278bc 81 = .ok (.aload_n 0, 1) := by decide +kernel
theorem dJ5_appendNull_278bc_82 : decode cJ5_appendNull_278bc 82 = .ok (.areturn, 1) := by decide +kernel
theorem dJ5_append_c97b9_0 : decode cJ5_append_c97b9 0 = .ok (.aload_n 0, 1) := by decide +kernel
theorem dJ5_append_c97b9_1 : decode cJ5_append_c97b9 1 = .ok (.getfield 79, 3) := by decide +kernel
theorem dJ5_append_c97b9_4 : decode cJ5_append_c97b9 4 = .ok (.istore_n 2, 1) := by decide +kernel
theorem dJ5_append_c97b9_5 : decode cJ5_append_c97b9 5 = .ok (.iload_n 2, 1) := by decide +kernel
theorem dJ5_append_c97b9_6 : decode cJ5_append_c97b9 6 = .ok (.iload_n 1, 1) := by decide +kernel
theorem dJ5_append_c97b9_7 : decode cJ5_append_c97b9 7 = .ok (.invokestatic 245, 3) := by decide +kernel
theorem dJ5_append_c97b9_10 : decode cJ5_append_c97b9 10 = .ok (.iadd, 1) := by decide +kernel
theorem dJ5_append_c97b9_11 : decode cJ5_append_c97b9 11 = .ok (.istore_n 3, 1) := by decide +kernel
theorem dJ5_append_c97b9_12 : decode cJ5_append_c97b9 12 = .ok (.aload_n 0, 1) := by decide +kernel
theorem dJ5_append_c97b9_13 : decode cJ5_append_c97b9 13 = .ok (.iload_n 3, 1) := by decide +kernel
theorem dJ5_append_c97b9_14 : decode cJ5_append_c97b9 14 = .ok (.invokevirtual 100, 3) := by decide +kernel
theorem dJ5_append_c97b9_17 : decode cJ5_append_c97b9 17 = .ok (.aload_n 0, 1) := by decide +kernel
theorem dJ5_append_c97b9_18 : decode cJ5_append_c97b9 18 = .ok (.invokevirtual 83, 3) := by decide +kernel
theorem dJ5_append_c97b9_21 : decode cJ5_append_c97b9 21 = .ok (.ifCond .eq 16, 3) := by decide +kernel
theorem dJ5_append_c97b9_24 : decode cJ5_append_c97b9 24 = .ok (.iload_n 1, 1) := by decide +kernel
theorem dJ5_append_c97b9_25 : decode cJ5_append_c97b9 25 = .ok (.iload_n 3, 1) := by decide +kernel
theorem dJ5_append_c97b9_26 : decode cJ5_append_c97b9 26 = .ok (.aload_n 0, 1) := by decide +kernel
theorem dJ5_append_c97b9_27 : decode cJ5_append_c97b9 27 = .ok (.getfield 15, 3) := by decide +kernel
theorem dJ5_append_c97b9_30 : decode cJ5_append_c97b9 30 = .ok (.invokestatic 248, 3) := by decide +kernel
theorem dJ5_append_c97b9_33 : decode cJ5_append_c97b9 33 = .ok (.pop, 1) := by decide +kernel
theorem dJ5_append_c97b9_34 : decode cJ5_append_c97b9 34 = .ok (.goto 14, 3) := by decide +kernel
theorem dJ5_append_c97b9_37 : decode cJ5_append_c97b9 37 = .ok (.iload_n 1, 1) := by decide +kernel
theorem dJ5_append_c97b9_38 : decode cJ5_append_c97b9 38 = .ok (.iload_n 2, 1) := by decide +kernel
theorem dJ5_append_c97b9_39 : decode cJ5_append_c97b9 39 = .ok (.iload_n 3, 1) := by decide +kernel
theorem dJ5_append_c97b9_40 : decode cJ5_append_c97b9 40 = .ok (.aload_n 0, 1) := by decide +kernel
theorem dJ5_append_c97b9_41 : decode cJ5_append_c97b9 41 = .ok (.getfield 15, 3) := by decide +kernel
theorem dJ5_append_c97b9_44 : decode cJ5_append_c97b9 44 = .ok (.invokestatic 251, 3) := by decide +kernel
theorem dJ5_append_c97b9_47 : decode cJ5_append_c97b9 47 = .ok (.pop, 1) := by decide +kernel
theorem dJ5_append_c97b9_48 : decode cJ5_append_c97b9 48 = .ok (.aload_n 0, 1) := by decide +kernel
theorem dJ5_append_c97b9_49 : decode cJ5_append_c97b9 49 = .ok (.iload_n 3, 1) := by decide +kernel
theorem dJ5_append_c97b9_50 : decode cJ5_append_c97b9 50 = .ok (.putfield 79, 3) := by decide +kernel
theorem dJ5_append_c97b9_53 : decode cJ5_append_c97b9 53 = .ok (.aload_n 0, 1) := by decide +kernel
theorem dJ5_append_c97b9_54 : decode cJ5_append_c97b9 54 = .ok (.areturn, 1) := by decide +kernel
theorem dJ5_getValue_6d5f1_0 : decode cJ5_getValue_6d5f1 0 = .ok (.aload_n 0, 1) := by decide +kernel
theorem dJ5_getValue_6d5f1_1 : decode cJ5_getValue_6d5f1 1 = .ok (.getfield 15, 3) := by decide +kernel
theorem dJ5_getValue_6d5f1_4 : decode cJ5_getValue_6d5f1 4 = .ok (.areturn, 1) := by decide +kernel
theorem dJ5_isLatin1_aae02_0 : decode cJ5_isLatin1_aae02 0 = .ok (.getstatic 18, 3) := by decide +kernel
theorem dJ5_isLatin1_aae02_3 : decode cJ5_isLatin1_aae02 3 = .ok (.ifCond .eq 14, 3) := by decide +kernel
theorem dJ5_isLatin1_aae02_6 : decode cJ5_isLatin1_aae02 6 = .ok (.aload_n 0, 1) := by decide +kernel
theorem dJ5_isLatin1_aae02_7 : decode cJ5_isLatin1_aae02 7 = .ok (.getfield 22, 3) := by decide +kernel
theorem dJ5_isLatin1_aae02_10 : decode cJ5_isLatin1_aae02 10 = .ok (.ifCond .ne 7, 3) := by decide +kernel
theorem dJ5_isLatin1_aae02_13 : decode cJ5_isLatin1_aae02 13 = .ok (.iconst 1, 1) := by decide +kernel
theorem dJ5_isLatin1_aae02_14 : decode cJ5_isLatin1_aae02 14 = .ok (.goto 4, 3) := by decide +kernel
theorem dJ5_isLatin1_aae02_17 : decode cJ5_isLatin1_aae02 17 = .ok (.iconst 0, 1) := by decide +kernel
theorem dJ5_isLatin1_aae02_18 : decode cJ5_isLatin1_aae02 18 = .ok (.ireturn, 1) := by decide +kernel
theorem dJ5_inflateIfNeededFor_a7421_0 : decode cJ5_inflateIfNeededFor_a7421 0 = .ok (.getstatic 18, 3) := by decide +kernel
theorem dJ5_inflateIfNeededFor_a7421_3 : decode cJ5_inflateIfNeededFor_a7421 3 = .ok (.ifCond .eq 18, 3) := by decide +kernel
theorem dJ5_inflateIfNeededFor_a7421_6 : decode cJ5_inflateIfNeededFor_a7421 6 = .ok (.aload_n 0, 1) := by decide +kernel
theorem dJ5_inflateIfNeededFor_a7421_7 : decode cJ5_inflateIfNeededFor_a7421 7 = .ok (.getfield 22, 3) := by decide +kernel
theorem dJ5_inflateIfNeededFor_a7421_10 : decode cJ5_inflateIfNeededFor_a7421 10 = .ok (.aload_n 1, 1) := by decide +kernel
theorem dJ5_inflateIfNeededFor_a7421_11 : decode cJ5_inflateIfNeededFor_a7421 11 = .ok (.invokevirtual 40, 3) := by decide +kernel
theorem dJ5_inflateIfNeededFor_a7421_14 : decode cJ5_inflateIfNeededFor_a7421 14 = .ok (.if_icmp .eq 7, 3) := by decide +kernel
theorem dJ5_inflateIfNeededFor_a7421_17 : decode cJ5_inflateIfNeededFor_a7421 17 = .ok (.aload_n 0, 1) := by decide +kernel
theorem dJ5_inflateIfNeededFor_a7421_18 : decode cJ5_inflateIfNeededFor_a7421 18 = .ok (.invokevirtual 195, 3) := by decide +kernel
theorem dJ5_inflateIfNeededFor_a7421_21 : decode cJ5_inflateIfNeededFor_a7421 21 = .ok (.return_, 1) := by decide +kernel
theorem dJ5_putStringAt_47b60_0 : decode cJ5_putStringAt_47b60 0 = .ok (.aload_n 0, 1) := by decide +kernel
theorem dJ5_putStringAt_47b60_1 : decode cJ5_putStringAt_47b60 1 = .ok (.aload_n 2, 1) := by decide +kernel
theorem dJ5_putStringAt_47b60_2 : decode cJ5_putStringAt_47b60 2 = .ok (.invokevirtual 397, 3) := by decide +kernel
theorem dJ5_putStringAt_47b60_5 : decode cJ5_putStringAt_47b60 5 = .ok (.aload_n 2, 1) := by decide +kernel
theorem dJ5_putStringAt_47b60_6 : decode cJ5_putStringAt_47b60 6 = .ok (.aload_n 0, 1) := by decide +kernel
theorem dJ5_putStringAt_47b60_7 : decode cJ5_putStringAt_47b60 7 = .ok (.getfield 15, 3) := by decide +kernel
theorem dJ5_putStringAt_47b60_10 : decode cJ5_putStringAt_47b60 10 = .ok (.iload_n 1, 1) := by decide +kernel
theorem dJ5_putStringAt_47b60_11 : decode cJ5_putStringAt_47b60 11 = .ok (.aload_n 0, 1) := by decide +kernel
theorem dJ5_putStringAt_47b60_12 : decode cJ5_putStringAt_47b60 12 = .ok (.getfield 22, 3) := by decide +kernel
theorem dJ5_putStringAt_47b60_15 : decode cJ5_putStringAt_47b60 15 = .ok (.invokevirtual 399, 3) := by decide +kernel
theorem dJ5_putStringAt_47b60_18 : decode cJ5_putStringAt_47b60 18 = .ok (.return_, 1) := by decide +kernel
theorem dJx00060_init_da8c8_0 : decode cJx00060_init_da8c8 0 = .ok (.aload_n 0, 1) := by decide +kernel
theorem dJx00060_init_da8c8_1 : decode cJx00060_init_da8c8 1 = .ok (.invokespecial 1, 3) := by decide +kernel
theorem dJx00060_init_da8c8_4 : decode cJx00060_init_da8c8 4 = .ok (.return_, 1) := by decide +kernel
theorem dJ6_getChars_ba4f3_0 : decode cJ6_getChars_ba4f3 0 = .ok (.iload_n 1, 1) := by decide +kernel
theorem dJ6_getChars_ba4f3_1 : decode cJ6_getChars_ba4f3 1 = .ok (.istore 5, 2) := by decide +kernel
theorem dJ6_getChars_ba4f3_3 : decode cJ6_getChars_ba4f3 3 = .ok (.iload_n 0, 1) := by decide +kernel
theorem dJ6_getChars_ba4f3_4 : decode cJ6_getChars_ba4f3 4 = .ok (.ifCond .ge 7, 3) := by decide +kernel
theorem dJ6_getChars_ba4f3_7 : decode cJ6_getChars_ba4f3 7 = .ok (.iconst 1, 1) := by decide +kernel
theorem dJ6_getChars_ba4f3_8 : decode cJ6_getChars_ba4f3 8 = .ok (.goto 4, 3) := by decide +kernel
theorem dJ6_getChars_ba4f3_11 : decode cJ6_getChars_ba4f3 11 = .ok (.iconst 0, 1) := by decide +kernel
theorem dJ6_getChars_ba4f3_12 : decode cJ6_getChars_ba4f3 12 = .ok (.istore 6, 2) := by decide +kernel
theorem dJ6_getChars_ba4f3_14 : decode cJ6_getChars_ba4f3 14 = .ok (.iload 6, 2) := by decide +kernel
theorem dJ6_getChars_ba4f3_16 : decode cJ6_getChars_ba4f3 16 = .ok (.ifCond .ne 6, 3) := by decide +kernel
theorem dJ6_getChars_ba4f3_19 : decode cJ6_getChars_ba4f3 19 = .ok (.iload_n 0, 1) := by decide +kernel
theorem dJ6_getChars_ba4f3_20 : decode cJ6_getChars_ba4f3 20 = .ok (.ineg, 1) := by decide +kernel
theorem dJ6_getChars_ba4f3_21 : decode cJ6_getChars_ba4f3 21 = .ok (.istore_n 0, 1) := by decide +kernel
theorem dJ6_getChars_ba4f3_22 : decode cJ6_getChars_ba4f3 22 = .ok (.iload_n 0, 1) := by decide +kernel
theorem dJ6_getChars_ba4f3_23 : decode cJ6_getChars_ba4f3 23 = .ok (.bipush (-100), 2) := by decide +kernel
theorem dJ6_getChars_ba4f3_25 : decode cJ6_getChars_ba4f3 25 = .ok (.if_icmp .gt 47, 3) := by decide +kernel
theorem dJ6_getChars_ba4f3_28 : decode cJ6_getChars_ba4f3 28 = .ok (.iload_n 0, 1) := by decide +kernel
theorem dJ6_getChars_ba4f3_29 : decode cJ6_getChars_ba4f3 29 = .ok (.bipush 100, 2) := by decide +kernel
theorem dJ6_getChars_ba4f3_31 : decode cJ6_getChars_ba4f3 31 = .ok (.idiv, 1) := by decide +kernel
theorem dJ6_getChars_ba4f3_32 : decode cJ6_getChars_ba4f3 32 = .ok (.istore_n 3, 1) := by decide +kernel
theorem dJ6_getChars_ba4f3_33 : decode cJ6_getChars_ba4f3 33 = .ok (.iload_n 3, 1) := by decide +kernel
theorem dJ6_getChars_ba4f3_34 : decode cJ6_getChars_ba4f3 34 = .ok (.bipush 100, 2) := by decide +kernel
theorem dJ6_getChars_ba4f3_36 : decode cJ6_getChars_ba4f3 36 = .ok (.imul, 1) := by decide +kernel
theorem dJ6_getChars_ba4f3_37 : decode cJ6_getChars_ba4f3 37 = .ok (.iload_n 0, 1) := by decide +kernel
theorem dJ6_getChars_ba4f3_38 : decode cJ6_getChars_ba4f3 38 = .ok (.isub, 1) := by decide +kernel
theorem dJ6_getChars_ba4f3_39 : decode cJ6_getChars_ba4f3 39 = .ok (.istore 4, 2) := by decide +kernel
theorem dJ6_getChars_ba4f3_41 : decode cJ6_getChars_ba4f3 41 = .ok (.iload_n 3, 1) := by decide +kernel
theorem dJ6_getChars_ba4f3_42 : decode cJ6_getChars_ba4f3 42 = .ok (.istore_n 0, 1) := by decide +kernel
theorem dJ6_getChars_ba4f3_43 : decode cJ6_getChars_ba4f3 43 = .ok (.aload_n 2, 1) := by decide +kernel
theorem dJ6_getChars_ba4f3_44 : decode cJ6_getChars_ba4f3 44 = .ok (.iinc 5 (-1), 3) := by decide +kernel
theorem dJ6_getChars_ba4f3_47 : decode cJ6_getChars_ba4f3 47 = .ok (.iload 5, 2) := by decide +kernel
theorem dJ6_getChars_ba4f3_49 : decode cJ6_getChars_ba4f3 49 = .ok (.getstatic 83, 3) := by decide +kernel
theorem dJ6_getChars_ba4f3_52 : decode cJ6_getChars_ba4f3 52 = .ok (.iload 4, 2) := by decide +kernel
theorem dJ6_getChars_ba4f3_54 : decode cJ6_getChars_ba4f3 54 = .ok (.baload, 1) := by decide +kernel
theorem dJ6_getChars_ba4f3_55 : decode cJ6_getChars_ba4f3 55 = .ok (.bastore, 1) := by decide +kernel
theorem dJ6_getChars_ba4f3_56 : decode cJ6_getChars_ba4f3 56 = .ok (.aload_n 2, 1) := by decide +kernel
theorem dJ6_getChars_ba4f3_57 : decode cJ6_getChars_ba4f3 57 = .ok (.iinc 5 (-1), 3) := by decide +kernel
theorem dJ6_getChars_ba4f3_60 : decode cJ6_getChars_ba4f3 60 = .ok (.iload 5, 2) := by decide +kernel
theorem dJ6_getChars_ba4f3_62 : decode cJ6_getChars_ba4f3 62 = .ok (.getstatic 87, 3) := by decide +kernel
theorem dJ6_getChars_ba4f3_65 : decode cJ6_getChars_ba4f3 65 = .ok (.iload 4, 2) := by decide +kernel
theorem dJ6_getChars_ba4f3_67 : decode cJ6_getChars_ba4f3 67 = .ok (.baload, 1) := by decide +kernel
theorem dJ6_getChars_ba4f3_68 : decode cJ6_getChars_ba4f3 68 = .ok (.bastore, 1) := by decide +kernel
theorem dJ6_getChars_ba4f3_69 : decode cJ6_getChars_ba4f3 69 = .ok (.goto (-47), 3) := by decide +kernel
theorem dJ6_getChars_ba4f3_72 : decode cJ6_getChars_ba4f3 72 = .ok (.aload_n 2, 1) := by decide +kernel
theorem dJ6_getChars_ba4f3_73 : decode cJ6_getChars_ba4f3 73 = .ok (.iinc 5 (-1), 3) := by decide +kernel
theorem dJ6_getChars_ba4f3_76 : decode cJ6_getChars_ba4f3 76 = .ok (.iload 5, 2) := by decide +kernel
theorem dJ6_getChars_ba4f3_78 : decode cJ6_getChars_ba4f3 78 = .ok (.getstatic 83, 3) := by decide +kernel
theorem dJ6_getChars_ba4f3_81 : decode cJ6_getChars_ba4f3 81 = .ok (.iload_n 0, 1) := by decide +kernel
theorem dJ6_getChars_ba4f3_82 : decode cJ6_getChars_ba4f3 82 = .ok (.ineg, 1) := by decide +kernel
theorem dJ6_getChars_ba4f3_83 : decode cJ6_getChars_ba4f3 83 = .ok (.baload, 1) := by decide +kernel
theorem dJ6_getChars_ba4f3_84 : decode cJ6_getChars_ba4f3 84 = .ok (.bastore, 1) := by decide +kernel
theorem dJ6_getChars_ba4f3_85 : decode cJ6_getChars_ba4f3 85 = .ok (.iload_n 0, 1) := by decide +kernel
theorem dJ6_getChars_ba4f3_86 : decode cJ6_getChars_ba4f3 86 = .ok (.bipush (-9), 2) := by decide +kernel
theorem dJ6_getChars_ba4f3_88 : decode cJ6_getChars_ba4f3 88 = .ok (.if_icmp .ge 16, 3) := by decide +kernel
theorem dJ6_getChars_ba4f3_91 : decode cJ6_getChars_ba4f3 91 = .ok (.aload_n 2, 1) := by decide +kernel
theorem dJ6_getChars_ba4f3_92 : decode cJ6_getChars_ba4f3 92 = .ok (.iinc 5 (-1), 3) := by decide +kernel
theorem dJ6_getChars_ba4f3_95 : decode cJ6_getChars_ba4f3 95 = .ok (.iload 5, 2) := by decide +kernel
theorem dJ6_getChars_ba4f3_97 : decode cJ6_getChars_ba4f3 97 = .ok (.getstatic 87, 3) := by decide +kernel
theorem dJ6_getChars_ba4f3_100 : decode cJ6_getChars_ba4f3 100 = .ok (.iload_n 0, 1) := by decide +kernel
theorem dJ6_getChars_ba4f3_101 : decode cJ6_getChars_ba4f3 101 = .ok (.ineg, 1) := by decide +kernel
theorem dJ6_getChars_ba4f3_102 : decode cJ6_getChars_ba4f3 102 = .ok (.baload, 1) := by decide +kernel
theorem dJ6_getChars_ba4f3_103 : decode cJ6_getChars_ba4f3 103 = .ok (.bastore, 1) := by decide +kernel
theorem dJ6_getChars_ba4f3_104 : decode cJ6_getChars_ba4f3 104 = .ok (.iload 6, 2) := by decide +kernel
theorem dJ6_getChars_ba4f3_106 : decode cJ6_getChars_ba4f3 106 = .ok (.ifCond .eq 12, 3) := by decide +kernel
theorem dJ6_getChars_ba4f3_109 : decode cJ6_getChars_ba4f3 109 = .ok (.aload_n 2, 1) := by decide +kernel
theorem dJ6_getChars_ba4f3_110 : decode cJ6_getChars_ba4f3 110 = .ok (.iinc 5 (-1), 3) := by decide +kernel
theorem dJ6_getChars_ba4f3_113 : decode cJ6_getChars_ba4f3 113 = .ok (.iload 5, 2) := by decide +kernel
theorem dJ6_getChars_ba4f3_115 : decode cJ6_getChars_ba4f3 115 = .ok (.bipush 45, 2) := by decide +kernel
theorem dJ6_getChars_ba4f3_117 : decode cJ6_getChars_ba4f3 117 = .ok (.bastore, 1) := by decide +kernel
theorem dJ6_getChars_ba4f3_118 : decode cJ6_getChars_ba4f3 118 = .ok (.iload 5, 2) := by decide +kernel
theorem dJ6_getChars_ba4f3_120 : decode cJ6_getChars_ba4f3 120 = .ok (.ireturn, 1) := by decide +kernel
theorem dJ6_stringSize_0f7a4_0 : decode cJ6_stringSize_0f7a4 0 = .ok (.iconst 1, 1) := by decide +kernel
theorem dJ6_stringSize_0f7a4_1 : decode cJ6_stringSize_0f7a4 1 = .ok (.istore_n 1, 1) := by decide +kernel
theorem dJ6_stringSize_0f7a4_2 : decode cJ6_stringSize_0f7a4 2 = .ok (.iload_n 0, 1) := by decide +kernel
theorem dJ6_stringSize_0f7a4_3 : decode cJ6_stringSize_0f7a4 3 = .ok (.ifCond .lt 8, 3) := by decide +kernel
theorem dJ6_stringSize_0f7a4_6 : decode cJ6_stringSize_0f7a4 6 = .ok (.iconst 0, 1) := by decide +kernel
theorem dJ6_stringSize_0f7a4_7 : decode cJ6_stringSize_0f7a4 7 = .ok (.istore_n 1, 1) := by decide +kernel
theorem dJ6_stringSize_0f7a4_8 : decode cJ6_stringSize_0f7a4 8 = .ok (.iload_n 0, 1) := by decide +kernel
theorem dJ6_stringSize_0f7a4_9 : decode cJ6_stringSize_0f7a4 9 = .ok (.ineg, 1) := by decide +kernel
theorem dJ6_stringSize_0f7a4_10 : decode cJ6_stringSize_0f7a4 10 = .ok (.istore_n 0, 1) := by decide +kernel
theorem dJ6_stringSize_0f7a4_11 : decode cJ6_stringSize_0f7a4 11 = .ok (.bipush (-10), 2) := by decide +kernel
theorem dJ6_stringSize_0f7a4_13 : decode cJ6_stringSize_0f7a4 13 = .ok (.istore_n 2, 1) := by decide +kernel
theorem dJ6_stringSize_0f7a4_14 : decode cJ6_stringSize_0f7a4 14 = .ok (.iconst 1, 1) := by decide +kernel
theorem dJ6_stringSize_0f7a4_15 : decode cJ6_stringSize_0f7a4 15 = .ok (.istore_n 3, 1) := by decide +kernel
theorem dJ6_stringSize_0f7a4_16 : decode cJ6_stringSize_0f7a4 16 = .ok (.iload_n 3, 1) := by decide +kernel
theorem dJ6_stringSize_0f7a4_17 : decode cJ6_stringSize_0f7a4 17 = .ok (.bipush 10, 2) := by decide +kernel
theorem dJ6_stringSize_0f7a4_19 : decode cJ6_stringSize_0f7a4 19 = .ok (.if_icmp .ge 23, 3) := by decide +kernel
theorem dJ6_stringSize_0f7a4_22 : decode cJ6_stringSize_0f7a4 22 = .ok (.iload_n 0, 1) := by decide +kernel
theorem dJ6_stringSize_0f7a4_23 : decode cJ6_stringSize_0f7a4 23 = .ok (.iload_n 2, 1) := by decide +kernel
theorem dJ6_stringSize_0f7a4_24 : decode cJ6_stringSize_0f7a4 24 = .ok (.if_icmp .le 7, 3) := by decide +kernel
theorem dJ6_stringSize_0f7a4_27 : decode cJ6_stringSize_0f7a4 27 = .ok (.iload_n 3, 1) := by decide +kernel
theorem dJ6_stringSize_0f7a4_28 : decode cJ6_stringSize_0f7a4 28 = .ok (.iload_n 1, 1) := by decide +kernel
theorem dJ6_stringSize_0f7a4_29 : decode cJ6_stringSize_0f7a4 29 = .ok (.iadd, 1) := by decide +kernel
theorem dJ6_stringSize_0f7a4_30 : decode cJ6_stringSize_0f7a4 30 = .ok (.ireturn, 1) := by decide +kernel
theorem dJ6_stringSize_0f7a4_31 : decode cJ6_stringSize_0f7a4 31 = .ok (.bipush 10, 2) := by decide +kernel
theorem dJ6_stringSize_0f7a4_33 : decode cJ6_stringSize_0f7a4 33 = .ok (.iload_n 2, 1) := by decide +kernel
theorem dJ6_stringSize_0f7a4_34 : decode cJ6_stringSize_0f7a4 34 = .ok (.imul, 1) := by decide +kernel
theorem dJ6_stringSize_0f7a4_35 : decode cJ6_stringSize_0f7a4 35 = .ok (.istore_n 2, 1) := by decide +kernel
theorem dJ6_stringSize_0f7a4_36 : decode cJ6_stringSize_0f7a4 36 = .ok (.iinc 3 1, 3) := by decide +kernel
theorem dJ6_stringSize_0f7a4_39 : decode cJ6_stringSize_0f7a4 39 = .ok (.goto (-23), 3) := by decide +kernel
theorem dJ6_stringSize_0f7a4_42 : decode cJ6_stringSize_0f7a4 42 = .ok (.bipush 10, 2) := by decide +kernel
theorem dJ6_stringSize_0f7a4_44 : decode cJ6_stringSize_0f7a4 44 = .ok (.iload_n 1, 1) := by decide +kernel
theorem dJ6_stringSize_0f7a4_45 : decode cJ6_stringSize_0f7a4 45 = .ok (.iadd, 1) := by decide +kernel
theorem dJ6_stringSize_0f7a4_46 : decode cJ6_stringSize_0f7a4 46 = .ok (.ireturn, 1) := by decide +kernel
theorem dJ9_max_7cf53_0 : decode cJ9_max_7cf53 0 = .ok (.iload_n 0, 1) := by decide +kernel
theorem dJ9_max_7cf53_1 : decode cJ9_max_7cf53 1 = .ok (.iload_n 1, 1) := by decide +kernel
theorem dJ9_max_7cf53_2 : decode cJ9_max_7cf53 2 = .ok (.if_icmp .lt 7, 3) := by decide +kernel
theorem dJ9_max_7cf53_5 : decode cJ9_max_7cf53 5 = .ok (.iload_n 0, 1) := by decide +kernel
theorem dJ9_max_7cf53_6 : decode cJ9_max_7cf53 6 = .ok (.goto 4, 3) := by decide +kernel
theorem dJ9_max_7cf53_9 : decode cJ9_max_7cf53 9 = .ok (.iload_n 1, 1) := by decide +kernel
theorem dJ9_max_7cf53_10 : decode cJ9_max_7cf53 10 = .ok (.ireturn, 1) := by decide +kernel
theorem dJ9_min_7cf53_0 : decode cJ9_min_7cf53 0 = .ok (.iload_n 0, 1) := by decide +kernel
theorem dJ9_min_7cf53_1 : decode cJ9_min_7cf53 1 = .ok (.iload_n 1, 1) := by decide +kernel
theorem dJ9_min_7cf53_2 : decode cJ9_min_7cf53 2 = .ok (.if_icmp .gt 7, 3) := by decide +kernel
theorem dJ9_min_7cf53_5 : decode cJ9_min_7cf53 5 = .ok (.iload_n 0, 1) := by decide +kernel
theorem dJ9_min_7cf53_6 : decode cJ9_min_7cf53 6 = .ok (.goto 4, 3) := by decide +kernel
theorem dJ9_min_7cf53_9 : decode cJ9_min_7cf53 9 = .ok (.iload_n 1, 1) := by decide +kernel
theorem dJ9_min_7cf53_10 : decode cJ9_min_7cf53 10 = .ok (.ireturn, 1) := by decide +kernel
theorem dJ0_init_81219_0 : decode cJ0_init_81219 0 = .ok (.aload_n 0, 1) := by decide +kernel
theorem dJ0_init_81219_1 : decode cJ0_init_81219 1 = .ok (.aload_n 1, 1) := by decide +kernel
theorem dJ0_init_81219_2 : decode cJ0_init_81219 2 = .ok (.aconst_null, 1) := by decide +kernel
theorem dJ0_init_81219_3 : decode cJ0_init_81219 3 = .ok (.invokespecial 489, 3) := by decide +kernel
theorem dJ0_init_81219_6 : decode cJ0_init_81219 6 = .ok (.return_, 1) := by decide +kernel
theorem dJ0_length_8abf5_0 : decode cJ0_length_8abf5 0 = .ok (.aload_n 0, 1) := by decide +kernel
theorem dJ0_length_8abf5_1 : decode cJ0_length_8abf5 1 = .ok (.getfield 9, 3) := by decide +kernel
theorem dJ0_length_8abf5_4 : decode cJ0_length_8abf5 4 = .ok (.arraylength, 1) := by decide +kernel
theorem dJ0_length_8abf5_5 : decode cJ0_length_8abf5 5 = .ok (.aload_n 0, 1) := by decide +kernel
theorem dJ0_length_8abf5_6 : decode cJ0_length_8abf5 6 = .ok (.invokevirtual 335, 3) := by decide +kernel
theorem dJ0_length_8abf5_9 : decode cJ0_length_8abf5 9 = .ok (.ishr, 1) := by decide +kernel
theorem dJ0_length_8abf5_10 : decode cJ0_length_8abf5 10 = .ok (.ireturn, 1) := by decide +kernel
theorem dJ0_charAt_5068e_0 : decode cJ0_charAt_5068e 0 = .ok (.aload_n 0, 1) := by decide +kernel
theorem dJ0_charAt_5068e_1 : decode cJ0_charAt_5068e 1 = .ok (.invokevirtual 492, 3) := by decide +kernel
theorem dJ0_charAt_5068e_4 : decode cJ0_charAt_5068e 4 = .ok (.ifCond .eq 12, 3) := by decide +kernel
theorem dJ0_charAt_5068e_7 : decode cJ0_charAt_5068e 7 = .ok (.aload_n 0, 1) := by decide +kernel
theorem dJ0_charAt_5068e_8 : decode cJ0_charAt_5068e 8 = .ok (.getfield 9, 3) := by decide +kernel
theorem dJ0_charAt_5068e_11 : decode cJ0_charAt_5068e 11 = .ok (.iload_n 1, 1) := by decide +kernel
theorem dJ0_charAt_5068e_12 : decode cJ0_charAt_5068e 12 = .ok (.invokestatic 495, 3) := by decide +kernel
theorem dJ0_charAt_5068e_15 : decode cJ0_charAt_5068e 15 = .ok (.ireturn, 1) := by decide +kernel
theorem dJ0_charAt_5068e_16 : decode cJ0_charAt_5068e 16 = .ok (.aload_n 0, 1) := by decide +kernel
theorem dJ0_charAt_5068e_17 : decode cJ0_charAt_5068e 17 = .ok (.getfield 9, 3) := by decide +kernel
theorem dJ0_charAt_5068e_20 : decode cJ0_charAt_5068e 20 = .ok (.iload_n 1, 1) := by decide +kernel
theorem dJ0_charAt_5068e_21 : decode cJ0_charAt_5068e 21 = .ok (.invokestatic 498, 3) := by decide +kernel
theorem dJ0_charAt_5068e_24 : decode cJ0_charAt_5068e 24 = .ok (.ireturn, 1) := by decide +kernel
theorem dJ0_getBytes_840e7_0 : decode cJ0_getBytes_840e7 0 = .ok (.aload_n 0, 1) := by decide +kernel
theorem dJ0_getBytes_840e7_1 : decode cJ0_getBytes_840e7 1 = .ok (.invokevirtual 335, 3) := by decide +kernel
theorem dJ0_getBytes_840e7_4 : decode cJ0_getBytes_840e7 4 = .ok (.iload_n 3, 1) := by decide +kernel
theorem dJ0_getBytes_840e7_5 : decode cJ0_getBytes_840e7 5 = .ok (.if_icmp .ne 23, 3) := by decide +kernel
theorem dJ0_getBytes_840e7_8 : decode cJ0_getBytes_840e7 8 = .ok (.aload_n 0, 1) := by decide +kernel
theorem dJ0_getBytes_840e7_9 : decode cJ0_getBytes_840e7 9 = .ok (.getfield 9, 3) := by decide +kernel
theorem dJ0_getBytes_840e7_12 : decode cJ0_getBytes_840e7 12 = .ok (.iconst 0, 1) := by decide +kernel
theorem dJ0_getBytes_840e7_13 : decode cJ0_getBytes_840e7 13 = .ok (.aload_n 1, 1) := by decide +kernel
theorem dJ0_getBytes_840e7_14 : decode cJ0_getBytes_840e7 14 = .ok (.iload_n 2, 1) := by decide +kernel
theorem dJ0_getBytes_840e7_15 : decode cJ0_getBytes_840e7 15 = .ok (.iload_n 3, 1) := by decide +kernel
theorem dJ0_getBytes_840e7_16 : decode cJ0_getBytes_840e7 16 = .ok (.ishl, 1) := by decide +kernel
theorem dJ0_getBytes_840e7_17 : decode cJ0_getBytes_840e7 17 = .ok (.aload_n 0, 1) := by decide +kernel
theorem dJ0_getBytes_840e7_18 : decode cJ0_getBytes_840e7 18 = .ok (.getfield 9, 3) := by decide +kernel
theorem dJ0_getBytes_840e7_21 : decode cJ0_getBytes_840e7 21 = .ok (.arraylength, 1) := by decide +kernel
theorem dJ0_getBytes_840e7_22 : decode cJ0_getBytes_840e7 22 = .ok (.invokestatic 212, 3) := by decide +kernel
theorem dJ0_getBytes_840e7_25 : decode cJ0_getBytes_840e7 25 = .ok (.goto 18, 3) := by decide +kernel
theorem dJ0_getBytes_840e7_28 : decode cJ0_getBytes_840e7 28 = .ok (.aload_n 0, 1) := by decide +kernel
theorem dJ0_getBytes_840e7_29 : decode cJ0_getBytes_840e7 29 = .ok (.getfield 9, 3) := by decide +kernel
theorem dJ0_getBytes_840e7_32 : decode cJ0_getBytes_840e7 32 = .ok (.iconst 0, 1) := by decide +kernel
theorem dJ0_getBytes_840e7_33 : decode cJ0_getBytes_840e7 33 = .ok (.aload_n 1, 1) := by decide +kernel
theorem dJ0_getBytes_840e7_34 : decode cJ0_getBytes_840e7 34 = .ok (.iload_n 2, 1) := by decide +kernel
theorem dJ0_getBytes_840e7_35 : decode cJ0_getBytes_840e7 35 = .ok (.aload_n 0, 1) := by decide +kernel
theorem dJ0_getBytes_840e7_36 : decode cJ0_getBytes_840e7 36 = .ok (.getfield 9, 3) := by decide +kernel
theorem dJ0_getBytes_840e7_39 : decode cJ0_getBytes_840e7 39 = .ok (.arraylength, 1) := by decide +kernel
theorem dJ0_getBytes_840e7_40 : decode cJ0_getBytes_840e7 40 = .ok (.invokestatic 106, 3) := by decide +kernel
theorem dJ0_getBytes_840e7_43 : decode cJ0_getBytes_840e7 43 = .ok (.return_, 1) := by decide +kernel
theorem dJ0_init_db425_0 : decode cJ0_init_db425 0 = .ok (.aload_n 0, 1) := by decide +kernel
theorem dJ0_init_db425_1 : decode cJ0_init_db425 1 = .ok (.invokespecial 1, 3) := by decide +kernel
theorem dJ0_init_db425_4 : decode cJ0_init_db425 4 = .ok (.aload_n 1, 1) := by decide +kernel
theorem dJ0_init_db425_5 : decode cJ0_init_db425 5 = .ok (.invokevirtual 552, 3) := by decide +kernel
theorem dJ0_init_db425_8 : decode cJ0_init_db425 8 = .ok (.astore_n 3, 1) := by decide +kernel
theorem dJ0_init_db425_9 : decode cJ0_init_db425 9 = .ok (.aload_n 1, 1) := by decide +kernel
theorem dJ0_init_db425_10 : decode cJ0_init_db425 10 = .ok (.invokevirtual 549, 3) := by decide +kernel
theorem dJ0_init_db425_13 : decode cJ0_init_db425 13 = .ok (.istore 4, 2) := by decide +kernel
theorem dJ0_init_db425_15 : decode cJ0_init_db425 15 = .ok (.aload_n 1, 1) := by decide +kernel
theorem dJ0_init_db425_16 : decode cJ0_init_db425 16 = .ok (.invokevirtual 1047, 3) := by decide +kernel
theorem dJ0_init_db425_19 : decode cJ0_init_db425 19 = .ok (.ifCond .eq 22, 3) := by decide +kernel
theorem dJ0_init_db425_22 : decode cJ0_init_db425 22 = .ok (.aload_n 0, 1) := by decide +kernel
theorem dJ0_init_db425_23 : decode cJ0_init_db425 23 = .ok (.iconst 0, 1) := by decide +kernel
theorem dJ0_init_db425_24 : decode cJ0_init_db425 24 = .ok (.putfield 15, 3) := by decide +kernel
theorem dJ0_init_db425_27 : decode cJ0_init_db425 27 = .ok (.aload_n 0, 1) := by decide +kernel
theorem dJ0_init_db425_28 : decode cJ0_init_db425 28 = .ok (.aload_n 3, 1) := by decide +kernel
theorem dJ0_init_db425_29 : decode cJ0_init_db425 29 = .ok (.iconst 0, 1) := by decide +kernel
theorem dJ0_init_db425_30 : decode cJ0_init_db425 30 = .ok (.iload 4, 2) := by decide +kernel
theorem dJ0_init_db425_32 : decode cJ0_init_db425 32 = .ok (.invokestatic 54, 3) := by decide +kernel
theorem dJ0_init_db425_35 : decode cJ0_init_db425 35 = .ok (.putfield 9, 3) := by decide +kernel
theorem dJ0_init_db425_38 : decode cJ0_init_db425 38 = .ok (.goto 59, 3) := by decide +kernel
theorem dJ0_init_db425_41 : decode cJ0_init_db425 41 = .ok (.getstatic 38, 3) := by decide +kernel
theorem dJ0_init_db425_44 : decode cJ0_init_db425 44 = .ok (.ifCond .eq 35, 3) := by decide +kernel
theorem dJ0_init_db425_47 : decode cJ0_init_db425 47 = .ok (.aload_n 1, 1) := by decide +kernel
theorem dJ0_init_db425_48 : decode cJ0_init_db425 48 = .ok (.getfield 1048, 3) := by decide +kernel
theorem dJ0_init_db425_51 : decode cJ0_init_db425 51 = .ok (.ifCond .eq 28, 3) := by decide +kernel
theorem dJ0_init_db425_54 : decode cJ0_init_db425 54 = .ok (.aload_n 0, 1) := by decide +kernel
theorem dJ0_init_db425_55 : decode cJ0_init_db425 55 = .ok (.aload_n 3, 1) := by decide +kernel
theorem dJ0_init_db425_56 : decode cJ0_init_db425 56 = .ok (.iconst 0, 1) := by decide +kernel
theorem dJ0_init_db425_57 : decode cJ0_init_db425 57 = .ok (.iload 4, 2) := by decide +kernel
theorem dJ0_init_db425_59 : decode cJ0_init_db425 59 = .ok (.invokestatic 1051, 3) := by decide +kernel
theorem dJ0_init_db425_62 : decode cJ0_init_db425 62 = .ok (.putfield 9, 3) := by decide +kernel
theorem dJ0_init_db425_65 : decode cJ0_init_db425 65 = .ok (.aload_n 0, 1) := by decide +kernel
theorem dJ0_init_db425_66 : decode cJ0_init_db425 66 = .ok (.aload_n 0, 1) := by decide +kernel
theorem dJ0_init_db425_67 : decode cJ0_init_db425 67 = .ok (.getfield 9, 3) := by decide +kernel
theorem dJ0_init_db425_70 : decode cJ0_init_db425 70 = .ok (.iload 4, 2) := by decide +kernel
theorem dJ0_init_db425_72 : decode cJ0_init_db425 72 = .ok (.invokestatic 47, 3) := by decide +kernel
theorem dJ0_init_db425_75 : decode cJ0_init_db425 75 = .ok (.putfield 15, 3) := by decide +kernel
theorem dJ0_init_db425_78 : decode cJ0_init_db425 78 = .ok (.return_, 1) := by decide +kernel
theorem dJ0_init_db425_79 : decode cJ0_init_db425 79 = .ok (.aload_n 0, 1) := by decide +kernel
theorem dJ0_init_db425_80 : decode cJ0_init_db425 80 = .ok (.iconst 1, 1) := by decide +kernel
theorem dJ0_init_db425_81 : decode cJ0_init_db425 81 = .ok (.putfield 15, 3) := by decide +kernel
theorem dJ0_init_db425_84 : decode cJ0_init_db425 84 = .ok (.aload_n 0, 1) := by decide +kernel
theorem dJ0_init_db425_85 : decode cJ0_init_db425 85 = .ok (.aload_n 3, 1) := by decide +kernel
theorem dJ0_init_db425_86 : decode cJ0_init_db425 86 = .ok (.iconst 0, 1) := by decide +kernel
theorem dJ0_init_db425_87 : decode cJ0_init_db425 87 = .ok (.iload 4, 2) := by decide +kernel
theorem dJ0_init_db425_89 : decode cJ0_init_db425 89 = .ok (.iconst 1, 1) := by decide +kernel
theorem dJ0_init_db425_90 : decode cJ0_init_db425 90 = .ok (.ishl, 1) := by decide +kernel
theorem dJ0_init_db425_91 : decode cJ0_init_db425 91 = .ok (.invokestatic 54, 3) := by decide +kernel
theorem dJ0_init_db425_94 : decode cJ0_init_db425 94 = .ok (.putfield 9, 3) := by decide +kernel
theorem dJ0_init_db425_97 : decode cJ0_init_db425 97 = .ok (.return_, 1) := by decide +kernel
theorem dJ0_coder_7d493_0 : decode cJ0_coder_7d493 0 = .ok (.getstatic 38, 3) := by decide +kernel
theorem dJ0_coder_7d493_3 : decode cJ0_coder_7d493 3 = .ok (.ifCond .eq 10, 3) := by decide +kernel
theorem dJ0_coder_7d493_6 : decode cJ0_coder_7d493 6 = .ok (.aload_n 0, 1) := by decide +kernel
theorem dJ0_coder_7d493_7 : decode cJ0_coder_7d493 7 = .ok (.getfield 15, 3) := by decide +kernel
theorem dJ0_coder_7d493_10 : decode cJ0_coder_7d493 10 = .ok (.goto 4, 3) := by decide +kernel
theorem dJ0_coder_7d493_13 : decode cJ0_coder_7d493 13 = .ok (.iconst 1, 1) := by decide +kernel
theorem dJ0_coder_7d493_14 : decode cJ0_coder_7d493 14 = .ok (.ireturn, 1) := by decide +kernel
theorem dJ0_isLatin1_aae02_0 : decode cJ0_isLatin1_aae02 0 = .ok (.getstatic 38, 3) := by decide +kernel
theorem dJ0_isLatin1_aae02_3 : decode cJ0_isLatin1_aae02 3 = .ok (.ifCond .eq 14, 3) := by decide +kernel
theorem dJ0_isLatin1_aae02_6 : decode cJ0_isLatin1_aae02 6 = .ok (.aload_n 0, 1) := by decide +kernel
theorem dJ0_isLatin1_aae02_7 : decode cJ0_isLatin1_aae02 7 = .ok (.getfield 15, 3) := by decide +kernel
theorem dJ0_isLatin1_aae02_10 : decode cJ0_isLatin1_aae02 10 = .ok (.ifCond .ne 7, 3) := by decide +kernel
theorem dJ0_isLatin1_aae02_13 : decode cJ0_isLatin1_aae02 13 = .ok (.iconst 1, 1) := by decide +kernel
theorem dJ0_isLatin1_aae02_14 : decode cJ0_isLatin1_aae02 14 = .ok (.goto 4, 3) := by decide +kernel
theorem dJ0_isLatin1_aae02_17 : decode cJ0_isLatin1_aae02 17 = .ok (.iconst 0, 1) := by decide +kernel
theorem dJ0_isLatin1_aae02_18 : decode cJ0_isLatin1_aae02 18 = .ok (.ireturn, 1) := by decide +kernel
theorem dJ0_checkIndex_df160_0 : decode cJ0_checkIndex_df160 0 = .ok (.iload_n 0, 1) := by decide +kernel
theorem dJ0_checkIndex_df160_1 : decode cJ0_checkIndex_df160 1 = .ok (.iload_n 1, 1) := by decide +kernel
theorem dJ0_checkIndex_df160_2 : decode cJ0_checkIndex_df160 2 = .ok (.getstatic 1053, 3) := by decide +kernel
theorem dJ0_checkIndex_df160_5 : decode cJ0_checkIndex_df160 5 = .ok (.invokestatic 1059, 3) := by decide +kernel
theorem dJ0_checkIndex_df160_8 : decode cJ0_checkIndex_df160 8 = .ok (.pop, 1) := by decide +kernel
theorem dJ0_checkIndex_df160_9 : decode cJ0_checkIndex_df160 9 = .ok (.return_, 1) := by decide +kernel
theorem dJ0_checkBoundsOffCount_cabcc_0 : decode cJ0_checkBoundsOffCount_cabcc 0 = .ok (.iload_n 0, 1) := by decide +kernel
theorem dJ0_checkBoundsOffCount_cabcc_1 : decode cJ0_checkBoundsOffCount_cabcc 1 = .ok (.iload_n 1, 1) := by decide +kernel
theorem dJ0_checkBoundsOffCount_cabcc_2 : decode cJ0_checkBoundsOffCount_cabcc 2 = .ok (.iload_n 2, 1) := by decide +kernel
theorem dJ0_checkBoundsOffCount_cabcc_3 : decode cJ0_checkBoundsOffCount_cabcc 3 = .ok (.getstatic 1053, 3) := by decide +kernel
theorem dJ0_checkBoundsOffCount_cabcc_6 : decode cJ0_checkBoundsOffCount_cabcc 6 = .ok (.invokestatic 1065, 3) := by decide +kernel
theorem dJ0_checkBoundsOffCount_cabcc_9 : decode cJ0_checkBoundsOffCount_cabcc 9 = .ok (.ireturn, 1) := by decide +kernel
theorem dJ0_checkBoundsBeginEnd_23922_0 : decode cJ0_checkBoundsBeginEnd_23922 0 = .ok (.iload_n 0, 1) := by decide +kernel
theorem dJ0_checkBoundsBeginEnd_23922_1 : decode cJ0_checkBoundsBeginEnd_23922 1 = .ok (.iload_n 1, 1) := by decide +kernel
theorem dJ0_checkBoundsBeginEnd_23922_2 : decode cJ0_checkBoundsBeginEnd_23922 2 = .ok (.iload_n 2, 1) := by decide +kernel
theorem dJ0_checkBoundsBeginEnd_23922_3 : decode cJ0_checkBoundsBeginEnd_23922 3 = .ok (.getstatic 1053, 3) := by decide +kernel
theorem dJ0_checkBoundsBeginEnd_23922_6 : decode cJ0_checkBoundsBeginEnd_23922 6 = .ok (.invokestatic 1062, 3) := by decide +kernel
theorem dJ0_checkBoundsBeginEnd_23922_9 : decode cJ0_checkBoundsBeginEnd_23922 9 = .ok (.pop, 1) := by decide +kernel
theorem dJ0_checkBoundsBeginEnd_23922_10 : decode cJ0_checkBoundsBeginEnd_23922 10 = .ok (.return_, 1) := by decide +kernel
theorem dJ4_init_da8c8_0 : decode cJ4_init_da8c8 0 = .ok (.aload_n 0, 1) := by decide +kernel
theorem dJ4_init_da8c8_1 : decode cJ4_init_da8c8 1 = .ok (.bipush 16, 2) := by decide +kernel
theorem dJ4_init_da8c8_3 : decode cJ4_init_da8c8 3 = .ok (.invokespecial 1, 3) := by decide +kernel
theorem dJ4_init_da8c8_6 : decode cJ4_init_da8c8 6 = .ok (.return_, 1) := by decide +kernel
theorem dJ4_append_15ec4_0 : decode cJ4_append_15ec4 0 = .ok (.aload_n 0, 1) := by decide +kernel
theorem dJ4_append_15ec4_1 : decode cJ4_append_15ec4 1 = .ok (.aload_n 1, 1) := by decide +kernel
theorem dJ4_append_15ec4_2 : decode cJ4_append_15ec4 2 = .ok (.invokespecial 29, 3) := by decide +kernel
theorem dJ4_append_15ec4_5 : decode cJ4_append_15ec4 5 = .ok (.pop, 1) := by decide +kernel
theorem dJ4_append_15ec4_6 : decode cJ4_append_15ec4 6 = .ok (.aload_n 0, 1) := by decide +kernel
theorem dJ4_append_15ec4_7 : decode cJ4_append_15ec4 7 = .ok (.areturn, 1) := by decide +kernel
theorem dJ4_append_bf812_0 : decode cJ4_append_bf812 0 = .ok (.aload_n 0, 1) := by decide +kernel
theorem dJ4_append_bf812_1 : decode cJ4_append_bf812 1 = .ok (.iload_n 1, 1) := by decide +kernel
theorem dJ4_append_bf812_2 : decode cJ4_append_bf812 2 = .ok (.invokespecial 53, 3) := by decide +kernel
theorem dJ4_append_bf812_5 : decode cJ4_append_bf812 5 = .ok (.pop, 1) := by decide +kernel
theorem dJ4_append_bf812_6 : decode cJ4_append_bf812 6 = .ok (.aload_n 0, 1) := by decide +kernel
theorem dJ4_append_bf812_7 : decode cJ4_append_bf812 7 = .ok (.areturn, 1) := by decide +kernel
theorem dJ4_toString_0e30d_0 : decode cJ4_toString_0e30d 0 = .ok (.new 18, 3) := by decide +kernel
theorem dJ4_toString_0e30d_3 : decode cJ4_toString_0e30d 3 = .ok (.dup, 1) := by decide +kernel
theorem dJ4_toString_0e30d_4 : decode cJ4_toString_0e30d 4 = .ok (.aload_n 0, 1) := by decide +kernel
theorem dJ4_toString_0e30d_5 : decode cJ4_toString_0e30d 5 = .ok (.invokespecial 137, 3) := by decide +kernel
theorem dJ4_toString_0e30d_8 : decode cJ4_toString_0e30d 8 = .ok (.areturn, 1) := by decide +kernel
theorem dJ4_length_8abf5_0 : decode cJ4_length_8abf5 0 = .ok (.aload_n 0, 1) := by decide +kernel
theorem dJ4_length_8abf5_1 : decode cJ4_length_8abf5 1 = .ok (.invokespecial 343, 3) := by decide +kernel
theorem dJ4_length_8abf5_4 : decode cJ4_length_8abf5 4 = .ok (.ireturn, 1) := by decide +kernel
theorem dJ1_charAt_3b067_0 : decode cJ1_charAt_3b067 0 = .ok (.iload_n 1, 1) := by decide +kernel
theorem dJ1_charAt_3b067_1 : decode cJ1_charAt_3b067 1 = .ok (.aload_n 0, 1) := by decide +kernel
theorem dJ1_charAt_3b067_2 : decode cJ1_charAt_3b067 2 = .ok (.arraylength, 1) := by decide +kernel
theorem dJ1_charAt_3b067_3 : decode cJ1_charAt_3b067 3 = .ok (.invokestatic 9, 3) := by decide +kernel
theorem dJ1_charAt_3b067_6 : decode cJ1_charAt_3b067 6 = .ok (.aload_n 0, 1) := by decide +kernel
theorem dJ1_charAt_3b067_7 : decode cJ1_charAt_3b067 7 = .ok (.iload_n 1, 1) := by decide +kernel
theorem dJ1_charAt_3b067_8 : decode cJ1_charAt_3b067 8 = .ok (.baload, 1) := by decide +kernel
theorem dJ1_charAt_3b067_9 : decode cJ1_charAt_3b067 9 = .ok (.sipush 255, 3) := by decide +kernel
theorem dJ1_charAt_3b067_12 : decode cJ1_charAt_3b067 12 = .ok (.iand, 1) := by decide +kernel
theorem dJ1_charAt_3b067_13 : decode cJ1_charAt_3b067 13 = .ok (.i2c, 1) := by decide +kernel
theorem dJ1_charAt_3b067_14 : decode cJ1_charAt_3b067 14 = .ok (.ireturn, 1) := by decide +kernel
theorem dJ1_inflate_0e8fd_0 : decode cJ1_inflate_0e8fd 0 = .ok (.aload_n 0, 1) := by decide +kernel
theorem dJ1_inflate_0e8fd_1 : decode cJ1_inflate_0e8fd 1 = .ok (.iload_n 1, 1) := by decide +kernel
theorem dJ1_inflate_0e8fd_2 : decode cJ1_inflate_0e8fd 2 = .ok (.aload_n 2, 1) := by decide +kernel
theorem dJ1_inflate_0e8fd_3 : decode cJ1_inflate_0e8fd 3 = .ok (.iload_n 3, 1) := by decide +kernel
theorem dJ1_inflate_0e8fd_4 : decode cJ1_inflate_0e8fd 4 = .ok (.iload 4, 2) := by decide +kernel
theorem dJ1_inflate_0e8fd_6 : decode cJ1_inflate_0e8fd 6 = .ok (.invokestatic 240, 3) := by decide +kernel
theorem dJ1_inflate_0e8fd_9 : decode cJ1_inflate_0e8fd 9 = .ok (.return_, 1) := by decide +kernel
theorem dJ2_newBytesFor_77867_0 : decode cJ2_newBytesFor_77867 0 = .ok (.iload_n 0, 1) := by decide +kernel
theorem dJ2_newBytesFor_77867_1 : decode cJ2_newBytesFor_77867 1 = .ok (.invokestatic 11, 3) := by decide +kernel
theorem dJ2_newBytesFor_77867_4 : decode cJ2_newBytesFor_77867 4 = .ok (.newarray .byte, 2) := by decide +kernel
theorem dJ2_newBytesFor_77867_6 : decode cJ2_newBytesFor_77867 6 = .ok (.areturn, 1) := by decide +kernel
theorem dJ2_newBytesLength_0f7a4_0 : decode cJ2_newBytesLength_0f7a4 0 = .ok (.iload_n 0, 1) := by decide +kernel
theorem dJ2_newBytesLength_0f7a4_1 : decode cJ2_newBytesLength_0f7a4 1 = .ok (.ifCond .ge 11, 3) := by decide +kernel
theorem dJ2_newBytesLength_0f7a4_4 : decode cJ2_newBytesLength_0f7a4 4 = .ok (.new 17, 3) := by decide +kernel
theorem dJ2_newBytesLength_0f7a4_7 : decode cJ2_newBytesLength_0f7a4 7 = .ok (.dup, 1) := by decide +kernel
theorem dJ2_newBytesLength_0f7a4_8 : decode cJ2_newBytesLength_0f7a4 8 = .ok (.invokespecial 19, 3) := by decide +kernel
theorem dJ2_newBytesLength_0f7a4_11 : decode cJ2_newBytesLength_0f7a4 11 = .ok (.athrow, 1) := by decide +kernel
theorem dJ2_newBytesLength_0f7a4_12 : decode cJ2_newBytesLength_0f7a4 12 = .ok (.iload_n 0, 1) := by decide +kernel
theorem dJ2_newBytesLength_0f7a4_13 : decode cJ2_newBytesLength_0f7a4 13 = .ok (.ldc 20, 2) := by decide +kernel
theorem dJ2_newBytesLength_0f7a4_15 : decode cJ2_newBytesLength_0f7a4 15 = .ok (.if_icmp .lt 40, 3) := by decide +kernel
theorem dJ2_newBytesLength_0f7a4_18 : decode cJ2_newBytesLength_0f7a4 18 = .ok (.new 21, 3) := by decide +kernel
theorem dJ2_newBytesLength_0f7a4_21 : decode cJ2_newBytesLength_0f7a4 21 = .ok (.dup, 1) := by decide +kernel
theorem dJ2_newBytesLength_0f7a4_22 : decode cJ2_newBytesLength_0f7a4 22 = .ok (.new 23, 3) := by decide +kernel
theorem dJ2_newBytesLength_0f7a4_25 : decode cJ2_newBytesLength_0f7a4 25 = .ok (.dup, 1) := by decide +kernel
theorem dJ2_newBytesLength_0f7a4_26 : decode cJ2_newBytesLength_0f7a4 26 = .ok (.invokespecial 25, 3) := by decide +kernel
theorem dJ2_newBytesLength_0f7a4_29 : decode cJ2_newBytesLength_0f7a4 29 = .ok (.ldc 26, 2) := by decide +kernel
theorem dJ2_newBytesLength_0f7a4_31 : decode cJ2_newBytesLength_0f7a4 31 = .ok (.invokevirtual 28, 3) := by decide +kernel
theorem dJ2_newBytesLength_0f7a4_34 : decode cJ2_newBytesLength_0f7a4 34 = .ok (.iload_n 0, 1) := by decide +kernel
theorem dJ2_newBytesLength_0f7a4_35 : decode cJ2_newBytesLength_0f7a4 35 = .ok (.invokevirtual 32, 3) := by decide +kernel
theorem dJ2_newBytesLength_0f7a4_38 : decode cJ2_newBytesLength_0f7a4 38 = .ok (.ldc 35, 2) := by decide +kernel
theorem dJ2_newBytesLength_0f7a4_40 : decode cJ2_newBytesLength_0f7a4 40 = .ok (.invokevirtual 28, 3) := by decide +kernel
theorem dJ2_newBytesLength_0f7a4_43 : decode cJ2_newBytesLength_0f7a4 43 = .ok (.ldc 20, 2) := by decide +kernel
theorem dJ2_newBytesLength_0f7a4_45 : decode cJ2_newBytesLength_0f7a4 45 = .ok (.invokevirtual 32, 3) := by decide +kernel
theorem dJ2_newBytesLength_0f7a4_48 : decode cJ2_newBytesLength_0f7a4 48 = .ok (.invokevirtual 37, 3) := by decide +kernel
theorem dJ2_newBytesLength_0f7a4_51 : decode cJ2_newBytesLength_0f7a4 51 = .ok (.invokespecial 41, 3) := by decide +kernel
theorem dJ2_newBytesLength_0f7a4_54 : decode cJ2_newBytesLength_0f7a4 54 = .ok (.athrow, 1) := by decide +kernel
theorem dJ2_newBytesLength_0f7a4_55 : decode cJ2_newBytesLength_0f7a4 55 = .ok (.iload_n 0, 1) := by decide +kernel
theorem dJ2_newBytesLength_0f7a4_56 : decode cJ2_newBytesLength_0f7a4 56 = .ok (.iconst 1, 1) := by decide +kernel
theorem dJ2_newBytesLength_0f7a4_57 : decode cJ2_newBytesLength_0f7a4 57 = .ok (.ishl, 1) := by decide +kernel
theorem dJ2_newBytesLength_0f7a4_58 : decode cJ2_newBytesLength_0f7a4 58 = .ok (.ireturn, 1) := by decide +kernel
theorem dJ2_putChar_b72d1_0 : decode cJ2_putChar_b72d1 0 = .ok (.getstatic 44, 3) := by decide +kernel
theorem dJ2_putChar_b72d1_3 : decode cJ2_putChar_b72d1 3 = .ok (.ifCond .ne 25, 3) := by decide +kernel
theorem dJ2_putChar_b72d1_6 : decode cJ2_putChar_b72d1 6 = .ok (.iload_n 1, 1) := by decide +kernel
theorem dJ2_putChar_b72d1_7 : decode cJ2_putChar_b72d1 7 = .ok (.ifCond .lt 11, 3) := by decide +kernel
theorem dJ2_putChar_b72d1_10 : decode cJ2_putChar_b72d1 10 = .ok (.iload_n 1, 1) := by decide +kernel
theorem dJ2_putChar_b72d1_11 : decode cJ2_putChar_b72d1 11 = .ok (.aload_n 0, 1) := by decide +kernel
theorem dJ2_putChar_b72d1_12 : decode cJ2_putChar_b72d1 12 = .ok (.invokestatic 48, 3) := by decide +kernel
theorem dJ2_putChar_b72d1_15 : decode cJ2_putChar_b72d1 15 = .ok (.if_icmp .lt 13, 3) := by decide +kernel
theorem dJ2_putChar_b72d1_18 : decode cJ2_putChar_b72d1 18 = .ok (.new 52, 3) := by decide +kernel
theorem dJ2_putChar_b72d1_21 : decode cJ2_putChar_b72d1 21 = .ok (.dup, 1) := by decide +kernel
theorem dJ2_putChar_b72d1_22 : decode cJ2_putChar_b72d1 22 = .ok (.ldc 54, 2) := by decide +kernel
theorem dJ2_putChar_b72d1_24 : decode cJ2_putChar_b72d1 24 = .ok (.invokespecial 56, 3) := by decide +kernel
theorem dJ2_putChar_b72d1_27 : decode cJ2_putChar_b72d1 27 = .ok (.athrow, 1) := by decide +kernel
theorem dJ2_putChar_b72d1_28 : decode cJ2_putChar_b72d1 28 = .ok (.iload_n 1, 1) := by decide +kernel
theorem dJ2_putChar_b72d1_29 : decode cJ2_putChar_b72d1 29 = .ok (.iconst 1, 1) := by decide +kernel
theorem dJ2_putChar_b72d1_30 : decode cJ2_putChar_b72d1 30 = .ok (.ishl, 1) := by decide +kernel
theorem dJ2_putChar_b72d1_31 : decode cJ2_putChar_b72d1 31 = .ok (.istore_n 1, 1) := by decide +kernel
theorem dJ2_putChar_b72d1_32 : decode cJ2_putChar_b72d1 32 = .ok (.aload_n 0, 1) := by decide +kernel
theorem dJ2_putChar_b72d1_33 : decode cJ2_putChar_b72d1 33 = .ok (.iload_n 1, 1) := by decide +kernel
theorem dJ2_putChar_b72d1_34 : decode cJ2_putChar_b72d1 34 = .ok (.iinc 1 1, 3) := by decide +kernel
theorem dJ2_putChar_b72d1_37 : decode cJ2_putChar_b72d1 37 = .ok (.iload_n 2, 1) := by decide +kernel
theorem dJ2_putChar_b72d1_38 : decode cJ2_putChar_b72d1 38 = .ok (.getstatic 59, 3) := by decide +kernel
theorem dJ2_putChar_b72d1_41 : decode cJ2_putChar_b72d1 41 = .ok (.ishr, 1) := by decide +kernel
theorem dJ2_putChar_b72d1_42 : decode cJ2_putChar_b72d1 42 = .ok (.i2b, 1) := by decide +kernel
theorem dJ2_putChar_b72d1_43 : decode cJ2_putChar_b72d1 43 = .ok (.bastore, 1) := by decide +kernel
theorem dJ2_putChar_b72d1_44 : decode cJ2_putChar_b72d1 44 = .ok (.aload_n 0, 1) := by decide +kernel
theorem dJ2_putChar_b72d1_45 : decode cJ2_putChar_b72d1 45 = .ok (.iload_n 1, 1) := by decide +kernel
theorem dJ2_putChar_b72d1_46 : decode cJ2_putChar_b72d1 46 = .ok (.iload_n 2, 1) := by decide +kernel
theorem dJ2_putChar_b72d1_47 : decode cJ2_putChar_b72d1 47 = .ok (.getstatic 63, 3) := by decide +kernel
theorem dJ2_putChar_b72d1_50 : decode cJ2_putChar_b72d1 50 = .ok (.ishr, 1) := by decide +kernel
theorem dJ2_putChar_b72d1_51 : decode cJ2_putChar_b72d1 51 = .ok (.i2b, 1) := by decide +kernel
theorem dJ2_putChar_b72d1_52 : decode cJ2_putChar_b72d1 52 = .ok (.bastore, 1) := by decide +kernel
theorem dJ2_putChar_b72d1_53 : decode cJ2_putChar_b72d1 53 = .ok (.return_, 1) := by decide +kernel
theorem dJ2_getChar_3b067_0 : decode cJ2_getChar_3b067 0 = .ok (.getstatic 44, 3) := by decide +kernel
theorem dJ2_getChar_3b067_3 : decode cJ2_getChar_3b067 3 = .ok (.ifCond .ne 25, 3) := by decide +kernel
theorem dJ2_getChar_3b067_6 : decode cJ2_getChar_3b067 6 = .ok (.iload_n 1, 1) := by decide +kernel
theorem dJ2_getChar_3b067_7 : decode cJ2_getChar_3b067 7 = .ok (.ifCond .lt 11, 3) := by decide +kernel
theorem dJ2_getChar_3b067_10 : decode cJ2_getChar_3b067 10 = .ok (.iload_n 1, 1) := by decide +kernel
theorem dJ2_getChar_3b067_11 : decode cJ2_getChar_3b067 11 = .ok (.aload_n 0, 1) := by decide +kernel
theorem dJ2_getChar_3b067_12 : decode cJ2_getChar_3b067 12 = .ok (.invokestatic 48, 3) := by decide +kernel
theorem dJ2_getChar_3b067_15 : decode cJ2_getChar_3b067 15 = .ok (.if_icmp .lt 13, 3) := by decide +kernel
theorem dJ2_getChar_3b067_18 : decode cJ2_getChar_3b067 18 = .ok (.new 52, 3) := by decide +kernel
theorem dJ2_getChar_3b067_21 : decode cJ2_getChar_3b067 21 = .ok (.dup, 1) := by decide +kernel
theorem dJ2_getChar_3b067_22 : decode cJ2_getChar_3b067 22 = .ok (.ldc 54, 2) := by decide +kernel
theorem dJ2_getChar_3b067_24 : decode cJ2_getChar_3b067 24 = .ok (.invokespecial 56, 3) := by decide +kernel
theorem dJ2_getChar_3b067_27 : decode cJ2_getChar_3b067 27 = .ok (.athrow, 1) := by decide +kernel
theorem dJ2_getChar_3b067_28 : decode cJ2_getChar_3b067 28 = .ok (.iload_n 1, 1) := by decide +kernel
theorem dJ2_getChar_3b067_29 : decode cJ2_getChar_3b067 29 = .ok (.iconst 1, 1) := by decide +kernel
theorem dJ2_getChar_3b067_30 : decode cJ2_getChar_3b067 30 = .ok (.ishl, 1) := by decide +kernel
theorem dJ2_getChar_3b067_31 : decode cJ2_getChar_3b067 31 = .ok (.istore_n 1, 1) := by decide +kernel
theorem dJ2_getChar_3b067_32 : decode cJ2_getChar_3b067 32 = .ok (.aload_n 0, 1) := by decide +kernel
theorem dJ2_getChar_3b067_33 : decode cJ2_getChar_3b067 33 = .ok (.iload_n 1, 1) := by decide +kernel
theorem dJ2_getChar_3b067_34 : decode cJ2_getChar_3b067 34 = .ok (.iinc 1 1, 3) := by decide +kernel
theorem dJ2_getChar_3b067_37 : decode cJ2_getChar_3b067 37 = .ok (.baload, 1) := by decide +kernel
theorem dJ2_getChar_3b067_38 : decode cJ2_getChar_3b067 38 = .ok (.sipush 255, 3) := by decide +kernel
theorem dJ2_getChar_3b067_41 : decode cJ2_getChar_3b067 41 = .ok (.iand, 1) := by decide +kernel
theorem dJ2_getChar_3b067_42 : decode cJ2_getChar_3b067 42 = .ok (.getstatic 59, 3) := by decide +kernel
theorem dJ2_getChar_3b067_45 : decode cJ2_getChar_3b067 45 = .ok (.ishl, 1) := by decide +kernel
theorem dJ2_getChar_3b067_46 : decode cJ2_getChar_3b067 46 = .ok (.aload_n 0, 1) := by decide +kernel
theorem dJ2_getChar_3b067_47 : decode cJ2_getChar_3b067 47 = .ok (.iload_n 1, 1) := by decide +kernel
theorem dJ2_getChar_3b067_48 : decode cJ2_getChar_3b067 48 = .ok (.baload, 1) := by decide +kernel
theorem dJ2_getChar_3b067_49 : decode cJ2_getChar_3b067 49 = .ok (.sipush 255, 3) := by decide +kernel
theorem dJ2_getChar_3b067_52 : decode cJ2_getChar_3b067 52 = .ok (.iand, 1) := by decide +kernel
theorem dJ2_getChar_3b067_53 : decode cJ2_getChar_3b067 53 = .ok (.getstatic 63, 3) := by decide +kernel
theorem dJ2_getChar_3b067_56 : decode cJ2_getChar_3b067 56 = .ok (.ishl, 1) := by decide +kernel
theorem dJ2_getChar_3b067_57 : decode cJ2_getChar_3b067 57 = .ok (.ior, 1) := by decide +kernel
theorem dJ2_getChar_3b067_58 : decode cJ2_getChar_3b067 58 = .ok (.i2c, 1) := by decide +kernel
theorem dJ2_getChar_3b067_59 : decode cJ2_getChar_3b067 59 = .ok (.ireturn, 1) := by decide +kernel
theorem dJ2_length_9d52b_0 : decode cJ2_length_9d52b 0 = .ok (.aload_n 0, 1) := by decide +kernel
theorem dJ2_length_9d52b_1 : decode cJ2_length_9d52b 1 = .ok (.arraylength, 1) := by decide +kernel
theorem dJ2_length_9d52b_2 : decode cJ2_length_9d52b 2 = .ok (.iconst 1, 1) := by decide +kernel
theorem dJ2_length_9d52b_3 : decode cJ2_length_9d52b 3 = .ok (.ishr, 1) := by decide +kernel
theorem dJ2_length_9d52b_4 : decode cJ2_length_9d52b 4 = .ok (.ireturn, 1) := by decide +kernel
theorem dJ2_coderFromArrayLen_85cad_0 : decode cJ2_coderFromArrayLen_85cad 0 = .ok (.iload_n 1, 1) := by decide +kernel
theorem dJ2_coderFromArrayLen_85cad_1 : decode cJ2_coderFromArrayLen_85cad 1 = .ok (.aload_n 0, 1) := by decide +kernel
theorem dJ2_coderFromArrayLen_85cad_2 : decode cJ2_coderFromArrayLen_85cad 2 = .ok (.arraylength, 1) := by decide +kernel
theorem dJ2_coderFromArrayLen_85cad_3 : decode cJ2_coderFromArrayLen_85cad 3 = .ok (.isub, 1) := by decide +kernel
theorem dJ2_coderFromArrayLen_85cad_4 : decode cJ2_coderFromArrayLen_85cad 4 = .ok (.bipush 31, 2) := by decide +kernel
theorem dJ2_coderFromArrayLen_85cad_6 : decode cJ2_coderFromArrayLen_85cad 6 = .ok (.iushr, 1) := by decide +kernel
theorem dJ2_coderFromArrayLen_85cad_7 : decode cJ2_coderFromArrayLen_85cad 7 = .ok (.i2b, 1) := by decide +kernel
theorem dJ2_coderFromArrayLen_85cad_8 : decode cJ2_coderFromArrayLen_85cad 8 = .ok (.ireturn, 1) := by decide +kernel
theorem dJ2_compress_39247_0 : decode cJ2_compress_39247 0 = .ok (.iload_n 2, 1) := by decide +kernel
theorem dJ2_compress_39247_1 : decode cJ2_compress_39247 1 = .ok (.newarray .byte, 2) := by decide +kernel
theorem dJ2_compress_39247_3 : decode cJ2_compress_39247 3 = .ok (.astore_n 3, 1) := by decide +kernel
theorem dJ2_compress_39247_4 : decode cJ2_compress_39247 4 = .ok (.aload_n 0, 1) := by decide +kernel
theorem dJ2_compress_39247_5 : decode cJ2_compress_39247 5 = .ok (.iload_n 1, 1) := by decide +kernel
theorem dJ2_compress_39247_6 : decode cJ2_compress_39247 6 = .ok (.aload_n 3, 1) := by decide +kernel
theorem dJ2_compress_39247_7 : decode cJ2_compress_39247 7 = .ok (.iconst 0, 1) := by decide +kernel
theorem dJ2_compress_39247_8 : decode cJ2_compress_39247 8 = .ok (.iload_n 2, 1) := by decide +kernel
theorem dJ2_compress_39247_9 : decode cJ2_compress_39247 9 = .ok (.invokestatic 123, 3) := by decide +kernel
theorem dJ2_compress_39247_12 : decode cJ2_compress_39247 12 = .ok (.istore 4, 2) := by decide +kernel
theorem dJ2_compress_39247_14 : decode cJ2_compress_39247 14 = .ok (.iload 4, 2) := by decide +kernel
theorem dJ2_compress_39247_16 : decode cJ2_compress_39247 16 = .ok (.iload_n 2, 1) := by decide +kernel
theorem dJ2_compress_39247_17 : decode cJ2_compress_39247 17 = .ok (.if_icmp .eq 47, 3) := by decide +kernel
theorem dJ2_compress_39247_20 : decode cJ2_compress_39247 20 = .ok (.aload_n 0, 1) := by decide +kernel
theorem dJ2_compress_39247_21 : decode cJ2_compress_39247 21 = .ok (.iload_n 1, 1) := by decide +kernel
theorem dJ2_compress_39247_22 : decode cJ2_compress_39247 22 = .ok (.iconst 1, 1) := by decide +kernel
theorem dJ2_compress_39247_23 : decode cJ2_compress_39247 23 = .ok (.ishl, 1) := by decide +kernel
theorem dJ2_compress_39247_24 : decode cJ2_compress_39247 24 = .ok (.iload_n 1, 1) := by decide +kernel
theorem dJ2_compress_39247_25 : decode cJ2_compress_39247 25 = .ok (.iload_n 2, 1) := by decide +kernel
theorem dJ2_compress_39247_26 : decode cJ2_compress_39247 26 = .ok (.iadd, 1) := by decide +kernel
theorem dJ2_compress_39247_27 : decode cJ2_compress_39247 27 = .ok (.invokestatic 11, 3) := by decide +kernel
theorem dJ2_compress_39247_30 : decode cJ2_compress_39247 30 = .ok (.invokestatic 126, 3) := by decide +kernel
theorem dJ2_compress_39247_33 : decode cJ2_compress_39247 33 = .ok (.astore 5, 2) := by decide +kernel
theorem dJ2_compress_39247_35 : decode cJ2_compress_39247 35 = .ok (.aload 5, 2) := by decide +kernel
theorem dJ2_compress_39247_37 : decode cJ2_compress_39247 37 = .ok (.iload 4, 2) := by decide +kernel
theorem dJ2_compress_39247_39 : decode cJ2_compress_39247 39 = .ok (.invokestatic 71, 3) := by decide +kernel
theorem dJ2_compress_39247_42 : decode cJ2_compress_39247 42 = .ok (.sipush 255, 3) := by decide +kernel
theorem dJ2_compress_39247_45 : decode cJ2_compress_39247 45 = .ok (.if_icmp .gt 16, 3) := by decide +kernel
theorem dJ2_compress_39247_48 : decode cJ2_compress_39247 48 = .ok (.aload 5, 2) := by decide +kernel
theorem dJ2_compress_39247_50 : decode cJ2_compress_39247 50 = .ok (.iconst 0, 1) := by decide +kernel
theorem dJ2_compress_39247_51 : decode cJ2_compress_39247 51 = .ok (.aload_n 3, 1) := by decide +kernel
theorem dJ2_compress_39247_52 : decode cJ2_compress_39247 52 = .ok (.iconst 0, 1) := by decide +kernel
theorem dJ2_compress_39247_53 : decode cJ2_compress_39247 53 = .ok (.iload_n 2, 1) := by decide +kernel
theorem dJ2_compress_39247_54 : decode cJ2_compress_39247 54 = .ok (.invokestatic 123, 3) := by decide +kernel
theorem dJ2_compress_39247_57 : decode cJ2_compress_39247 57 = .ok (.iload_n 2, 1) := by decide +kernel
theorem dJ2_compress_39247_58 : decode cJ2_compress_39247 58 = .ok (.if_icmp .eq 6, 3) := by decide +kernel
theorem dJ2_compress_39247_61 : decode cJ2_compress_39247 61 = .ok (.aload 5, 2) := by decide +kernel
theorem dJ2_compress_39247_63 : decode cJ2_compress_39247 63 = .ok (.areturn, 1) := by decide +kernel
theorem dJ2_compress_39247_64 : decode cJ2_compress_39247 64 = .ok (.aload_n 3, 1) := by decide +kernel
theorem dJ2_compress_39247_65 : decode cJ2_compress_39247 65 = .ok (.areturn, 1) := by decide +kernel
theorem dJ2_compress_5af95_0 : decode cJ2_compress_5af95 0 = .ok (.iload_n 1, 1) := by decide +kernel
theorem dJ2_compress_5af95_1 : decode cJ2_compress_5af95 1 = .ok (.iload 4, 2) := by decide +kernel
theorem dJ2_compress_5af95_3 : decode cJ2_compress_5af95 3 = .ok (.aload_n 0, 1) := by decide +kernel
theorem dJ2_compress_5af95_4 : decode cJ2_compress_5af95 4 = .ok (.invokestatic 173, 3) := by decide +kernel
theorem dJ2_compress_5af95_7 : decode cJ2_compress_5af95 7 = .ok (.iconst 0, 1) := by decide +kernel
theorem dJ2_compress_5af95_8 : decode cJ2_compress_5af95 8 = .ok (.istore 5, 2) := by decide +kernel
theorem dJ2_compress_5af95_10 : decode cJ2_compress_5af95 10 = .ok (.iload 5, 2) := by decide +kernel
theorem dJ2_compress_5af95_12 : decode cJ2_compress_5af95 12 = .ok (.iload 4, 2) := by decide +kernel
theorem dJ2_compress_5af95_14 : decode cJ2_compress_5af95 14 = .ok (.if_icmp .ge 39, 3) := by decide +kernel
theorem dJ2_compress_5af95_17 : decode cJ2_compress_5af95 17 = .ok (.aload_n 0, 1) := by decide +kernel
theorem dJ2_compress_5af95_18 : decode cJ2_compress_5af95 18 = .ok (.iload_n 1, 1) := by decide +kernel
theorem dJ2_compress_5af95_19 : decode cJ2_compress_5af95 19 = .ok (.invokestatic 71, 3) := by decide +kernel
theorem dJ2_compress_5af95_22 : decode cJ2_compress_5af95 22 = .ok (.istore 6, 2) := by decide +kernel
theorem dJ2_compress_5af95_24 : decode cJ2_compress_5af95 24 = .ok (.iload 6, 2) := by decide +kernel
theorem dJ2_compress_5af95_26 : decode cJ2_compress_5af95 26 = .ok (.sipush 255, 3) := by decide +kernel
theorem dJ2_compress_5af95_29 : decode cJ2_compress_5af95 29 = .ok (.if_icmp .le 6, 3) := by decide +kernel
theorem dJ2_compress_5af95_32 : decode cJ2_compress_5af95 32 = .ok (.iload 5, 2) := by decide +kernel
theorem dJ2_compress_5af95_34 : decode cJ2_compress_5af95 34 = .ok (.ireturn, 1) := by decide +kernel
theorem dJ2_compress_5af95_35 : decode cJ2_compress_5af95 35 = .ok (.aload_n 2, 1) := by decide +kernel
theorem dJ2_compress_5af95_36 : decode cJ2_compress_5af95 36 = .ok (.iload_n 3, 1) := by decide +kernel
theorem dJ2_compress_5af95_37 : decode cJ2_compress_5af95 37 = .ok (.iload 6, 2) := by decide +kernel
theorem dJ2_compress_5af95_39 : decode cJ2_compress_5af95 39 = .ok (.i2b, 1) := by decide +kernel
theorem dJ2_compress_5af95_40 : decode cJ2_compress_5af95 40 = .ok (.bastore, 1) := by decide +kernel
theorem dJ2_compress_5af95_41 : decode cJ2_compress_5af95 41 = .ok (.iinc 1 1, 3) := by decide +kernel
theorem dJ2_compress_5af95_44 : decode cJ2_compress_5af95 44 = .ok (.iinc 3 1, 3) := by decide +kernel
theorem dJ2_compress_5af95_47 : decode cJ2_compress_5af95 47 = .ok (.iinc 5 1, 3) := by decide +kernel
theorem dJ2_compress_5af95_50 : decode cJ2_compress_5af95 50 = .ok (.goto (-40), 3) := by decide +kernel
theorem dJ2_compress_5af95_53 : decode cJ2_compress_5af95 53 = .ok (.iload 4, 2) := by decide +kernel
theorem dJ2_compress_5af95_55 : decode cJ2_compress_5af95 55 = .ok (.ireturn, 1) := by decide +kernel
theorem dJ2_getChars_46870_0 : decode cJ2_getChars_46870 0 = .ok (.iload_n 1, 1) := by decide +kernel
theorem dJ2_getChars_46870_1 : decode cJ2_getChars_46870 1 = .ok (.iload_n 2, 1) := by decide +kernel
theorem dJ2_getChars_46870_2 : decode cJ2_getChars_46870 2 = .ok (.aload_n 3, 1) := by decide +kernel
theorem dJ2_getChars_46870_3 : decode cJ2_getChars_46870 3 = .ok (.invokestatic 96, 3) := by decide +kernel
theorem dJ2_getChars_46870_6 : decode cJ2_getChars_46870 6 = .ok (.iload_n 0, 1) := by decide +kernel
theorem dJ2_getChars_46870_7 : decode cJ2_getChars_46870 7 = .ok (.iload_n 2, 1) := by decide +kernel
theorem dJ2_getChars_46870_8 : decode cJ2_getChars_46870 8 = .ok (.aload_n 3, 1) := by decide +kernel
theorem dJ2_getChars_46870_9 : decode cJ2_getChars_46870 9 = .ok (.invokestatic 393, 3) := by decide +kernel
theorem dJ2_getChars_46870_12 : decode cJ2_getChars_46870 12 = .ok (.istore 4, 2) := by decide +kernel
theorem dJ2_getChars_46870_14 : decode cJ2_getChars_46870 14 = .ok (.getstatic 44, 3) := by decide +kernel
theorem dJ2_getChars_46870_17 : decode cJ2_getChars_46870 17 = .ok (.ifCond .ne 17, 3) := by decide +kernel
theorem dJ2_getChars_46870_20 : decode cJ2_getChars_46870 20 = .ok (.iload_n 1, 1) := by decide +kernel
theorem dJ2_getChars_46870_21 : decode cJ2_getChars_46870 21 = .ok (.iload 4, 2) := by decide +kernel
theorem dJ2_getChars_46870_23 : decode cJ2_getChars_46870 23 = .ok (.if_icmp .eq 11, 3) := by decide +kernel
theorem dJ2_getChars_46870_26 : decode cJ2_getChars_46870 26 = .ok (.new 52, 3) := by decide +kernel
theorem dJ2_getChars_46870_29 : decode cJ2_getChars_46870 29 = .ok (.dup, 1) := by decide +kernel
theorem dJ2_getChars_46870_30 : decode cJ2_getChars_46870 30 = .ok (.invokespecial 66, 3) := by decide +kernel
theorem dJ2_getChars_46870_33 : decode cJ2_getChars_46870 33 = .ok (.athrow, 1) := by decide +kernel
theorem dJ2_getChars_46870_34 : decode cJ2_getChars_46870 34 = .ok (.iload 4, 2) := by decide +kernel
theorem dJ2_getChars_46870_36 : decode cJ2_getChars_46870 36 = .ok (.ireturn, 1) := by decide +kernel
theorem dJ2_putCharsAt_cd4e5_0 : decode cJ2_putCharsAt_cd4e5 0 = .ok (.iload_n 1, 1) := by decide +kernel
theorem dJ2_putCharsAt_cd4e5_1 : decode cJ2_putCharsAt_cd4e5 1 = .ok (.iconst 4, 1) := by decide +kernel
theorem dJ2_putCharsAt_cd4e5_2 : decode cJ2_putCharsAt_cd4e5 2 = .ok (.iadd, 1) := by decide +kernel
theorem dJ2_putCharsAt_cd4e5_3 : decode cJ2_putCharsAt_cd4e5 3 = .ok (.istore 6, 2) := by decide +kernel
theorem dJ2_putCharsAt_cd4e5_5 : decode cJ2_putCharsAt_cd4e5 5 = .ok (.iload_n 1, 1) := by decide +kernel
theorem dJ2_putCharsAt_cd4e5_6 : decode cJ2_putCharsAt_cd4e5 6 = .ok (.iload 6, 2) := by decide +kernel
theorem dJ2_putCharsAt_cd4e5_8 : decode cJ2_putCharsAt_cd4e5 8 = .ok (.aload_n 0, 1) := by decide +kernel
theorem dJ2_putCharsAt_cd4e5_9 : decode cJ2_putCharsAt_cd4e5 9 = .ok (.invokestatic 96, 3) := by decide +kernel
theorem dJ2_putCharsAt_cd4e5_12 : decode cJ2_putCharsAt_cd4e5 12 = .ok (.aload_n 0, 1) := by decide +kernel
theorem dJ2_putCharsAt_cd4e5_13 : decode cJ2_putCharsAt_cd4e5 13 = .ok (.iload_n 1, 1) := by decide +kernel
theorem dJ2_putCharsAt_cd4e5_14 : decode cJ2_putCharsAt_cd4e5 14 = .ok (.iinc 1 1, 3) := by decide +kernel
theorem dJ2_putCharsAt_cd4e5_17 : decode cJ2_putCharsAt_cd4e5 17 = .ok (.iload_n 2, 1) := by decide +kernel
theorem dJ2_putCharsAt_cd4e5_18 : decode cJ2_putCharsAt_cd4e5 18 = .ok (.invokestatic 111, 3) := by decide +kernel
theorem dJ2_putCharsAt_cd4e5_21 : decode cJ2_putCharsAt_cd4e5 21 = .ok (.aload_n 0, 1) := by decide +kernel
theorem dJ2_putCharsAt_cd4e5_22 : decode cJ2_putCharsAt_cd4e5 22 = .ok (.iload_n 1, 1) := by decide +kernel
theorem dJ2_putCharsAt_cd4e5_23 : decode cJ2_putCharsAt_cd4e5 23 = .ok (.iinc 1 1, 3) := by decide +kernel
theorem dJ2_putCharsAt_cd4e5_26 : decode cJ2_putCharsAt_cd4e5 26 = .ok (.iload_n 3, 1) := by decide +kernel
theorem dJ2_putCharsAt_cd4e5_27 : decode cJ2_putCharsAt_cd4e5 27 = .ok (.invokestatic 111, 3) := by decide +kernel
theorem dJ2_putCharsAt_cd4e5_30 : decode cJ2_putCharsAt_cd4e5 30 = .ok (.aload_n 0, 1) := by decide +kernel
theorem dJ2_putCharsAt_cd4e5_31 : decode cJ2_putCharsAt_cd4e5 31 = .ok (.iload_n 1, 1) := by decide +kernel
theorem dJ2_putCharsAt_cd4e5_32 : decode cJ2_putCharsAt_cd4e5 32 = .ok (.iinc 1 1, 3) := by decide +kernel
theorem dJ2_putCharsAt_cd4e5_35 : decode cJ2_putCharsAt_cd4e5 35 = .ok (.iload 4, 2) := by decide +kernel
theorem dJ2_putCharsAt_cd4e5_37 : decode cJ2_putCharsAt_cd4e5 37 = .ok (.invokestatic 111, 3) := by decide +kernel
theorem dJ2_putCharsAt_cd4e5_40 : decode cJ2_putCharsAt_cd4e5 40 = .ok (.aload_n 0, 1) := by decide +kernel
theorem dJ2_putCharsAt_cd4e5_41 : decode cJ2_putCharsAt_cd4e5 41 = .ok (.iload_n 1, 1) := by decide +kernel
theorem dJ2_putCharsAt_cd4e5_42 : decode cJ2_putCharsAt_cd4e5 42 = .ok (.iinc 1 1, 3) := by decide +kernel
theorem dJ2_putCharsAt_cd4e5_45 : decode cJ2_putCharsAt_cd4e5 45 = .ok (.iload 5, 2) := by decide +kernel
theorem dJ2_putCharsAt_cd4e5_47 : decode cJ2_putCharsAt_cd4e5 47 = .ok (.invokestatic 111, 3) := by decide +kernel
theorem dJ2_putCharsAt_cd4e5_50 : decode cJ2_putCharsAt_cd4e5 50 = .ok (.getstatic 44, 3) := by decide +kernel
theorem dJ2_putCharsAt_cd4e5_53 : decode cJ2_putCharsAt_cd4e5 53 = .ok (.ifCond .ne 17, 3) := by decide +kernel
theorem dJ2_putCharsAt_cd4e5_56 : decode cJ2_putCharsAt_cd4e5 56 = .ok (.iload_n 1, 1) := by decide +kernel
theorem dJ2_putCharsAt_cd4e5_57 : decode cJ2_putCharsAt_cd4e5 57 = .ok (.iload 6, 2) := by decide +kernel
theorem dJ2_putCharsAt_cd4e5_59 : decode cJ2_putCharsAt_cd4e5 59 = .ok (.if_icmp .eq 11, 3) := by decide +kernel
theorem dJ2_putCharsAt_cd4e5_62 : decode cJ2_putCharsAt_cd4e5 62 = .ok (.new 52, 3) := by decide +kernel
theorem dJ2_putCharsAt_cd4e5_65 : decode cJ2_putCharsAt_cd4e5 65 = .ok (.dup, 1) := by decide +kernel
theorem dJ2_putCharsAt_cd4e5_66 : decode cJ2_putCharsAt_cd4e5 66 = .ok (.invokespecial 66, 3) := by decide +kernel
theorem dJ2_putCharsAt_cd4e5_69 : decode cJ2_putCharsAt_cd4e5 69 = .ok (.athrow, 1) := by decide +kernel
theorem dJ2_putCharsAt_cd4e5_70 : decode cJ2_putCharsAt_cd4e5 70 = .ok (.iload 6, 2) := by decide +kernel
theorem dJ2_putCharsAt_cd4e5_72 : decode cJ2_putCharsAt_cd4e5 72 = .ok (.ireturn, 1) := by decide +kernel
theorem dJ2_charAt_3b067_0 : decode cJ2_charAt_3b067 0 = .ok (.iload_n 1, 1) := by decide +kernel
theorem dJ2_charAt_3b067_1 : decode cJ2_charAt_3b067 1 = .ok (.aload_n 0, 1) := by decide +kernel
theorem dJ2_charAt_3b067_2 : decode cJ2_charAt_3b067 2 = .ok (.invokestatic 67, 3) := by decide +kernel
theorem dJ2_charAt_3b067_5 : decode cJ2_charAt_3b067 5 = .ok (.aload_n 0, 1) := by decide +kernel
theorem dJ2_charAt_3b067_6 : decode cJ2_charAt_3b067 6 = .ok (.iload_n 1, 1) := by decide +kernel
theorem dJ2_charAt_3b067_7 : decode cJ2_charAt_3b067 7 = .ok (.invokestatic 71, 3) := by decide +kernel
theorem dJ2_charAt_3b067_10 : decode cJ2_charAt_3b067 10 = .ok (.ireturn, 1) := by decide +kernel
theorem dJ2_inflate_0e8fd_0 : decode cJ2_inflate_0e8fd 0 = .ok (.iload_n 3, 1) := by decide +kernel
theorem dJ2_inflate_0e8fd_1 : decode cJ2_inflate_0e8fd 1 = .ok (.iload 4, 2) := by decide +kernel
theorem dJ2_inflate_0e8fd_3 : decode cJ2_inflate_0e8fd 3 = .ok (.aload_n 2, 1) := by decide +kernel
theorem dJ2_inflate_0e8fd_4 : decode cJ2_inflate_0e8fd 4 = .ok (.invokestatic 173, 3) := by decide +kernel
theorem dJ2_inflate_0e8fd_7 : decode cJ2_inflate_0e8fd 7 = .ok (.iconst 0, 1) := by decide +kernel
theorem dJ2_inflate_0e8fd_8 : decode cJ2_inflate_0e8fd 8 = .ok (.istore 5, 2) := by decide +kernel
theorem dJ2_inflate_0e8fd_10 : decode cJ2_inflate_0e8fd 10 = .ok (.iload 5, 2) := by decide +kernel
theorem dJ2_inflate_0e8fd_12 : decode cJ2_inflate_0e8fd 12 = .ok (.iload 4, 2) := by decide +kernel
theorem dJ2_inflate_0e8fd_14 : decode cJ2_inflate_0e8fd 14 = .ok (.if_icmp .ge 27, 3) := by decide +kernel
theorem dJ2_inflate_0e8fd_17 : decode cJ2_inflate_0e8fd 17 = .ok (.aload_n 2, 1) := by decide +kernel
theorem dJ2_inflate_0e8fd_18 : decode cJ2_inflate_0e8fd 18 = .ok (.iload_n 3, 1) := by decide +kernel
theorem dJ2_inflate_0e8fd_19 : decode cJ2_inflate_0e8fd 19 = .ok (.iinc 3 1, 3) := by decide +kernel
theorem dJ2_inflate_0e8fd_22 : decode cJ2_inflate_0e8fd 22 = .ok (.aload_n 0, 1) := by decide +kernel
theorem dJ2_inflate_0e8fd_23 : decode cJ2_inflate_0e8fd 23 = .ok (.iload_n 1, 1) := by decide +kernel
theorem dJ2_inflate_0e8fd_24 : decode cJ2_inflate_0e8fd 24 = .ok (.iinc 1 1, 3) := by decide +kernel
theorem dJ2_inflate_0e8fd_27 : decode cJ2_inflate_0e8fd 27 = .ok (.baload, 1) := by decide +kernel
theorem dJ2_inflate_0e8fd_28 : decode cJ2_inflate_0e8fd 28 = .ok (.sipush 255, 3) := by decide +kernel
theorem dJ2_inflate_0e8fd_31 : decode cJ2_inflate_0e8fd 31 = .ok (.iand, 1) := by decide +kernel
theorem dJ2_inflate_0e8fd_32 : decode cJ2_inflate_0e8fd 32 = .ok (.invokestatic 111, 3) := by decide +kernel
theorem dJ2_inflate_0e8fd_35 : decode cJ2_inflate_0e8fd 35 = .ok (.iinc 5 1, 3) := by decide +kernel
theorem dJ2_inflate_0e8fd_38 : decode cJ2_inflate_0e8fd 38 = .ok (.goto (-28), 3) := by decide +kernel
theorem dJ2_inflate_0e8fd_41 : decode cJ2_inflate_0e8fd 41 = .ok (.return_, 1) := by decide +kernel
theorem dJ2_getChars_ba4f3_0 : decode cJ2_getChars_ba4f3 0 = .ok (.iload_n 1, 1) := by decide +kernel
theorem dJ2_getChars_ba4f3_1 : decode cJ2_getChars_ba4f3 1 = .ok (.istore 5, 2) := by decide +kernel
theorem dJ2_getChars_ba4f3_3 : decode cJ2_getChars_ba4f3 3 = .ok (.iload_n 0, 1) := by decide +kernel
theorem dJ2_getChars_ba4f3_4 : decode cJ2_getChars_ba4f3 4 = .ok (.ifCond .ge 7, 3) := by decide +kernel
theorem dJ2_getChars_ba4f3_7 : decode cJ2_getChars_ba4f3 7 = .ok (.iconst 1, 1) := by decide +kernel
theorem dJ2_getChars_ba4f3_8 : decode cJ2_getChars_ba4f3 8 = .ok (.goto 4, 3) := by decide +kernel
theorem dJ2_getChars_ba4f3_11 : decode cJ2_getChars_ba4f3 11 = .ok (.iconst 0, 1) := by decide +kernel
theorem dJ2_getChars_ba4f3_12 : decode cJ2_getChars_ba4f3 12 = .ok (.istore 6, 2) := by decide +kernel
theorem dJ2_getChars_ba4f3_14 : decode cJ2_getChars_ba4f3 14 = .ok (.iload 6, 2) := by decide +kernel
theorem dJ2_getChars_ba4f3_16 : decode cJ2_getChars_ba4f3 16 = .ok (.ifCond .ne 6, 3) := by decide +kernel
theorem dJ2_getChars_ba4f3_19 : decode cJ2_getChars_ba4f3 19 = .ok (.iload_n 0, 1) := by decide +kernel
theorem dJ2_getChars_ba4f3_20 : decode cJ2_getChars_ba4f3 20 = .ok (.ineg, 1) := by decide +kernel
theorem dJ2_getChars_ba4f3_21 : decode cJ2_getChars_ba4f3 21 = .ok (.istore_n 0, 1) := by decide +kernel
theorem dJ2_getChars_ba4f3_22 : decode cJ2_getChars_ba4f3 22 = .ok (.iload_n 0, 1) := by decide +kernel
theorem dJ2_getChars_ba4f3_23 : decode cJ2_getChars_ba4f3 23 = .ok (.bipush (-100), 2) := by decide +kernel
theorem dJ2_getChars_ba4f3_25 : decode cJ2_getChars_ba4f3 25 = .ok (.if_icmp .gt 51, 3) := by decide +kernel
theorem dJ2_getChars_ba4f3_28 : decode cJ2_getChars_ba4f3 28 = .ok (.iload_n 0, 1) := by decide +kernel
theorem dJ2_getChars_ba4f3_29 : decode cJ2_getChars_ba4f3 29 = .ok (.bipush 100, 2) := by decide +kernel
theorem dJ2_getChars_ba4f3_31 : decode cJ2_getChars_ba4f3 31 = .ok (.idiv, 1) := by decide +kernel
theorem dJ2_getChars_ba4f3_32 : decode cJ2_getChars_ba4f3 32 = .ok (.istore_n 3, 1) := by decide +kernel
theorem dJ2_getChars_ba4f3_33 : decode cJ2_getChars_ba4f3 33 = .ok (.iload_n 3, 1) := by decide +kernel
theorem dJ2_getChars_ba4f3_34 : decode cJ2_getChars_ba4f3 34 = .ok (.bipush 100, 2) := by decide +kernel
theorem dJ2_getChars_ba4f3_36 : decode cJ2_getChars_ba4f3 36 = .ok (.imul, 1) := by decide +kernel
theorem dJ2_getChars_ba4f3_37 : decode cJ2_getChars_ba4f3 37 = .ok (.iload_n 0, 1) := by decide +kernel
theorem dJ2_getChars_ba4f3_38 : decode cJ2_getChars_ba4f3 38 = .ok (.isub, 1) := by decide +kernel
theorem dJ2_getChars_ba4f3_39 : decode cJ2_getChars_ba4f3 39 = .ok (.istore 4, 2) := by decide +kernel
theorem dJ2_getChars_ba4f3_41 : decode cJ2_getChars_ba4f3 41 = .ok (.iload_n 3, 1) := by decide +kernel
theorem dJ2_getChars_ba4f3_42 : decode cJ2_getChars_ba4f3 42 = .ok (.istore_n 0, 1) := by decide +kernel
theorem dJ2_getChars_ba4f3_43 : decode cJ2_getChars_ba4f3 43 = .ok (.aload_n 2, 1) := by decide +kernel
theorem dJ2_getChars_ba4f3_44 : decode cJ2_getChars_ba4f3 44 = .ok (.iinc 5 (-1), 3) := by decide +kernel
theorem dJ2_getChars_ba4f3_47 : decode cJ2_getChars_ba4f3 47 = .ok (.iload 5, 2) := by decide +kernel
theorem dJ2_getChars_ba4f3_49 : decode cJ2_getChars_ba4f3 49 = .ok (.getstatic 403, 3) := by decide +kernel
theorem dJ2_getChars_ba4f3_52 : decode cJ2_getChars_ba4f3 52 = .ok (.iload 4, 2) := by decide +kernel
theorem dJ2_getChars_ba4f3_54 : decode cJ2_getChars_ba4f3 54 = .ok (.baload, 1) := by decide +kernel
theorem dJ2_getChars_ba4f3_55 : decode cJ2_getChars_ba4f3 55 = .ok (.invokestatic 111, 3) := by decide +kernel
theorem dJ2_getChars_ba4f3_58 : decode cJ2_getChars_ba4f3 58 = .ok (.aload_n 2, 1) := by decide +kernel
theorem dJ2_getChars_ba4f3_59 : decode cJ2_getChars_ba4f3 59 = .ok (.iinc 5 (-1), 3) := by decide +kernel
theorem dJ2_getChars_ba4f3_62 : decode cJ2_getChars_ba4f3 62 = .ok (.iload 5, 2) := by decide +kernel
theorem dJ2_getChars_ba4f3_64 : decode cJ2_getChars_ba4f3 64 = .ok (.getstatic 407, 3) := by decide +kernel
theorem dJ2_getChars_ba4f3_67 : decode cJ2_getChars_ba4f3 67 = .ok (.iload 4, 2) := by decide +kernel
theorem dJ2_getChars_ba4f3_69 : decode cJ2_getChars_ba4f3 69 = .ok (.baload, 1) := by decide +kernel
theorem dJ2_getChars_ba4f3_70 : decode cJ2_getChars_ba4f3 70 = .ok (.invokestatic 111, 3) := by decide +kernel
theorem dJ2_getChars_ba4f3_73 : decode cJ2_getChars_ba4f3 73 = .ok (.goto (-51), 3) := by decide +kernel
theorem dJ2_getChars_ba4f3_76 : decode cJ2_getChars_ba4f3 76 = .ok (.aload_n 2, 1) := by decide +kernel
theorem dJ2_getChars_ba4f3_77 : decode cJ2_getChars_ba4f3 77 = .ok (.iinc 5 (-1), 3) := by decide +kernel
theorem dJ2_getChars_ba4f3_80 : decode cJ2_getChars_ba4f3 80 = .ok (.iload 5, 2) := by decide +kernel
theorem dJ2_getChars_ba4f3_82 : decode cJ2_getChars_ba4f3 82 = .ok (.getstatic 403, 3) := by decide +kernel
theorem dJ2_getChars_ba4f3_85 : decode cJ2_getChars_ba4f3 85 = .ok (.iload_n 0, 1) := by decide +kernel
theorem dJ2_getChars_ba4f3_86 : decode cJ2_getChars_ba4f3 86 = .ok (.ineg, 1) := by decide +kernel
theorem dJ2_getChars_ba4f3_87 : decode cJ2_getChars_ba4f3 87 = .ok (.baload, 1) := by decide +kernel
theorem dJ2_getChars_ba4f3_88 : decode cJ2_getChars_ba4f3 88 = .ok (.invokestatic 111, 3) := by decide +kernel
theorem dJ2_getChars_ba4f3_91 : decode cJ2_getChars_ba4f3 91 = .ok (.iload_n 0, 1) := by decide +kernel
theorem dJ2_getChars_ba4f3_92 : decode cJ2_getChars_ba4f3 92 = .ok (.bipush (-9), 2) := by decide +kernel
theorem dJ2_getChars_ba4f3_94 : decode cJ2_getChars_ba4f3 94 = .ok (.if_icmp .ge 18, 3) := by decide +kernel
theorem dJ2_getChars_ba4f3_97 : decode cJ2_getChars_ba4f3 97 = .ok (.aload_n 2, 1) := by decide +kernel
theorem dJ2_getChars_ba4f3_98 : decode cJ2_getChars_ba4f3 98 = .ok (.iinc 5 (-1), 3) := by decide +kernel
theorem dJ2_getChars_ba4f3_101 : decode cJ2_getChars_ba4f3 101 = .ok (.iload 5, 2) := by decide +kernel
theorem dJ2_getChars_ba4f3_103 : decode cJ2_getChars_ba4f3 103 = .ok (.getstatic 407, 3) := by decide +kernel
theorem dJ2_getChars_ba4f3_106 : decode cJ2_getChars_ba4f3 106 = .ok (.iload_n 0, 1) := by decide +kernel
theorem dJ2_getChars_ba4f3_107 : decode cJ2_getChars_ba4f3 107 = .ok (.ineg, 1) := by decide +kernel
theorem dJ2_getChars_ba4f3_108 : decode cJ2_getChars_ba4f3 108 = .ok (.baload, 1) := by decide +kernel
theorem dJ2_getChars_ba4f3_109 : decode cJ2_getChars_ba4f3 109 = .ok (.invokestatic 111, 3) := by decide +kernel
theorem dJ2_getChars_ba4f3_112 : decode cJ2_getChars_ba4f3 112 = .ok (.iload 6, 2) := by decide +kernel
theorem dJ2_getChars_ba4f3_114 : decode cJ2_getChars_ba4f3 114 = .ok (.ifCond .eq 14, 3) := by decide +kernel
theorem dJ2_getChars_ba4f3_117 : decode cJ2_getChars_ba4f3 117 = .ok (.aload_n 2, 1) := by decide +kernel
theorem dJ2_getChars_ba4f3_118 : decode cJ2_getChars_ba4f3 118 = .ok (.iinc 5 (-1), 3) := by decide +kernel
theorem dJ2_getChars_ba4f3_121 : decode cJ2_getChars_ba4f3 121 = .ok (.iload 5, 2) := by decide +kernel
theorem dJ2_getChars_ba4f3_123 : decode cJ2_getChars_ba4f3 123 = .ok (.bipush 45, 2) := by decide +kernel
theorem dJ2_getChars_ba4f3_125 : decode cJ2_getChars_ba4f3 125 = .ok (.invokestatic 111, 3) := by decide +kernel
theorem dJ2_getChars_ba4f3_128 : decode cJ2_getChars_ba4f3 128 = .ok (.iload 5, 2) := by decide +kernel
theorem dJ2_getChars_ba4f3_130 : decode cJ2_getChars_ba4f3 130 = .ok (.ireturn, 1) := by decide +kernel
theorem dJ2_checkIndex_2214a_0 : decode cJ2_checkIndex_2214a 0 = .ok (.iload_n 0, 1) := by decide +kernel
theorem dJ2_checkIndex_2214a_1 : decode cJ2_checkIndex_2214a 1 = .ok (.aload_n 1, 1) := by decide +kernel
theorem dJ2_checkIndex_2214a_2 : decode cJ2_checkIndex_2214a 2 = .ok (.invokestatic 48, 3) := by decide +kernel
theorem dJ2_checkIndex_2214a_5 : decode cJ2_checkIndex_2214a 5 = .ok (.invokestatic 414, 3) := by decide +kernel
theorem dJ2_checkIndex_2214a_8 : decode cJ2_checkIndex_2214a 8 = .ok (.return_, 1) := by decide +kernel
theorem dJ2_checkBoundsBeginEnd_d044e_0 : decode cJ2_checkBoundsBeginEnd_d044e 0 = .ok (.iload_n 0, 1) := by decide +kernel
theorem dJ2_checkBoundsBeginEnd_d044e_1 : decode cJ2_checkBoundsBeginEnd_d044e 1 = .ok (.iload_n 1, 1) := by decide +kernel
theorem dJ2_checkBoundsBeginEnd_d044e_2 : decode cJ2_checkBoundsBeginEnd_d044e 2 = .ok (.aload_n 2, 1) := by decide +kernel
theorem dJ2_checkBoundsBeginEnd_d044e_3 : decode cJ2_checkBoundsBeginEnd_d044e 3 = .ok (.invokestatic 48, 3) := by decide +kernel
theorem dJ2_checkBoundsBeginEnd_d044e_6 : decode cJ2_checkBoundsBeginEnd_d044e 6 = .ok (.invokestatic 241, 3) := by decide +kernel
theorem dJ2_checkBoundsBeginEnd_d044e_9 : decode cJ2_checkBoundsBeginEnd_d044e 9 = .ok (.return_, 1) := by decide +kernel
theorem dJ2_checkBoundsOffCount_d044e_0 : decode cJ2_checkBoundsOffCount_d044e 0 = .ok (.iload_n 0, 1) := by decide +kernel
theorem dJ2_checkBoundsOffCount_d044e_1 : decode cJ2_checkBoundsOffCount_d044e 1 = .ok (.iload_n 1, 1) := by decide +kernel
theorem dJ2_checkBoundsOffCount_d044e_2 : decode cJ2_checkBoundsOffCount_d044e 2 = .ok (.aload_n 2, 1) := by decide +kernel
theorem dJ2_checkBoundsOffCount_d044e_3 : decode cJ2_checkBoundsOffCount_d044e 3 = .ok (.invokestatic 48, 3) := by decide +kernel
theorem dJ2_checkBoundsOffCount_d044e_6 : decode cJ2_checkBoundsOffCount_d044e 6 = .ok (.invokestatic 419, 3) := by decide +kernel
theorem dJ2_checkBoundsOffCount_d044e_9 : decode cJ2_checkBoundsOffCount_d044e 9 = .ok (.pop, 1) := by decide +kernel
theorem dJ2_checkBoundsOffCount_d044e_10 : decode cJ2_checkBoundsOffCount_d044e 10 = .ok (.return_, 1) := by decide +kernel
theorem dJxa1e45_init_da8c8_0 : decode cJxa1e45_init_da8c8 0 = .ok (.aload_n 0, 1) := by decide +kernel
theorem dJxa1e45_init_da8c8_1 : decode cJxa1e45_init_da8c8 1 = .ok (.invokespecial 1, 3) := by decide +kernel
theorem dJxa1e45_init_da8c8_4 : decode cJxa1e45_init_da8c8 4 = .ok (.return_, 1) := by decide +kernel
theorem dJxc12de_init_da8c8_0 : decode cJxc12de_init_da8c8 0 = .ok (.aload_n 0, 1) := by decide +kernel
theorem dJxc12de_init_da8c8_1 : decode cJxc12de_init_da8c8 1 = .ok (.invokespecial 1, 3) := by decide +kernel
theorem dJxc12de_init_da8c8_4 : decode cJxc12de_init_da8c8 4 = .ok (.aload_n 0, 1) := by decide +kernel
theorem dJxc12de_init_da8c8_5 : decode cJxc12de_init_da8c8 5 = .ok (.iconst 0, 1) := by decide +kernel
theorem dJxc12de_init_da8c8_6 : decode cJxc12de_init_da8c8 6 = .ok (.putfield 7, 3) := by decide +kernel
theorem dJxc12de_init_da8c8_9 : decode cJxc12de_init_da8c8 9 = .ok (.return_, 1) := by decide +kernel
theorem dJx4a65c_init_da8c8_0 : decode cJx4a65c_init_da8c8 0 = .ok (.aload_n 0, 1) := by decide +kernel
theorem dJx4a65c_init_da8c8_1 : decode cJx4a65c_init_da8c8 1 = .ok (.invokespecial 1, 3) := by decide +kernel
theorem dJx4a65c_init_da8c8_4 : decode cJx4a65c_init_da8c8 4 = .ok (.aload_n 0, 1) := by decide +kernel
theorem dJx4a65c_init_da8c8_5 : decode cJx4a65c_init_da8c8 5 = .ok (.getstatic 39, 3) := by decide +kernel
theorem dJx4a65c_init_da8c8_8 : decode cJx4a65c_init_da8c8 8 = .ok (.putfield 9, 3) := by decide +kernel
theorem dJx4a65c_init_da8c8_11 : decode cJx4a65c_init_da8c8 11 = .ok (.return_, 1) := by decide +kernel
theorem dJx4a65c_grow_92f84_0 : decode cJx4a65c_grow_92f84 0 = .ok (.aload_n 0, 1) := by decide +kernel
theorem dJx4a65c_grow_92f84_1 : decode cJx4a65c_grow_92f84 1 = .ok (.getfield 9, 3) := by decide +kernel
theorem dJx4a65c_grow_92f84_4 : decode cJx4a65c_grow_92f84 4 = .ok (.arraylength, 1) := by decide +kernel
theorem dJx4a65c_grow_92f84_5 : decode cJx4a65c_grow_92f84 5 = .ok (.istore_n 2, 1) := by decide +kernel
theorem dJx4a65c_grow_92f84_6 : decode cJx4a65c_grow_92f84 6 = .ok (.iload_n 2, 1) := by decide +kernel
theorem dJx4a65c_grow_92f84_7 : decode cJx4a65c_grow_92f84 7 = .ok (.ifCond .gt 13, 3) := by decide +kernel
theorem dJx4a65c_grow_92f84_10 : decode cJx4a65c_grow_92f84 10 = .ok (.aload_n 0, 1) := by decide +kernel
theorem dJx4a65c_grow_92f84_11 : decode cJx4a65c_grow_92f84 11 = .ok (.getfield 9, 3) := by decide +kernel
theorem dJx4a65c_grow_92f84_14 : decode cJx4a65c_grow_92f84 14 = .ok (.getstatic 39, 3) := by decide +kernel
theorem dJx4a65c_grow_92f84_17 : decode cJx4a65c_grow_92f84 17 = .ok (.if_acmp .eq 28, 3) := by decide +kernel
theorem dJx4a65c_grow_92f84_20 : decode cJx4a65c_grow_92f84 20 = .ok (.iload_n 2, 1) := by decide +kernel
theorem dJx4a65c_grow_92f84_21 : decode cJx4a65c_grow_92f84 21 = .ok (.iload_n 1, 1) := by decide +kernel
theorem dJx4a65c_grow_92f84_22 : decode cJx4a65c_grow_92f84 22 = .ok (.iload_n 2, 1) := by decide +kernel
theorem dJx4a65c_grow_92f84_23 : decode cJx4a65c_grow_92f84 23 = .ok (.isub, 1) := by decide +kernel
theorem dJx4a65c_grow_92f84_24 : decode cJx4a65c_grow_92f84 24 = .ok (.iload_n 2, 1) := by decide +kernel
theorem dJx4a65c_grow_92f84_25 : decode cJx4a65c_grow_92f84 25 = .ok (.iconst 1, 1) := by decide +kernel
theorem dJx4a65c_grow_92f84_26 : decode cJx4a65c_grow_92f84 26 = .ok (.ishr, 1) := by decide +kernel
theorem dJx4a65c_grow_92f84_27 : decode cJx4a65c_grow_92f84 27 = .ok (.invokestatic 73, 3) := by decide +kernel
theorem dJx4a65c_grow_92f84_30 : decode cJx4a65c_grow_92f84 30 = .ok (.istore_n 3, 1) := by decide +kernel
theorem dJx4a65c_grow_92f84_31 : decode cJx4a65c_grow_92f84 31 = .ok (.aload_n 0, 1) := by decide +kernel
theorem dJx4a65c_grow_92f84_32 : decode cJx4a65c_grow_92f84 32 = .ok (.aload_n 0, 1) := by decide +kernel
theorem dJx4a65c_grow_92f84_33 : decode cJx4a65c_grow_92f84 33 = .ok (.getfield 9, 3) := by decide +kernel
theorem dJx4a65c_grow_92f84_36 : decode cJx4a65c_grow_92f84 36 = .ok (.iload_n 3, 1) := by decide +kernel
theorem dJx4a65c_grow_92f84_37 : decode cJx4a65c_grow_92f84 37 = .ok (.invokestatic 66, 3) := by decide +kernel
theorem dJx4a65c_grow_92f84_40 : decode cJx4a65c_grow_92f84 40 = .ok (.dup_x1, 1) := by decide +kernel
theorem dJx4a65c_grow_92f84_41 : decode cJx4a65c_grow_92f84 41 = .ok (.putfield 9, 3) := by decide +kernel
theorem dJx4a65c_grow_92f84_44 : decode cJx4a65c_grow_92f84 44 = .ok (.areturn, 1) := by decide +kernel
theorem dJx4a65c_grow_92f84_45 : decode cJx4a65c_grow_92f84 45 = .ok (.aload_n 0, 1) := by decide +kernel
theorem dJx4a65c_grow_92f84_46 : decode cJx4a65c_grow_92f84 46 = .ok (.bipush 10, 2) := by decide +kernel
theorem dJx4a65c_grow_92f84_48 : decode cJx4a65c_grow_92f84 48 = .ok (.iload_n 1, 1) := by decide +kernel
theorem dJx4a65c_grow_92f84_49 : decode cJx4a65c_grow_92f84 49 = .ok (.invokestatic 79, 3) := by decide +kernel
theorem dJx4a65c_grow_92f84_52 : decode cJx4a65c_grow_92f84 52 = .ok (.anewarray 7, 3) := by decide +kernel
theorem dJx4a65c_grow_92f84_55 : decode cJx4a65c_grow_92f84 55 = .ok (.dup_x1, 1) := by decide +kernel
theorem dJx4a65c_grow_92f84_56 : decode cJx4a65c_grow_92f84 56 = .ok (.putfield 9, 3) := by decide +kernel
theorem dJx4a65c_grow_92f84_59 : decode cJx4a65c_grow_92f84 59 = .ok (.areturn, 1) := by decide +kernel
theorem dJx4a65c_grow_d5877_0 : decode cJx4a65c_grow_d5877 0 = .ok (.aload_n 0, 1) := by decide +kernel
theorem dJx4a65c_grow_d5877_1 : decode cJx4a65c_grow_d5877 1 = .ok (.aload_n 0, 1) := by decide +kernel
theorem dJx4a65c_grow_d5877_2 : decode cJx4a65c_grow_d5877 2 = .ok (.getfield 48, 3) := by decide +kernel
theorem dJx4a65c_grow_d5877_5 : decode cJx4a65c_grow_d5877 5 = .ok (.iconst 1, 1) := by decide +kernel
theorem dJx4a65c_grow_d5877_6 : decode cJx4a65c_grow_d5877 6 = .ok (.iadd, 1) := by decide +kernel
theorem dJx4a65c_grow_d5877_7 : decode cJx4a65c_grow_d5877 7 = .ok (.invokevirtual 69, 3) := by decide +kernel
theorem dJx4a65c_grow_d5877_10 : decode cJx4a65c_grow_d5877 10 = .ok (.areturn, 1) := by decide +kernel
theorem dJx4a65c_size_8abf5_0 : decode cJx4a65c_size_8abf5 0 = .ok (.aload_n 0, 1) := by decide +kernel
theorem dJx4a65c_size_8abf5_1 : decode cJx4a65c_size_8abf5 1 = .ok (.getfield 48, 3) := by decide +kernel
theorem dJx4a65c_size_8abf5_4 : decode cJx4a65c_size_8abf5 4 = .ok (.ireturn, 1) := by decide +kernel
theorem dJx4a65c_elementData_915e3_0 : decode cJx4a65c_elementData_915e3 0 = .ok (.aload_n 0, 1) := by decide +kernel
theorem dJx4a65c_elementData_915e3_1 : decode cJx4a65c_elementData_915e3 1 = .ok (.getfield 9, 3) := by decide +kernel
theorem dJx4a65c_elementData_915e3_4 : decode cJx4a65c_elementData_915e3 4 = .ok (.iload_n 1, 1) := by decide +kernel
theorem dJx4a65c_elementData_915e3_5 : decode cJx4a65c_elementData_915e3 5 = .ok (.aaload, 1) := by decide +kernel
theorem dJx4a65c_elementData_915e3_6 : decode cJx4a65c_elementData_915e3 6 = .ok (.areturn, 1) := by decide +kernel
theorem dJx4a65c_get_915e3_0 : decode cJx4a65c_get_915e3 0 = .ok (.iload_n 1, 1) := by decide +kernel
theorem dJx4a65c_get_915e3_1 : decode cJx4a65c_get_915e3 1 = .ok (.aload_n 0, 1) := by decide +kernel
theorem dJx4a65c_get_915e3_2 : decode cJx4a65c_get_915e3 2 = .ok (.getfield 48, 3) := by decide +kernel
theorem dJx4a65c_get_915e3_5 : decode cJx4a65c_get_915e3 5 = .ok (.invokestatic 118, 3) := by decide +kernel
theorem dJx4a65c_get_915e3_8 : decode cJx4a65c_get_915e3 8 = .ok (.pop, 1) := by decide +kernel
theorem dJx4a65c_get_915e3_9 : decode cJx4a65c_get_915e3 9 = .ok (.aload_n 0, 1) := by decide +kernel
theorem dJx4a65c_get_915e3_10 : decode cJx4a65c_get_915e3 10 = .ok (.iload_n 1, 1) := by decide +kernel
theorem dJx4a65c_get_915e3_11 : decode cJx4a65c_get_915e3 11 = .ok (.invokevirtual 123, 3) := by decide +kernel
theorem dJx4a65c_get_915e3_14 : decode cJx4a65c_get_915e3 14 = .ok (.areturn, 1) := by decide +kernel
theorem dJx4a65c_add_72be8_0 : decode cJx4a65c_add_72be8 0 = .ok (.iload_n 3, 1) := by decide +kernel
theorem dJx4a65c_add_72be8_1 : decode cJx4a65c_add_72be8 1 = .ok (.aload_n 2, 1) := by decide +kernel
theorem dJx4a65c_add_72be8_2 : decode cJx4a65c_add_72be8 2 = .ok (.arraylength, 1) := by decide +kernel
theorem dJx4a65c_add_72be8_3 : decode cJx4a65c_add_72be8 3 = .ok (.if_icmp .ne 8, 3) := by decide +kernel
theorem dJx4a65c_add_72be8_6 : decode cJx4a65c_add_72be8 6 = .ok (.aload_n 0, 1) := by decide +kernel
theorem dJx4a65c_add_72be8_7 : decode cJx4a65c_add_72be8 7 = .ok (.invokevirtual 129, 3) := by decide +kernel
theorem dJx4a65c_add_72be8_10 : decode cJx4a65c_add_72be8 10 = .ok (.astore_n 2, 1) := by decide +kernel
theorem dJx4a65c_add_72be8_11 : decode cJx4a65c_add_72be8 11 = .ok (.aload_n 2, 1) := by decide +kernel
theorem dJx4a65c_add_72be8_12 : decode cJx4a65c_add_72be8 12 = .ok (.iload_n 3, 1) := by decide +kernel
theorem dJx4a65c_add_72be8_13 : decode cJx4a65c_add_72be8 13 = .ok (.aload_n 1, 1) := by decide +kernel
theorem dJx4a65c_add_72be8_14 : decode cJx4a65c_add_72be8 14 = .ok (.aastore, 1) := by decide +kernel
theorem dJx4a65c_add_72be8_15 : decode cJx4a65c_add_72be8 15 = .ok (.aload_n 0, 1) := by decide +kernel
theorem dJx4a65c_add_72be8_16 : decode cJx4a65c_add_72be8 16 = .ok (.iload_n 3, 1) := by decide +kernel
theorem dJx4a65c_add_72be8_17 : decode cJx4a65c_add_72be8 17 = .ok (.iconst 1, 1) := by decide +kernel
theorem dJx4a65c_add_72be8_18 : decode cJx4a65c_add_72be8 18 = .ok (.iadd, 1) := by decide +kernel
theorem dJx4a65c_add_72be8_19 : decode cJx4a65c_add_72be8 19 = .ok (.putfield 48, 3) := by decide +kernel
theorem dJx4a65c_add_72be8_22 : decode cJx4a65c_add_72be8 22 = .ok (.return_, 1) := by decide +kernel
theorem dJx4a65c_add_9ea2d_0 : decode cJx4a65c_add_9ea2d 0 = .ok (.aload_n 0, 1) := by decide +kernel
theorem dJx4a65c_add_9ea2d_1 : decode cJx4a65c_add_9ea2d 1 = .ok (.dup, 1) := by decide +kernel
theorem dJx4a65c_add_9ea2d_2 : decode cJx4a65c_add_9ea2d 2 = .ok (.getfield 63, 3) := by decide +kernel
theorem dJx4a65c_add_9ea2d_5 : decode cJx4a65c_add_9ea2d 5 = .ok (.iconst 1, 1) := by decide +kernel
theorem dJx4a65c_add_9ea2d_6 : decode cJx4a65c_add_9ea2d 6 = .ok (.iadd, 1) := by decide +kernel
theorem dJx4a65c_add_9ea2d_7 : decode cJx4a65c_add_9ea2d 7 = .ok (.putfield 63, 3) := by decide +kernel
theorem dJx4a65c_add_9ea2d_10 : decode cJx4a65c_add_9ea2d 10 = .ok (.aload_n 0, 1) := by decide +kernel
theorem dJx4a65c_add_9ea2d_11 : decode cJx4a65c_add_9ea2d 11 = .ok (.aload_n 1, 1) := by decide +kernel
theorem dJx4a65c_add_9ea2d_12 : decode cJx4a65c_add_9ea2d 12 = .ok (.aload_n 0, 1) := by decide +kernel
theorem dJx4a65c_add_9ea2d_13 : decode cJx4a65c_add_9ea2d 13 = .ok (.getfield 9, 3) := by decide +kernel
theorem dJx4a65c_add_9ea2d_16 : decode cJx4a65c_add_9ea2d 16 = .ok (.aload_n 0, 1) := by decide +kernel
theorem dJx4a65c_add_9ea2d_17 : decode cJx4a65c_add_9ea2d 17 = .ok (.getfield 48, 3) := by decide +kernel
theorem dJx4a65c_add_9ea2d_20 : decode cJx4a65c_add_9ea2d 20 = .ok (.invokevirtual 131, 3) := by decide +kernel
theorem dJx4a65c_add_9ea2d_23 : decode cJx4a65c_add_9ea2d 23 = .ok (.iconst 1, 1) := by decide +kernel
theorem dJx4a65c_add_9ea2d_24 : decode cJx4a65c_add_9ea2d 24 = .ok (.ireturn, 1) := by decide +kernel
theorem dJx4a65c_remove_915e3_0 : decode cJx4a65c_remove_915e3 0 = .ok (.iload_n 1, 1) := by decide +kernel
theorem dJx4a65c_remove_915e3_1 : decode cJx4a65c_remove_915e3 1 = .ok (.aload_n 0, 1) := by decide +kernel
theorem dJx4a65c_remove_915e3_2 : decode cJx4a65c_remove_915e3 2 = .ok (.getfield 48, 3) := by decide +kernel
theorem dJx4a65c_remove_915e3_5 : decode cJx4a65c_remove_915e3 5 = .ok (.invokestatic 118, 3) := by decide +kernel
theorem dJx4a65c_remove_915e3_8 : decode cJx4a65c_remove_915e3 8 = .ok (.pop, 1) := by decide +kernel
theorem dJx4a65c_remove_915e3_9 : decode cJx4a65c_remove_915e3 9 = .ok (.aload_n 0, 1) := by decide +kernel
theorem dJx4a65c_remove_915e3_10 : decode cJx4a65c_remove_915e3 10 = .ok (.getfield 9, 3) := by decide +kernel
theorem dJx4a65c_remove_915e3_13 : decode cJx4a65c_remove_915e3 13 = .ok (.astore_n 2, 1) := by decide +kernel
theorem dJx4a65c_remove_915e3_14 : decode cJx4a65c_remove_915e3 14 = .ok (.aload_n 2, 1) := by decide +kernel
theorem dJx4a65c_remove_915e3_15 : decode cJx4a65c_remove_915e3 15 = .ok (.iload_n 1, 1) := by decide +kernel
theorem dJx4a65c_remove_915e3_16 : decode cJx4a65c_remove_915e3 16 = .ok (.aaload, 1) := by decide +kernel
theorem dJx4a65c_remove_915e3_17 : decode cJx4a65c_remove_915e3 17 = .ok (.astore_n 3, 1) := by decide +kernel
theorem dJx4a65c_remove_915e3_18 : decode cJx4a65c_remove_915e3 18 = .ok (.aload_n 0, 1) := by decide +kernel
theorem dJx4a65c_remove_915e3_19 : decode cJx4a65c_remove_915e3 19 = .ok (.aload_n 2, 1) := by decide +kernel
theorem dJx4a65c_remove_915e3_20 : decode cJx4a65c_remove_915e3 20 = .ok (.iload_n 1, 1) := by decide +kernel
theorem dJx4a65c_remove_915e3_21 : decode cJx4a65c_remove_915e3 21 = .ok (.invokevirtual 144, 3) := by decide +kernel
theorem dJx4a65c_remove_915e3_24 : decode cJx4a65c_remove_915e3 24 = .ok (.aload_n 3, 1) := by decide +kernel
theorem dJx4a65c_remove_915e3_25 : decode cJx4a65c_remove_915e3 25 = .ok (.areturn, 1) := by decide +kernel
theorem dJx4a65c_fastRemove_b59b0_0 : decode cJx4a65c_fastRemove_b59b0 0 = .ok (.aload_n 0, 1) := by decide +kernel
theorem dJx4a65c_fastRemove_b59b0_1 : decode cJx4a65c_fastRemove_b59b0 1 = .ok (.dup, 1) := by decide +kernel
theorem dJx4a65c_fastRemove_b59b0_2 : decode cJx4a65c_fastRemove_b59b0 2 = .ok (.getfield 63, 3) := by decide +kernel
theorem dJx4a65c_fastRemove_b59b0_5 : decode cJx4a65c_fastRemove_b59b0 5 = .ok (.iconst 1, 1) := by decide +kernel
theorem dJx4a65c_fastRemove_b59b0_6 : decode cJx4a65c_fastRemove_b59b0 6 = .ok (.iadd, 1) := by decide +kernel
theorem dJx4a65c_fastRemove_b59b0_7 : decode cJx4a65c_fastRemove_b59b0 7 = .ok (.putfield 63, 3) := by decide +kernel
theorem dJx4a65c_fastRemove_b59b0_10 : decode cJx4a65c_fastRemove_b59b0 10 = .ok (.aload_n 0, 1) := by decide +kernel
theorem dJx4a65c_fastRemove_b59b0_11 : decode cJx4a65c_fastRemove_b59b0 11 = .ok (.getfield 48, 3) := by decide +kernel
theorem dJx4a65c_fastRemove_b59b0_14 : decode cJx4a65c_fastRemove_b59b0 14 = .ok (.iconst 1, 1) := by decide +kernel
theorem dJx4a65c_fastRemove_b59b0_15 : decode cJx4a65c_fastRemove_b59b0 15 = .ok (.isub, 1) := by decide +kernel
theorem dJx4a65c_fastRemove_b59b0_16 : decode cJx4a65c_fastRemove_b59b0 16 = .ok (.dup, 1) := by decide +kernel
theorem dJx4a65c_fastRemove_b59b0_17 : decode cJx4a65c_fastRemove_b59b0 17 = .ok (.istore_n 3, 1) := by decide +kernel
theorem dJx4a65c_fastRemove_b59b0_18 : decode cJx4a65c_fastRemove_b59b0 18 = .ok (.iload_n 2, 1) := by decide +kernel
theorem dJx4a65c_fastRemove_b59b0_19 : decode cJx4a65c_fastRemove_b59b0 19 = .ok (.if_icmp .le 15, 3) := by decide +kernel
theorem dJx4a65c_fastRemove_b59b0_22 : decode cJx4a65c_fastRemove_b59b0 22 = .ok (.aload_n 1, 1) := by decide +kernel
theorem dJx4a65c_fastRemove_b59b0_23 : decode cJx4a65c_fastRemove_b59b0 23 = .ok (.iload_n 2, 1) := by decide +kernel
theorem dJx4a65c_fastRemove_b59b0_24 : decode cJx4a65c_fastRemove_b59b0 24 = .ok (.iconst 1, 1) := by decide +kernel
theorem dJx4a65c_fastRemove_b59b0_25 : decode cJx4a65c_fastRemove_b59b0 25 = .ok (.iadd, 1) := by decide +kernel
theorem dJx4a65c_fastRemove_b59b0_26 : decode cJx4a65c_fastRemove_b59b0 26 = .ok (.aload_n 1, 1) := by decide +kernel
theorem dJx4a65c_fastRemove_b59b0_27 : decode cJx4a65c_fastRemove_b59b0 27 = .ok (.iload_n 2, 1) := by decide +kernel
theorem dJx4a65c_fastRemove_b59b0_28 : decode cJx4a65c_fastRemove_b59b0 28 = .ok (.iload_n 3, 1) := by decide +kernel
theorem dJx4a65c_fastRemove_b59b0_29 : decode cJx4a65c_fastRemove_b59b0 29 = .ok (.iload_n 2, 1) := by decide +kernel
theorem dJx4a65c_fastRemove_b59b0_30 : decode cJx4a65c_fastRemove_b59b0 30 = .ok (.isub, 1) := by decide +kernel
theorem dJx4a65c_fastRemove_b59b0_31 : decode cJx4a65c_fastRemove_b59b0 31 = .ok (.invokestatic 112, 3) := by decide +kernel
theorem dJx4a65c_fastRemove_b59b0_34 : decode cJx4a65c_fastRemove_b59b0 34 = .ok (.aload_n 1, 1) := by decide +kernel
theorem dJx4a65c_fastRemove_b59b0_35 : decode cJx4a65c_fastRemove_b59b0 35 = .ok (.aload_n 0, 1) := by decide +kernel
theorem dJx4a65c_fastRemove_b59b0_36 : decode cJx4a65c_fastRemove_b59b0 36 = .ok (.iload_n 3, 1) := by decide +kernel
theorem dJx4a65c_fastRemove_b59b0_37 : decode cJx4a65c_fastRemove_b59b0 37 = .ok (.dup_x1, 1) := by decide +kernel
theorem dJx4a65c_fastRemove_b59b0_38 : decode cJx4a65c_fastRemove_b59b0 38 = .ok (.putfield 48, 3) := by decide +kernel
theorem dJx4a65c_fastRemove_b59b0_41 : decode cJx4a65c_fastRemove_b59b0 41 = .ok (.aconst_null, 1) := by decide +kernel
theorem dJx4a65c_fastRemove_b59b0_42 : decode cJx4a65c_fastRemove_b59b0 42 = .ok (.aastore, 1) := by decide +kernel
theorem dJx4a65c_fastRemove_b59b0_43 : decode cJx4a65c_fastRemove_b59b0 43 = .ok (.return_, 1) := by decide +kernel
theorem dJ7_fill_d0a16_0 : decode cJ7_fill_d0a16 0 = .ok (.iconst 0, 1) := by decide +kernel
theorem dJ7_fill_d0a16_1 : decode cJ7_fill_d0a16 1 = .ok (.istore_n 3, 1) := by decide +kernel
theorem dJ7_fill_d0a16_2 : decode cJ7_fill_d0a16 2 = .ok (.aload_n 0, 1) := by decide +kernel
theorem dJ7_fill_d0a16_3 : decode cJ7_fill_d0a16 3 = .ok (.arraylength, 1) := by decide +kernel
theorem dJ7_fill_d0a16_4 : decode cJ7_fill_d0a16 4 = .ok (.istore 4, 2) := by decide +kernel
theorem dJ7_fill_d0a16_6 : decode cJ7_fill_d0a16 6 = .ok (.iload_n 3, 1) := by decide +kernel
theorem dJ7_fill_d0a16_7 : decode cJ7_fill_d0a16 7 = .ok (.iload 4, 2) := by decide +kernel
theorem dJ7_fill_d0a16_9 : decode cJ7_fill_d0a16 9 = .ok (.if_icmp .ge 13, 3) := by decide +kernel
theorem dJ7_fill_d0a16_12 : decode cJ7_fill_d0a16 12 = .ok (.aload_n 0, 1) := by decide +kernel
theorem dJ7_fill_d0a16_13 : decode cJ7_fill_d0a16 13 = .ok (.iload_n 3, 1) := by decide +kernel
theorem dJ7_fill_d0a16_14 : decode cJ7_fill_d0a16 14 = .ok (.lload_n 1, 1) := by decide +kernel
theorem dJ7_fill_d0a16_15 : decode cJ7_fill_d0a16 15 = .ok (.lastore, 1) := by decide +kernel
theorem dJ7_fill_d0a16_16 : decode cJ7_fill_d0a16 16 = .ok (.iinc 3 1, 3) := by decide +kernel
theorem dJ7_fill_d0a16_19 : decode cJ7_fill_d0a16 19 = .ok (.goto (-13), 3) := by decide +kernel
theorem dJ7_fill_d0a16_22 : decode cJ7_fill_d0a16 22 = .ok (.return_, 1) := by decide +kernel
theorem dJ7_copyOf_1904c_0 : decode cJ7_copyOf_1904c 0 = .ok (.aload_n 0, 1) := by decide +kernel
theorem dJ7_copyOf_1904c_1 : decode cJ7_copyOf_1904c 1 = .ok (.iload_n 1, 1) := by decide +kernel
theorem dJ7_copyOf_1904c_2 : decode cJ7_copyOf_1904c 2 = .ok (.aload_n 0, 1) := by decide +kernel
theorem dJ7_copyOf_1904c_3 : decode cJ7_copyOf_1904c 3 = .ok (.invokevirtual 86, 3) := by decide +kernel
theorem dJ7_copyOf_1904c_6 : decode cJ7_copyOf_1904c 6 = .ok (.invokestatic 300, 3) := by decide +kernel
theorem dJ7_copyOf_1904c_9 : decode cJ7_copyOf_1904c 9 = .ok (.areturn, 1) := by decide +kernel
theorem dJ7_copyOf_6403c_0 : decode cJ7_copyOf_6403c 0 = .ok (.aload_n 2, 1) := by decide +kernel
theorem dJ7_copyOf_6403c_1 : decode cJ7_copyOf_6403c 1 = .ok (.ldc 110, 2) := by decide +kernel
theorem dJ7_copyOf_6403c_3 : decode cJ7_copyOf_6403c 3 = .ok (.if_acmp .ne 10, 3) := by decide +kernel
theorem dJ7_copyOf_6403c_6 : decode cJ7_copyOf_6403c 6 = .ok (.iload_n 1, 1) := by decide +kernel
theorem dJ7_copyOf_6403c_7 : decode cJ7_copyOf_6403c 7 = .ok (.anewarray 2, 3) := by decide +kernel
theorem dJ7_copyOf_6403c_10 : decode cJ7_copyOf_6403c 10 = .ok (.goto 14, 3) := by decide +kernel
theorem dJ7_copyOf_6403c_13 : decode cJ7_copyOf_6403c 13 = .ok (.aload_n 2, 1) := by decide +kernel
theorem dJ7_copyOf_6403c_14 : decode cJ7_copyOf_6403c 14 = .ok (.invokevirtual 90, 3) := by decide +kernel
theorem dJ7_copyOf_6403c_17 : decode cJ7_copyOf_6403c 17 = .ok (.iload_n 1, 1) := by decide +kernel
theorem dJ7_copyOf_6403c_18 : decode cJ7_copyOf_6403c 18 = .ok (.invokestatic 95, 3) := by decide +kernel
theorem dJ7_copyOf_6403c_21 : decode cJ7_copyOf_6403c 21 = .ok (.checkcast 110, 3) := by decide +kernel
theorem dJ7_copyOf_6403c_24 : decode cJ7_copyOf_6403c 24 = .ok (.astore_n 3, 1) := by decide +kernel
theorem dJ7_copyOf_6403c_25 : decode cJ7_copyOf_6403c 25 = .ok (.aload_n 0, 1) := by decide +kernel
theorem dJ7_copyOf_6403c_26 : decode cJ7_copyOf_6403c 26 = .ok (.iconst 0, 1) := by decide +kernel
theorem dJ7_copyOf_6403c_27 : decode cJ7_copyOf_6403c 27 = .ok (.aload_n 3, 1) := by decide +kernel
theorem dJ7_copyOf_6403c_28 : decode cJ7_copyOf_6403c 28 = .ok (.iconst 0, 1) := by decide +kernel
theorem dJ7_copyOf_6403c_29 : decode cJ7_copyOf_6403c 29 = .ok (.aload_n 0, 1) := by decide +kernel
theorem dJ7_copyOf_6403c_30 : decode cJ7_copyOf_6403c 30 = .ok (.arraylength, 1) := by decide +kernel
theorem dJ7_copyOf_6403c_31 : decode cJ7_copyOf_6403c 31 = .ok (.iload_n 1, 1) := by decide +kernel
theorem dJ7_copyOf_6403c_32 : decode cJ7_copyOf_6403c 32 = .ok (.invokestatic 304, 3) := by decide +kernel
theorem dJ7_copyOf_6403c_35 : decode cJ7_copyOf_6403c 35 = .ok (.invokestatic 150, 3) := by decide +kernel
theorem dJ7_copyOf_6403c_38 : decode cJ7_copyOf_6403c 38 = .ok (.aload_n 3, 1) := by decide +kernel
theorem dJ7_copyOf_6403c_39 : decode cJ7_copyOf_6403c 39 = .ok (.areturn, 1) := by decide +kernel
theorem dJ7_copyOf_9075b_0 : decode cJ7_copyOf_9075b 0 = .ok (.iload_n 1, 1) := by decide +kernel
theorem dJ7_copyOf_9075b_1 : decode cJ7_copyOf_9075b 1 = .ok (.aload_n 0, 1) := by decide +kernel
theorem dJ7_copyOf_9075b_2 : decode cJ7_copyOf_9075b 2 = .ok (.arraylength, 1) := by decide +kernel
theorem dJ7_copyOf_9075b_3 : decode cJ7_copyOf_9075b 3 = .ok (.if_icmp .ne 11, 3) := by decide +kernel
theorem dJ7_copyOf_9075b_6 : decode cJ7_copyOf_9075b 6 = .ok (.aload_n 0, 1) := by decide +kernel
theorem dJ7_copyOf_9075b_7 : decode cJ7_copyOf_9075b 7 = .ok (.invokevirtual 310, 3) := by decide +kernel
theorem dJ7_copyOf_9075b_10 : decode cJ7_copyOf_9075b 10 = .ok (.checkcast 311, 3) := by decide +kernel
theorem dJ7_copyOf_9075b_13 : decode cJ7_copyOf_9075b 13 = .ok (.areturn, 1) := by decide +kernel
theorem dJ7_copyOf_9075b_14 : decode cJ7_copyOf_9075b 14 = .ok (.iload_n 1, 1) := by decide +kernel
theorem dJ7_copyOf_9075b_15 : decode cJ7_copyOf_9075b 15 = .ok (.newarray .byte, 2) := by decide +kernel
theorem dJ7_copyOf_9075b_17 : decode cJ7_copyOf_9075b 17 = .ok (.astore_n 2, 1) := by decide +kernel
theorem dJ7_copyOf_9075b_18 : decode cJ7_copyOf_9075b 18 = .ok (.aload_n 0, 1) := by decide +kernel
theorem dJ7_copyOf_9075b_19 : decode cJ7_copyOf_9075b 19 = .ok (.iconst 0, 1) := by decide +kernel
theorem dJ7_copyOf_9075b_20 : decode cJ7_copyOf_9075b 20 = .ok (.aload_n 2, 1) := by decide +kernel
theorem dJ7_copyOf_9075b_21 : decode cJ7_copyOf_9075b 21 = .ok (.iconst 0, 1) := by decide +kernel
theorem dJ7_copyOf_9075b_22 : decode cJ7_copyOf_9075b 22 = .ok (.aload_n 0, 1) := by decide +kernel
theorem dJ7_copyOf_9075b_23 : decode cJ7_copyOf_9075b 23 = .ok (.arraylength, 1) := by decide +kernel
theorem dJ7_copyOf_9075b_24 : decode cJ7_copyOf_9075b 24 = .ok (.iload_n 1, 1) := by decide +kernel
theorem dJ7_copyOf_9075b_25 : decode cJ7_copyOf_9075b 25 = .ok (.invokestatic 304, 3) := by decide +kernel
theorem dJ7_copyOf_9075b_28 : decode cJ7_copyOf_9075b 28 = .ok (.invokestatic 150, 3) := by decide +kernel
theorem dJ7_copyOf_9075b_31 : decode cJ7_copyOf_9075b 31 = .ok (.aload_n 2, 1) := by decide +kernel
theorem dJ7_copyOf_9075b_32 : decode cJ7_copyOf_9075b 32 = .ok (.areturn, 1) := by decide +kernel
theorem dJ7_checkLength_df160_0 : decode cJ7_checkLength_df160 0 = .ok (.iload_n 1, 1) := by decide +kernel
theorem dJ7_checkLength_df160_1 : decode cJ7_checkLength_df160 1 = .ok (.iload_n 0, 1) := by decide +kernel
theorem dJ7_checkLength_df160_2 : decode cJ7_checkLength_df160 2 = .ok (.if_icmp .ge 35, 3) := by decide +kernel
theorem dJ7_checkLength_df160_5 : decode cJ7_checkLength_df160 5 = .ok (.new 43, 3) := by decide +kernel
theorem dJ7_checkLength_df160_8 : decode cJ7_checkLength_df160 8 = .ok (.dup, 1) := by decide +kernel
theorem dJ7_checkLength_df160_9 : decode cJ7_checkLength_df160 9 = .ok (.new 45, 3) := by decide +kernel
theorem dJ7_checkLength_df160_12 : decode cJ7_checkLength_df160 12 = .ok (.dup, 1) := by decide +kernel
theorem dJ7_checkLength_df160_13 : decode cJ7_checkLength_df160 13 = .ok (.invokespecial 47, 3) := by decide +kernel
theorem dJ7_checkLength_df160_16 : decode cJ7_checkLength_df160 16 = .ok (.iload_n 0, 1) := by decide +kernel
theorem dJ7_checkLength_df160_17 : decode cJ7_checkLength_df160 17 = .ok (.invokevirtual 54, 3) := by decide +kernel
theorem dJ7_checkLength_df160_20 : decode cJ7_checkLength_df160 20 = .ok (.ldc_w 337, 3) := by decide +kernel
theorem dJ7_checkLength_df160_23 : decode cJ7_checkLength_df160 23 = .ok (.invokevirtual 50, 3) := by decide +kernel
theorem dJ7_checkLength_df160_26 : decode cJ7_checkLength_df160 26 = .ok (.iload_n 1, 1) := by decide +kernel
theorem dJ7_checkLength_df160_27 : decode cJ7_checkLength_df160 27 = .ok (.invokevirtual 54, 3) := by decide +kernel
theorem dJ7_checkLength_df160_30 : decode cJ7_checkLength_df160 30 = .ok (.invokevirtual 61, 3) := by decide +kernel
theorem dJ7_checkLength_df160_33 : decode cJ7_checkLength_df160 33 = .ok (.invokespecial 65, 3) := by decide +kernel
theorem dJ7_checkLength_df160_36 : decode cJ7_checkLength_df160 36 = .ok (.athrow, 1) := by decide +kernel
theorem dJ7_checkLength_df160_37 : decode cJ7_checkLength_df160 37 = .ok (.return_, 1) := by decide +kernel
theorem dJ7_copyOfRange_39247_0 : decode cJ7_copyOfRange_39247 0 = .ok (.iload_n 1, 1) := by decide +kernel
theorem dJ7_copyOfRange_39247_1 : decode cJ7_copyOfRange_39247 1 = .ok (.ifCond .ne 9, 3) := by decide +kernel
theorem dJ7_copyOfRange_39247_4 : decode cJ7_copyOfRange_39247 4 = .ok (.iload_n 2, 1) := by decide +kernel
theorem dJ7_copyOfRange_39247_5 : decode cJ7_copyOfRange_39247 5 = .ok (.aload_n 0, 1) := by decide +kernel
theorem dJ7_copyOfRange_39247_6 : decode cJ7_copyOfRange_39247 6 = .ok (.arraylength, 1) := by decide +kernel
theorem dJ7_copyOfRange_39247_7 : decode cJ7_copyOfRange_39247 7 = .ok (.if_icmp .eq 10, 3) := by decide +kernel
theorem dJ7_copyOfRange_39247_10 : decode cJ7_copyOfRange_39247 10 = .ok (.aload_n 0, 1) := by decide +kernel
theorem dJ7_copyOfRange_39247_11 : decode cJ7_copyOfRange_39247 11 = .ok (.iload_n 1, 1) := by decide +kernel
theorem dJ7_copyOfRange_39247_12 : decode cJ7_copyOfRange_39247 12 = .ok (.iload_n 2, 1) := by decide +kernel
theorem dJ7_copyOfRange_39247_13 : decode cJ7_copyOfRange_39247 13 = .ok (.invokestatic 339, 3) := by decide +kernel
theorem dJ7_copyOfRange_39247_16 : decode cJ7_copyOfRange_39247 16 = .ok (.areturn, 1) := by decide +kernel
theorem dJ7_copyOfRange_39247_17 : decode cJ7_copyOfRange_39247 17 = .ok (.aload_n 0, 1) := by decide +kernel
theorem dJ7_copyOfRange_39247_18 : decode cJ7_copyOfRange_39247 18 = .ok (.invokevirtual 310, 3) := by decide +kernel
theorem dJ7_copyOfRange_39247_21 : decode cJ7_copyOfRange_39247 21 = .ok (.checkcast 311, 3) := by decide +kernel
theorem dJ7_copyOfRange_39247_24 : decode cJ7_copyOfRange_39247 24 = .ok (.areturn, 1) := by decide +kernel
theorem dJ7_copyOfRangeByte_39247_0 : decode cJ7_copyOfRangeByte_39247 0 = .ok (.iload_n 1, 1) := by decide +kernel
theorem dJ7_copyOfRangeByte_39247_1 : decode cJ7_copyOfRangeByte_39247 1 = .ok (.iload_n 2, 1) := by decide +kernel
theorem dJ7_copyOfRangeByte_39247_2 : decode cJ7_copyOfRangeByte_39247 2 = .ok (.invokestatic 343, 3) := by decide +kernel
theorem dJ7_copyOfRangeByte_39247_5 : decode cJ7_copyOfRangeByte_39247 5 = .ok (.iload_n 2, 1) := by decide +kernel
theorem dJ7_copyOfRangeByte_39247_6 : decode cJ7_copyOfRangeByte_39247 6 = .ok (.iload_n 1, 1) := by decide +kernel
theorem dJ7_copyOfRangeByte_39247_7 : decode cJ7_copyOfRangeByte_39247 7 = .ok (.isub, 1) := by decide +kernel
theorem dJ7_copyOfRangeByte_39247_8 : decode cJ7_copyOfRangeByte_39247 8 = .ok (.istore_n 3, 1) := by decide +kernel
theorem dJ7_copyOfRangeByte_39247_9 : decode cJ7_copyOfRangeByte_39247 9 = .ok (.iload_n 3, 1) := by decide +kernel
theorem dJ7_copyOfRangeByte_39247_10 : decode cJ7_copyOfRangeByte_39247 10 = .ok (.newarray .byte, 2) := by decide +kernel
theorem dJ7_copyOfRangeByte_39247_12 : decode cJ7_copyOfRangeByte_39247 12 = .ok (.astore 4, 2) := by decide +kernel
theorem dJ7_copyOfRangeByte_39247_14 : decode cJ7_copyOfRangeByte_39247 14 = .ok (.aload_n 0, 1) := by decide +kernel
theorem dJ7_copyOfRangeByte_39247_15 : decode cJ7_copyOfRangeByte_39247 15 = .ok (.iload_n 1, 1) := by decide +kernel
theorem dJ7_copyOfRangeByte_39247_16 : decode cJ7_copyOfRangeByte_39247 16 = .ok (.aload 4, 2) := by decide +kernel
theorem dJ7_copyOfRangeByte_39247_18 : decode cJ7_copyOfRangeByte_39247 18 = .ok (.iconst 0, 1) := by decide +kernel
theorem dJ7_copyOfRangeByte_39247_19 : decode cJ7_copyOfRangeByte_39247 19 = .ok (.aload_n 0, 1) := by decide +kernel
theorem dJ7_copyOfRangeByte_39247_20 : decode cJ7_copyOfRangeByte_39247 20 = .ok (.arraylength, 1) := by decide +kernel
theorem dJ7_copyOfRangeByte_39247_21 : decode cJ7_copyOfRangeByte_39247 21 = .ok (.iload_n 1, 1) := by decide +kernel
theorem dJ7_copyOfRangeByte_39247_22 : decode cJ7_copyOfRangeByte_39247 22 = .ok (.isub, 1) := by decide +kernel
theorem dJ7_copyOfRangeByte_39247_23 : decode cJ7_copyOfRangeByte_39247 23 = .ok (.iload_n 3, 1) := by decide +kernel
theorem dJ7_copyOfRangeByte_39247_24 : decode cJ7_copyOfRangeByte_39247 24 = .ok (.invokestatic 304, 3) := by decide +kernel
theorem dJ7_copyOfRangeByte_39247_27 : decode cJ7_copyOfRangeByte_39247 27 = .ok (.invokestatic 150, 3) := by decide +kernel
theorem dJ7_copyOfRangeByte_39247_30 : decode cJ7_copyOfRangeByte_39247 30 = .ok (.aload 4, 2) := by decide +kernel
theorem dJ7_copyOfRangeByte_39247_32 : decode cJ7_copyOfRangeByte_39247 32 = .ok (.areturn, 1) := by decide +kernel
theorem dJ15_checkIndex_7cf53_0 : decode cJ15_checkIndex_7cf53 0 = .ok (.iload_n 0, 1) := by decide +kernel
theorem dJ15_checkIndex_7cf53_1 : decode cJ15_checkIndex_7cf53 1 = .ok (.iload_n 1, 1) := by decide +kernel
theorem dJ15_checkIndex_7cf53_2 : decode cJ15_checkIndex_7cf53 2 = .ok (.aconst_null, 1) := by decide +kernel
theorem dJ15_checkIndex_7cf53_3 : decode cJ15_checkIndex_7cf53 3 = .ok (.invokestatic 105, 3) := by decide +kernel
theorem dJ15_checkIndex_7cf53_6 : decode cJ15_checkIndex_7cf53 6 = .ok (.ireturn, 1) := by decide +kernel
theorem dJ8_newLength_cabcc_0 : decode cJ8_newLength_cabcc 0 = .ok (.iload_n 0, 1) := by decide +kernel
theorem dJ8_newLength_cabcc_1 : decode cJ8_newLength_cabcc 1 = .ok (.iload_n 1, 1) := by decide +kernel
theorem dJ8_newLength_cabcc_2 : decode cJ8_newLength_cabcc 2 = .ok (.iload_n 2, 1) := by decide +kernel
theorem dJ8_newLength_cabcc_3 : decode cJ8_newLength_cabcc 3 = .ok (.invokestatic 194, 3) := by decide +kernel
theorem dJ8_newLength_cabcc_6 : decode cJ8_newLength_cabcc 6 = .ok (.iadd, 1) := by decide +kernel
theorem dJ8_newLength_cabcc_7 : decode cJ8_newLength_cabcc 7 = .ok (.istore_n 3, 1) := by decide +kernel
theorem dJ8_newLength_cabcc_8 : decode cJ8_newLength_cabcc 8 = .ok (.iconst 0, 1) := by decide +kernel
theorem dJ8_newLength_cabcc_9 : decode cJ8_newLength_cabcc 9 = .ok (.iload_n 3, 1) := by decide +kernel
theorem dJ8_newLength_cabcc_10 : decode cJ8_newLength_cabcc 10 = .ok (.if_icmp .ge 11, 3) := by decide +kernel
theorem dJ8_newLength_cabcc_13 : decode cJ8_newLength_cabcc 13 = .ok (.iload_n 3, 1) := by decide +kernel
theorem dJ8_newLength_cabcc_14 : decode cJ8_newLength_cabcc 14 = .ok (.ldc 200, 2) := by decide +kernel
theorem dJ8_newLength_cabcc_16 : decode cJ8_newLength_cabcc 16 = .ok (.if_icmp .gt 5, 3) := by decide +kernel
theorem dJ8_newLength_cabcc_19 : decode cJ8_newLength_cabcc 19 = .ok (.iload_n 3, 1) := by decide +kernel
theorem dJ8_newLength_cabcc_20 : decode cJ8_newLength_cabcc 20 = .ok (.ireturn, 1) := by decide +kernel
theorem dJ8_newLength_cabcc_21 : decode cJ8_newLength_cabcc 21 = .ok (.iload_n 0, 1) := by decide +kernel
theorem dJ8_newLength_cabcc_22 : decode cJ8_newLength_cabcc 22 = .ok (.iload_n 1, 1) := by decide +kernel
theorem dJ8_newLength_cabcc_23 : decode cJ8_newLength_cabcc 23 = .ok (.invokestatic 201, 3) := by decide +kernel
theorem dJ8_newLength_cabcc_26 : decode cJ8_newLength_cabcc 26 = .ok (.ireturn, 1) := by decide +kernel
theorem dJ8_hugeLength_7cf53_0 : decode cJ8_hugeLength_7cf53 0 = .ok (.iload_n 0, 1) := by decide +kernel
theorem dJ8_hugeLength_7cf53_1 : decode cJ8_hugeLength_7cf53 1 = .ok (.iload_n 1, 1) := by decide +kernel
theorem dJ8_hugeLength_7cf53_2 : decode cJ8_hugeLength_7cf53 2 = .ok (.iadd, 1) := by decide +kernel
theorem dJ8_hugeLength_7cf53_3 : decode cJ8_hugeLength_7cf53 3 = .ok (.istore_n 2, 1) := by decide +kernel
theorem dJ8_hugeLength_7cf53_4 : decode cJ8_hugeLength_7cf53 4 = .ok (.iload_n 2, 1) := by decide +kernel
theorem dJ8_hugeLength_7cf53_5 : decode cJ8_hugeLength_7cf53 5 = .ok (.ifCond .ge 44, 3) := by decide +kernel
theorem dJ8_hugeLength_7cf53_8 : decode cJ8_hugeLength_7cf53 8 = .ok (.new 204, 3) := by decide +kernel
theorem dJ8_hugeLength_7cf53_11 : decode cJ8_hugeLength_7cf53 11 = .ok (.dup, 1) := by decide +kernel
theorem dJ8_hugeLength_7cf53_12 : decode cJ8_hugeLength_7cf53 12 = .ok (.new 89, 3) := by decide +kernel
theorem dJ8_hugeLength_7cf53_15 : decode cJ8_hugeLength_7cf53 15 = .ok (.dup, 1) := by decide +kernel
theorem dJ8_hugeLength_7cf53_16 : decode cJ8_hugeLength_7cf53 16 = .ok (.invokespecial 91, 3) := by decide +kernel
theorem dJ8_hugeLength_7cf53_19 : decode cJ8_hugeLength_7cf53 19 = .ok (.ldc 206, 2) := by decide +kernel
theorem dJ8_hugeLength_7cf53_21 : decode cJ8_hugeLength_7cf53 21 = .ok (.invokevirtual 94, 3) := by decide +kernel
theorem dJ8_hugeLength_7cf53_24 : decode cJ8_hugeLength_7cf53 24 = .ok (.iload_n 0, 1) := by decide +kernel
theorem dJ8_hugeLength_7cf53_25 : decode cJ8_hugeLength_7cf53 25 = .ok (.invokevirtual 98, 3) := by decide +kernel
theorem dJ8_hugeLength_7cf53_28 : decode cJ8_hugeLength_7cf53 28 = .ok (.ldc 208, 2) := by decide +kernel
theorem dJ8_hugeLength_7cf53_30 : decode cJ8_hugeLength_7cf53 30 = .ok (.invokevirtual 94, 3) := by decide +kernel
theorem dJ8_hugeLength_7cf53_33 : decode cJ8_hugeLength_7cf53 33 = .ok (.iload_n 1, 1) := by decide +kernel
theorem dJ8_hugeLength_7cf53_34 : decode cJ8_hugeLength_7cf53 34 = .ok (.invokevirtual 98, 3) := by decide +kernel
theorem dJ8_hugeLength_7cf53_37 : decode cJ8_hugeLength_7cf53 37 = .ok (.ldc 210, 2) := by decide +kernel
theorem dJ8_hugeLength_7cf53_39 : decode cJ8_hugeLength_7cf53 39 = .ok (.invokevirtual 94, 3) := by decide +kernel
theorem dJ8_hugeLength_7cf53_42 : decode cJ8_hugeLength_7cf53 42 = .ok (.invokevirtual 101, 3) := by decide +kernel
theorem dJ8_hugeLength_7cf53_45 : decode cJ8_hugeLength_7cf53 45 = .ok (.invokespecial 212, 3) := by decide +kernel
theorem dJ8_hugeLength_7cf53_48 : decode cJ8_hugeLength_7cf53 48 = .ok (.athrow, 1) := by decide +kernel
theorem dJ8_hugeLength_7cf53_49 : decode cJ8_hugeLength_7cf53 49 = .ok (.iload_n 2, 1) := by decide +kernel
theorem dJ8_hugeLength_7cf53_50 : decode cJ8_hugeLength_7cf53 50 = .ok (.ldc 200, 2) := by decide +kernel
theorem dJ8_hugeLength_7cf53_52 : decode cJ8_hugeLength_7cf53 52 = .ok (.if_icmp .gt 6, 3) := by decide +kernel
theorem dJ8_hugeLength_7cf53_55 : decode cJ8_hugeLength_7cf53 55 = .ok (.ldc 200, 2) := by decide +kernel
theorem dJ8_hugeLength_7cf53_57 : decode cJ8_hugeLength_7cf53 57 = .ok (.ireturn, 1) := by decide +kernel
theorem dJ8_hugeLength_7cf53_58 : decode cJ8_hugeLength_7cf53 58 = .ok (.iload_n 2, 1) := by decide +kernel
theorem dJ8_hugeLength_7cf53_59 : decode cJ8_hugeLength_7cf53 59 = .ok (.ireturn, 1) := by decide +kernel
theorem dJ3_checkIndex_8e157_0 : decode cJ3_checkIndex_8e157 0 = .ok (.iload_n 0, 1) := by decide +kernel
theorem dJ3_checkIndex_8e157_1 : decode cJ3_checkIndex_8e157 1 = .ok (.ifCond .lt 8, 3) := by decide +kernel
theorem dJ3_checkIndex_8e157_4 : decode cJ3_checkIndex_8e157 4 = .ok (.iload_n 0, 1) := by decide +kernel
theorem dJ3_checkIndex_8e157_5 : decode cJ3_checkIndex_8e157 5 = .ok (.iload_n 1, 1) := by decide +kernel
theorem dJ3_checkIndex_8e157_6 : decode cJ3_checkIndex_8e157 6 = .ok (.if_icmp .lt 10, 3) := by decide +kernel
theorem dJ3_checkIndex_8e157_9 : decode cJ3_checkIndex_8e157 9 = .ok (.aload_n 2, 1) := by decide +kernel
theorem dJ3_checkIndex_8e157_10 : decode cJ3_checkIndex_8e157 10 = .ok (.iload_n 0, 1) := by decide +kernel
theorem dJ3_checkIndex_8e157_11 : decode cJ3_checkIndex_8e157 11 = .ok (.iload_n 1, 1) := by decide +kernel
theorem dJ3_checkIndex_8e157_12 : decode cJ3_checkIndex_8e157 12 = .ok (.invokestatic 95, 3) := by decide +kernel
theorem dJ3_checkIndex_8e157_15 : decode cJ3_checkIndex_8e157 15 = .ok (.athrow, 1) := by decide +kernel
theorem dJ3_checkIndex_8e157_16 : decode cJ3_checkIndex_8e157 16 = .ok (.iload_n 0, 1) := by decide +kernel
theorem dJ3_checkIndex_8e157_17 : decode cJ3_checkIndex_8e157 17 = .ok (.ireturn, 1) := by decide +kernel
theorem dJ3_checkFromToIndex_8c36e_0 : decode cJ3_checkFromToIndex_8c36e 0 = .ok (.iload_n 0, 1) := by decide +kernel
theorem dJ3_checkFromToIndex_8c36e_1 : decode cJ3_checkFromToIndex_8c36e 1 = .ok (.ifCond .lt 13, 3) := by decide +kernel
theorem dJ3_checkFromToIndex_8c36e_4 : decode cJ3_checkFromToIndex_8c36e 4 = .ok (.iload_n 0, 1) := by decide +kernel
theorem dJ3_checkFromToIndex_8c36e_5 : decode cJ3_checkFromToIndex_8c36e 5 = .ok (.iload_n 1, 1) := by decide +kernel
theorem dJ3_checkFromToIndex_8c36e_6 : decode cJ3_checkFromToIndex_8c36e 6 = .ok (.if_icmp .gt 8, 3) := by decide +kernel
theorem dJ3_checkFromToIndex_8c36e_9 : decode cJ3_checkFromToIndex_8c36e 9 = .ok (.iload_n 1, 1) := by decide +kernel
theorem dJ3_checkFromToIndex_8c36e_10 : decode cJ3_checkFromToIndex_8c36e 10 = .ok (.iload_n 2, 1) := by decide +kernel
theorem dJ3_checkFromToIndex_8c36e_11 : decode cJ3_checkFromToIndex_8c36e 11 = .ok (.if_icmp .le 11, 3) := by decide +kernel
theorem dJ3_checkFromToIndex_8c36e_14 : decode cJ3_checkFromToIndex_8c36e 14 = .ok (.aload_n 3, 1) := by decide +kernel
theorem dJ3_checkFromToIndex_8c36e_15 : decode cJ3_checkFromToIndex_8c36e 15 = .ok (.iload_n 0, 1) := by decide +kernel
theorem dJ3_checkFromToIndex_8c36e_16 : decode cJ3_checkFromToIndex_8c36e 16 = .ok (.iload_n 1, 1) := by decide +kernel
theorem dJ3_checkFromToIndex_8c36e_17 : decode cJ3_checkFromToIndex_8c36e 17 = .ok (.iload_n 2, 1) := by decide +kernel
theorem dJ3_checkFromToIndex_8c36e_18 : decode cJ3_checkFromToIndex_8c36e 18 = .ok (.invokestatic 99, 3) := by decide +kernel
theorem dJ3_checkFromToIndex_8c36e_21 : decode cJ3_checkFromToIndex_8c36e 21 = .ok (.athrow, 1) := by decide +kernel
theorem dJ3_checkFromToIndex_8c36e_22 : decode cJ3_checkFromToIndex_8c36e 22 = .ok (.iload_n 0, 1) := by decide +kernel
theorem dJ3_checkFromToIndex_8c36e_23 : decode cJ3_checkFromToIndex_8c36e 23 = .ok (.ireturn, 1) := by decide +kernel
theorem dJ3_checkFromIndexSize_8c36e_0 : decode cJ3_checkFromIndexSize_8c36e 0 = .ok (.iload_n 2, 1) := by decide +kernel
theorem dJ3_checkFromIndexSize_8c36e_1 : decode cJ3_checkFromIndexSize_8c36e 1 = .ok (.iload_n 0, 1) := by decide +kernel
theorem dJ3_checkFromIndexSize_8c36e_2 : decode cJ3_checkFromIndexSize_8c36e 2 = .ok (.ior, 1) := by decide +kernel
theorem dJ3_checkFromIndexSize_8c36e_3 : decode cJ3_checkFromIndexSize_8c36e 3 = .ok (.iload_n 1, 1) := by decide +kernel
theorem dJ3_checkFromIndexSize_8c36e_4 : decode cJ3_checkFromIndexSize_8c36e 4 = .ok (.ior, 1) := by decide +kernel
theorem dJ3_checkFromIndexSize_8c36e_5 : decode cJ3_checkFromIndexSize_8c36e 5 = .ok (.ifCond .lt 10, 3) := by decide +kernel
theorem dJ3_checkFromIndexSize_8c36e_8 : decode cJ3_checkFromIndexSize_8c36e 8 = .ok (.iload_n 1, 1) := by decide +kernel
theorem dJ3_checkFromIndexSize_8c36e_9 : decode cJ3_checkFromIndexSize_8c36e 9 = .ok (.iload_n 2, 1) := by decide +kernel
theorem dJ3_checkFromIndexSize_8c36e_10 : decode cJ3_checkFromIndexSize_8c36e 10 = .ok (.iload_n 0, 1) := by decide +kernel
theorem dJ3_checkFromIndexSize_8c36e_11 : decode cJ3_checkFromIndexSize_8c36e 11 = .ok (.isub, 1) := by decide +kernel
theorem dJ3_checkFromIndexSize_8c36e_12 : decode cJ3_checkFromIndexSize_8c36e 12 = .ok (.if_icmp .le 11, 3) := by decide +kernel
theorem dJ3_checkFromIndexSize_8c36e_15 : decode cJ3_checkFromIndexSize_8c36e 15 = .ok (.aload_n 3, 1) := by decide +kernel
theorem dJ3_checkFromIndexSize_8c36e_16 : decode cJ3_checkFromIndexSize_8c36e 16 = .ok (.iload_n 0, 1) := by decide +kernel
theorem dJ3_checkFromIndexSize_8c36e_17 : decode cJ3_checkFromIndexSize_8c36e 17 = .ok (.iload_n 1, 1) := by decide +kernel
theorem dJ3_checkFromIndexSize_8c36e_18 : decode cJ3_checkFromIndexSize_8c36e 18 = .ok (.iload_n 2, 1) := by decide +kernel
theorem dJ3_checkFromIndexSize_8c36e_19 : decode cJ3_checkFromIndexSize_8c36e 19 = .ok (.invokestatic 103, 3) := by decide +kernel
theorem dJ3_checkFromIndexSize_8c36e_22 : decode cJ3_checkFromIndexSize_8c36e 22 = .ok (.athrow, 1) := by decide +kernel
theorem dJ3_checkFromIndexSize_8c36e_23 : decode cJ3_checkFromIndexSize_8c36e 23 = .ok (.iload_n 0, 1) := by decide +kernel
theorem dJ3_checkFromIndexSize_8c36e_24 : decode cJ3_checkFromIndexSize_8c36e 24 = .ok (.ireturn, 1) := by decide +kernel
end
section
theorem dX0_init_0 : decode cX0_init 0 = .ok (.aload_n 0, 1) := by decide +kernel
theorem dX0_init_1 : decode cX0_init 1 = .ok (.iload_n 1, 1) := by decide +kernel
theorem dX0_init_2 : decode cX0_init 2 = .ok (.iconst 1, 1) := by decide +kernel
theorem dX0_init_3 : decode cX0_init 3 = .ok (.invokestatic 1, 3) := by decide +kernel
theorem dX0_init_6 : decode cX0_init 6 = .ok (.newarray .byte, 2) := by decide +kernel
theorem dX0_init_8 : decode cX0_init 8 = .ok (.iconst 0, 1) := by decide +kernel
theorem dX0_init_9 : decode cX0_init 9 = .ok (.iconst 0, 1) := by decide +kernel
theorem dX0_init_10 : decode cX0_init 10 = .ok (.invokespecial 7, 3) := by decide +kernel
theorem dX0_init_13 : decode cX0_init 13 = .ok (.return_, 1) := by decide +kernel
theorem dX0_push_0 : decode cX0_push 0 = .ok (.aload_n 0, 1) := by decide +kernel
theorem dX0_push_1 : decode cX0_push 1 = .ok (.getfield 13, 3) := by decide +kernel
theorem dX0_push_4 : decode cX0_push 4 = .ok (.ifCond .ge 4, 3) := by decide +kernel
theorem dX0_push_7 : decode cX0_push 7 = .ok (.return_, 1) := by decide +kernel
theorem dX0_push_8 : decode cX0_push 8 = .ok (.aload_n 0, 1) := by decide +kernel
theorem dX0_push_9 : decode cX0_push 9 = .ok (.getfield 13, 3) := by decide +kernel
theorem dX0_push_12 : decode cX0_push 12 = .ok (.aload_n 0, 1) := by decide +kernel
theorem dX0_push_13 : decode cX0_push 13 = .ok (.getfield 19, 3) := by decide +kernel
theorem dX0_push_16 : decode cX0_push 16 = .ok (.arraylength, 1) := by decide +kernel
theorem dX0_push_17 : decode cX0_push 17 = .ok (.if_icmp .lt 22, 3) := by decide +kernel
theorem dX0_push_20 : decode cX0_push 20 = .ok (.aload_n 0, 1) := by decide +kernel
theorem dX0_push_21 : decode cX0_push 21 = .ok (.aload_n 0, 1) := by decide +kernel
theorem dX0_push_22 : decode cX0_push 22 = .ok (.getfield 19, 3) := by decide +kernel
theorem dX0_push_25 : decode cX0_push 25 = .ok (.iconst 2, 1) := by decide +kernel
theorem dX0_push_26 : decode cX0_push 26 = .ok (.aload_n 0, 1) := by decide +kernel
theorem dX0_push_27 : decode cX0_push 27 = .ok (.getfield 13, 3) := by decide +kernel
theorem dX0_push_30 : decode cX0_push 30 = .ok (.imul, 1) := by decide +kernel
theorem dX0_push_31 : decode cX0_push 31 = .ok (.iconst 1, 1) := by decide +kernel
theorem dX0_push_32 : decode cX0_push 32 = .ok (.iadd, 1) := by decide +kernel
theorem dX0_push_33 : decode cX0_push 33 = .ok (.invokestatic 23, 3) := by decide +kernel
theorem dX0_push_36 : decode cX0_push 36 = .ok (.putfield 19, 3) := by decide +kernel
theorem dX0_push_39 : decode cX0_push 39 = .ok (.aload_n 0, 1) := by decide +kernel
theorem dX0_push_40 : decode cX0_push 40 = .ok (.getfield 19, 3) := by decide +kernel
theorem dX0_push_43 : decode cX0_push 43 = .ok (.aload_n 0, 1) := by decide +kernel
theorem dX0_push_44 : decode cX0_push 44 = .ok (.getfield 13, 3) := by decide +kernel
theorem dX0_push_47 : decode cX0_push 47 = .ok (.iload_n 1, 1) := by decide +kernel
theorem dX0_push_48 : decode cX0_push 48 = .ok (.i2b, 1) := by decide +kernel
theorem dX0_push_49 : decode cX0_push 49 = .ok (.bastore, 1) := by decide +kernel
theorem dX0_push_50 : decode cX0_push 50 = .ok (.aload_n 0, 1) := by decide +kernel
theorem dX0_push_51 : decode cX0_push 51 = .ok (.dup, 1) := by decide +kernel
theorem dX0_push_52 : decode cX0_push 52 = .ok (.getfield 13, 3) := by decide +kernel
theorem dX0_push_55 : decode cX0_push 55 = .ok (.iconst 1, 1) := by decide +kernel
theorem dX0_push_56 : decode cX0_push 56 = .ok (.iadd, 1) := by decide +kernel
theorem dX0_push_57 : decode cX0_push 57 = .ok (.putfield 13, 3) := by decide +kernel
theorem dX0_push_60 : decode cX0_push 60 = .ok (.return_, 1) := by decide +kernel
theorem dX0_pushSpan_0 : decode cX0_pushSpan 0 = .ok (.iload_n 3, 1) := by decide +kernel
theorem dX0_pushSpan_1 : decode cX0_pushSpan 1 = .ok (.iload_n 2, 1) := by decide +kernel
theorem dX0_pushSpan_2 : decode cX0_pushSpan 2 = .ok (.isub, 1) := by decide +kernel
theorem dX0_pushSpan_3 : decode cX0_pushSpan 3 = .ok (.istore 4, 2) := by decide +kernel
theorem dX0_pushSpan_5 : decode cX0_pushSpan 5 = .ok (.aload_n 1, 1) := by decide +kernel
theorem dX0_pushSpan_6 : decode cX0_pushSpan 6 = .ok (.getfield 33, 3) := by decide +kernel
theorem dX0_pushSpan_9 : decode cX0_pushSpan 9 = .ok (.iload_n 2, 1) := by decide +kernel
theorem dX0_pushSpan_10 : decode cX0_pushSpan 10 = .ok (.iadd, 1) := by decide +kernel
theorem dX0_pushSpan_11 : decode cX0_pushSpan 11 = .ok (.istore 5, 2) := by decide +kernel
theorem dX0_pushSpan_13 : decode cX0_pushSpan 13 = .ok (.aload_n 0, 1) := by decide +kernel
theorem dX0_pushSpan_14 : decode cX0_pushSpan 14 = .ok (.getfield 13, 3) := by decide +kernel
theorem dX0_pushSpan_17 : decode cX0_pushSpan 17 = .ok (.ifCond .lt 20, 3) := by decide +kernel
theorem dX0_pushSpan_20 : decode cX0_pushSpan 20 = .ok (.iload_n 2, 1) := by decide +kernel
theorem dX0_pushSpan_21 : decode cX0_pushSpan 21 = .ok (.ifCond .lt 16, 3) := by decide +kernel
theorem dX0_pushSpan_24 : decode cX0_pushSpan 24 = .ok (.iload 4, 2) := by decide +kernel
theorem dX0_pushSpan_26 : decode cX0_pushSpan 26 = .ok (.ifCond .le 11, 3) := by decide +kernel
theorem dX0_pushSpan_29 : decode cX0_pushSpan 29 = .ok (.iload_n 3, 1) := by decide +kernel
theorem dX0_pushSpan_30 : decode cX0_pushSpan 30 = .ok (.aload_n 1, 1) := by decide +kernel
theorem dX0_pushSpan_31 : decode cX0_pushSpan 31 = .ok (.getfield 36, 3) := by decide +kernel
theorem dX0_pushSpan_34 : decode cX0_pushSpan 34 = .ok (.if_icmp .le 4, 3) := by decide +kernel
theorem dX0_pushSpan_37 : decode cX0_pushSpan 37 = .ok (.return_, 1) := by decide +kernel
theorem dX0_pushSpan_38 : decode cX0_pushSpan 38 = .ok (.iload 5, 2) := by decide +kernel
theorem dX0_pushSpan_40 : decode cX0_pushSpan 40 = .ok (.ifCond .lt 16, 3) := by decide +kernel
theorem dX0_pushSpan_43 : decode cX0_pushSpan 43 = .ok (.iload 4, 2) := by decide +kernel
theorem dX0_pushSpan_45 : decode cX0_pushSpan 45 = .ok (.aload_n 1, 1) := by decide +kernel
theorem dX0_pushSpan_46 : decode cX0_pushSpan 46 = .ok (.getfield 37, 3) := by decide +kernel
theorem dX0_pushSpan_49 : decode cX0_pushSpan 49 = .ok (.arraylength, 1) := by decide +kernel
theorem dX0_pushSpan_50 : decode cX0_pushSpan 50 = .ok (.iload 5, 2) := by decide +kernel
theorem dX0_pushSpan_52 : decode cX0_pushSpan 52 = .ok (.isub, 1) := by decide +kernel
theorem dX0_pushSpan_53 : decode cX0_pushSpan 53 = .ok (.if_icmp .le 4, 3) := by decide +kernel
theorem dX0_pushSpan_56 : decode cX0_pushSpan 56 = .ok (.return_, 1) := by decide +kernel
theorem dX0_pushSpan_57 : decode cX0_pushSpan 57 = .ok (.iload 4, 2) := by decide +kernel
theorem dX0_pushSpan_59 : decode cX0_pushSpan 59 = .ok (.aload_n 0, 1) := by decide +kernel
theorem dX0_pushSpan_60 : decode cX0_pushSpan 60 = .ok (.getfield 19, 3) := by decide +kernel
theorem dX0_pushSpan_63 : decode cX0_pushSpan 63 = .ok (.arraylength, 1) := by decide +kernel
theorem dX0_pushSpan_64 : decode cX0_pushSpan 64 = .ok (.aload_n 0, 1) := by decide +kernel
theorem dX0_pushSpan_65 : decode cX0_pushSpan 65 = .ok (.getfield 13, 3) := by decide +kernel
theorem dX0_pushSpan_68 : decode cX0_pushSpan 68 = .ok (.isub, 1) := by decide +kernel
theorem dX0_pushSpan_69 : decode cX0_pushSpan 69 = .ok (.if_icmp .le 23, 3) := by decide +kernel
theorem dX0_pushSpan_72 : decode cX0_pushSpan 72 = .ok (.aload_n 0, 1) := by decide +kernel
theorem dX0_pushSpan_73 : decode cX0_pushSpan 73 = .ok (.aload_n 0, 1) := by decide +kernel
theorem dX0_pushSpan_74 : decode cX0_pushSpan 74 = .ok (.getfield 19, 3) := by decide +kernel
theorem dX0_pushSpan_77 : decode cX0_pushSpan 77 = .ok (.iconst 2, 1) := by decide +kernel
theorem dX0_pushSpan_78 : decode cX0_pushSpan 78 = .ok (.aload_n 0, 1) := by decide +kernel
theorem dX0_pushSpan_79 : decode cX0_pushSpan 79 = .ok (.getfield 13, 3) := by decide +kernel
theorem dX0_pushSpan_82 : decode cX0_pushSpan 82 = .ok (.iload 4, 2) := by decide +kernel
theorem dX0_pushSpan_84 : decode cX0_pushSpan 84 = .ok (.iadd, 1) := by decide +kernel
theorem dX0_pushSpan_85 : decode cX0_pushSpan 85 = .ok (.imul, 1) := by decide +kernel
theorem dX0_pushSpan_86 : decode cX0_pushSpan 86 = .ok (.invokestatic 23, 3) := by decide +kernel
theorem dX0_pushSpan_89 : decode cX0_pushSpan 89 = .ok (.putfield 19, 3) := by decide +kernel
theorem dX0_pushSpan_92 : decode cX0_pushSpan 92 = .ok (.aload_n 1, 1) := by decide +kernel
theorem dX0_pushSpan_93 : decode cX0_pushSpan 93 = .ok (.getfield 37, 3) := by decide +kernel
theorem dX0_pushSpan_96 : decode cX0_pushSpan 96 = .ok (.iload 5, 2) := by decide +kernel
theorem dX0_pushSpan_98 : decode cX0_pushSpan 98 = .ok (.aload_n 0, 1) := by decide +kernel
theorem dX0_pushSpan_99 : decode cX0_pushSpan 99 = .ok (.getfield 19, 3) := by decide +kernel
theorem dX0_pushSpan_102 : decode cX0_pushSpan 102 = .ok (.aload_n 0, 1) := by decide +kernel
theorem dX0_pushSpan_103 : decode cX0_pushSpan 103 = .ok (.getfield 13, 3) := by decide +kernel
theorem dX0_pushSpan_106 : decode cX0_pushSpan 106 = .ok (.iload 4, 2) := by decide +kernel
theorem dX0_pushSpan_108 : decode cX0_pushSpan 108 = .ok (.invokestatic 38, 3) := by decide +kernel
theorem dX0_pushSpan_111 : decode cX0_pushSpan 111 = .ok (.aload_n 0, 1) := by decide +kernel
theorem dX0_pushSpan_112 : decode cX0_pushSpan 112 = .ok (.dup, 1) := by decide +kernel
theorem dX0_pushSpan_113 : decode cX0_pushSpan 113 = .ok (.getfield 13, 3) := by decide +kernel
theorem dX0_pushSpan_116 : decode cX0_pushSpan 116 = .ok (.iload 4, 2) := by decide +kernel
theorem dX0_pushSpan_118 : decode cX0_pushSpan 118 = .ok (.iadd, 1) := by decide +kernel
theorem dX0_pushSpan_119 : decode cX0_pushSpan 119 = .ok (.putfield 13, 3) := by decide +kernel
theorem dX0_pushSpan_122 : decode cX0_pushSpan 122 = .ok (.return_, 1) := by decide +kernel
theorem dX0_pushText_0 : decode cX0_pushText 0 = .ok (.iconst 0, 1) := by decide +kernel
theorem dX0_pushText_1 : decode cX0_pushText 1 = .ok (.istore_n 2, 1) := by decide +kernel
theorem dX0_pushText_2 : decode cX0_pushText 2 = .ok (.iload_n 2, 1) := by decide +kernel
theorem dX0_pushText_3 : decode cX0_pushText 3 = .ok (.aload_n 1, 1) := by decide +kernel
theorem dX0_pushText_4 : decode cX0_pushText 4 = .ok (.invokevirtual 56, 3) := by decide +kernel
theorem dX0_pushText_7 : decode cX0_pushText 7 = .ok (.if_icmp .ge 18, 3) := by decide +kernel
theorem dX0_pushText_10 : decode cX0_pushText 10 = .ok (.aload_n 0, 1) := by decide +kernel
theorem dX0_pushText_11 : decode cX0_pushText 11 = .ok (.aload_n 1, 1) := by decide +kernel
theorem dX0_pushText_12 : decode cX0_pushText 12 = .ok (.iload_n 2, 1) := by decide +kernel
theorem dX0_pushText_13 : decode cX0_pushText 13 = .ok (.invokevirtual 62, 3) := by decide +kernel
theorem dX0_pushText_16 : decode cX0_pushText 16 = .ok (.invokevirtual 29, 3) := by decide +kernel
theorem dX0_pushText_19 : decode cX0_pushText 19 = .ok (.iinc 2 1, 3) := by decide +kernel
theorem dX0_pushText_22 : decode cX0_pushText 22 = .ok (.goto (-20), 3) := by decide +kernel
theorem dX0_pushText_25 : decode cX0_pushText 25 = .ok (.return_, 1) := by decide +kernel
theorem dX1_init_0 : decode cX1_init 0 = .ok (.aload_n 0, 1) := by decide +kernel
theorem dX1_init_1 : decode cX1_init 1 = .ok (.invokespecial 3, 3) := by decide +kernel
theorem dX1_init_4 : decode cX1_init 4 = .ok (.aload_n 0, 1) := by decide +kernel
theorem dX1_init_5 : decode cX1_init 5 = .ok (.bipush 8, 2) := by decide +kernel
theorem dX1_init_7 : decode cX1_init 7 = .ok (.newarray .int, 2) := by decide +kernel
theorem dX1_init_9 : decode cX1_init 9 = .ok (.putfield 9, 3) := by decide +kernel
theorem dX1_init_12 : decode cX1_init 12 = .ok (.aload_n 0, 1) := by decide +kernel
theorem dX1_init_13 : decode cX1_init 13 = .ok (.bipush 80, 2) := by decide +kernel
theorem dX1_init_15 : decode cX1_init 15 = .ok (.newarray .int, 2) := by decide +kernel
theorem dX1_init_17 : decode cX1_init 17 = .ok (.putfield 15, 3) := by decide +kernel
theorem dX1_init_20 : decode cX1_init 20 = .ok (.return_, 1) := by decide +kernel
theorem dX1_make_0 : decode cX1_make 0 = .ok (.aload_n 0, 1) := by decide +kernel
theorem dX1_make_1 : decode cX1_make 1 = .ok (.iload_n 1, 1) := by decide +kernel
theorem dX1_make_2 : decode cX1_make 2 = .ok (.bipush 8, 2) := by decide +kernel
theorem dX1_make_4 : decode cX1_make 4 = .ok (.if_icmp .ne 7, 3) := by decide +kernel
theorem dX1_make_7 : decode cX1_make 7 = .ok (.iconst 1, 1) := by decide +kernel
theorem dX1_make_8 : decode cX1_make 8 = .ok (.goto 4, 3) := by decide +kernel
theorem dX1_make_11 : decode cX1_make 11 = .ok (.iconst 0, 1) := by decide +kernel
theorem dX1_make_12 : decode cX1_make 12 = .ok (.putfield 18, 3) := by decide +kernel
theorem dX1_make_15 : decode cX1_make 15 = .ok (.iconst 0, 1) := by decide +kernel
theorem dX1_make_16 : decode cX1_make 16 = .ok (.istore_n 3, 1) := by decide +kernel
theorem dX1_make_17 : decode cX1_make 17 = .ok (.iload_n 3, 1) := by decide +kernel
theorem dX1_make_18 : decode cX1_make 18 = .ok (.bipush 8, 2) := by decide +kernel
theorem dX1_make_20 : decode cX1_make 20 = .ok (.if_icmp .ge 35, 3) := by decide +kernel
theorem dX1_make_23 : decode cX1_make 23 = .ok (.aload_n 0, 1) := by decide +kernel
theorem dX1_make_24 : decode cX1_make 24 = .ok (.getfield 9, 3) := by decide +kernel
theorem dX1_make_27 : decode cX1_make 27 = .ok (.iload_n 3, 1) := by decide +kernel
theorem dX1_make_28 : decode cX1_make 28 = .ok (.aload_n 0, 1) := by decide +kernel
theorem dX1_make_29 : decode cX1_make 29 = .ok (.getfield 18, 3) := by decide +kernel
theorem dX1_make_32 : decode cX1_make 32 = .ok (.ifCond .eq 11, 3) := by decide +kernel
theorem dX1_make_35 : decode cX1_make 35 = .ok (.getstatic 22, 3) := by decide +kernel
theorem dX1_make_38 : decode cX1_make 38 = .ok (.iload_n 3, 1) := by decide +kernel
theorem dX1_make_39 : decode cX1_make 39 = .ok (.iaload, 1) := by decide +kernel
theorem dX1_make_40 : decode cX1_make 40 = .ok (.goto 8, 3) := by decide +kernel
theorem dX1_make_43 : decode cX1_make 43 = .ok (.getstatic 25, 3) := by decide +kernel
theorem dX1_make_46 : decode cX1_make 46 = .ok (.iload_n 3, 1) := by decide +kernel
theorem dX1_make_47 : decode cX1_make 47 = .ok (.iaload, 1) := by decide +kernel
theorem dX1_make_48 : decode cX1_make 48 = .ok (.iastore, 1) := by decide +kernel
theorem dX1_make_49 : decode cX1_make 49 = .ok (.iinc 3 1, 3) := by decide +kernel
theorem dX1_make_52 : decode cX1_make 52 = .ok (.goto (-35), 3) := by decide +kernel
theorem dX1_make_55 : decode cX1_make 55 = .ok (.aload_n 2, 1) := by decide +kernel
theorem dX1_make_56 : decode cX1_make 56 = .ok (.getfield 28, 3) := by decide +kernel
theorem dX1_make_59 : decode cX1_make 59 = .ok (.bipush 8, 2) := by decide +kernel
theorem dX1_make_61 : decode cX1_make 61 = .ok (.iadd, 1) := by decide +kernel
theorem dX1_make_62 : decode cX1_make 62 = .ok (.bipush 64, 2) := by decide +kernel
theorem dX1_make_64 : decode cX1_make 64 = .ok (.idiv, 1) := by decide +kernel
theorem dX1_make_65 : decode cX1_make 65 = .ok (.iconst 1, 1) := by decide +kernel
theorem dX1_make_66 : decode cX1_make 66 = .ok (.iadd, 1) := by decide +kernel
theorem dX1_make_67 : decode cX1_make 67 = .ok (.istore_n 3, 1) := by decide +kernel
theorem dX1_make_68 : decode cX1_make 68 = .ok (.iconst 0, 1) := by decide +kernel
theorem dX1_make_69 : decode cX1_make 69 = .ok (.istore 4, 2) := by decide +kernel
theorem dX1_make_71 : decode cX1_make 71 = .ok (.iload 4, 2) := by decide +kernel
theorem dX1_make_73 : decode cX1_make 73 = .ok (.iload_n 3, 1) := by decide +kernel
theorem dX1_make_74 : decode cX1_make 74 = .ok (.if_icmp .ge 86, 3) := by decide +kernel
theorem dX1_make_77 : decode cX1_make 77 = .ok (.iconst 0, 1) := by decide +kernel
theorem dX1_make_78 : decode cX1_make 78 = .ok (.istore 5, 2) := by decide +kernel
theorem dX1_make_80 : decode cX1_make 80 = .ok (.iload 5, 2) := by decide +kernel
theorem dX1_make_82 : decode cX1_make 82 = .ok (.bipush 16, 2) := by decide +kernel
theorem dX1_make_84 : decode cX1_make 84 = .ok (.if_icmp .ge 30, 3) := by decide +kernel
theorem dX1_make_87 : decode cX1_make 87 = .ok (.aload_n 0, 1) := by decide +kernel
theorem dX1_make_88 : decode cX1_make 88 = .ok (.getfield 15, 3) := by decide +kernel
theorem dX1_make_91 : decode cX1_make 91 = .ok (.iload 5, 2) := by decide +kernel
theorem dX1_make_93 : decode cX1_make 93 = .ok (.aload_n 2, 1) := by decide +kernel
theorem dX1_make_94 : decode cX1_make 94 = .ok (.bipush 64, 2) := by decide +kernel
theorem dX1_make_96 : decode cX1_make 96 = .ok (.iload 4, 2) := by decide +kernel
theorem dX1_make_98 : decode cX1_make 98 = .ok (.imul, 1) := by decide +kernel
theorem dX1_make_99 : decode cX1_make 99 = .ok (.iconst 4, 1) := by decide +kernel
theorem dX1_make_100 : decode cX1_make 100 = .ok (.iload 5, 2) := by decide +kernel
theorem dX1_make_102 : decode cX1_make 102 = .ok (.imul, 1) := by decide +kernel
theorem dX1_make_103 : decode cX1_make 103 = .ok (.iadd, 1) := by decide +kernel
theorem dX1_make_104 : decode cX1_make 104 = .ok (.invokestatic 34, 3) := by decide +kernel
theorem dX1_make_107 : decode cX1_make 107 = .ok (.iastore, 1) := by decide +kernel
theorem dX1_make_108 : decode cX1_make 108 = .ok (.iinc 5 1, 3) := by decide +kernel
theorem dX1_make_111 : decode cX1_make 111 = .ok (.goto (-31), 3) := by decide +kernel
theorem dX1_make_114 : decode cX1_make 114 = .ok (.iload 4, 2) := by decide +kernel
theorem dX1_make_116 : decode cX1_make 116 = .ok (.iload_n 3, 1) := by decide +kernel
theorem dX1_make_117 : decode cX1_make 117 = .ok (.iconst 1, 1) := by decide +kernel
theorem dX1_make_118 : decode cX1_make 118 = .ok (.isub, 1) := by decide +kernel
theorem dX1_make_119 : decode cX1_make 119 = .ok (.if_icmp .ne 17, 3) := by decide +kernel
theorem dX1_make_122 : decode cX1_make 122 = .ok (.aload_n 0, 1) := by decide +kernel
theorem dX1_make_123 : decode cX1_make 123 = .ok (.getfield 15, 3) := by decide +kernel
theorem dX1_make_126 : decode cX1_make 126 = .ok (.bipush 15, 2) := by decide +kernel
theorem dX1_make_128 : decode cX1_make 128 = .ok (.bipush 8, 2) := by decide +kernel
theorem dX1_make_130 : decode cX1_make 130 = .ok (.aload_n 2, 1) := by decide +kernel
theorem dX1_make_131 : decode cX1_make 131 = .ok (.getfield 28, 3) := by decide +kernel
theorem dX1_make_134 : decode cX1_make 134 = .ok (.imul, 1) := by decide +kernel
theorem dX1_make_135 : decode cX1_make 135 = .ok (.iastore, 1) := by decide +kernel
theorem dX1_make_136 : decode cX1_make 136 = .ok (.aload_n 0, 1) := by decide +kernel
theorem dX1_make_137 : decode cX1_make 137 = .ok (.getfield 18, 3) := by decide +kernel
theorem dX1_make_140 : decode cX1_make 140 = .ok (.ifCond .eq 10, 3) := by decide +kernel
theorem dX1_make_143 : decode cX1_make 143 = .ok (.aload_n 0, 1) := by decide +kernel
theorem dX1_make_144 : decode cX1_make 144 = .ok (.invokevirtual 38, 3) := by decide +kernel
theorem dX1_make_147 : decode cX1_make 147 = .ok (.goto 7, 3) := by decide +kernel
theorem dX1_make_150 : decode cX1_make 150 = .ok (.aload_n 0, 1) := by decide +kernel
theorem dX1_make_151 : decode cX1_make 151 = .ok (.invokevirtual 41, 3) := by decide +kernel
theorem dX1_make_154 : decode cX1_make 154 = .ok (.iinc 4 1, 3) := by decide +kernel
theorem dX1_make_157 : decode cX1_make 157 = .ok (.goto (-86), 3) := by decide +kernel
theorem dX1_make_160 : decode cX1_make 160 = .ok (.return_, 1) := by decide +kernel
theorem dX1_wordOf_0 : decode cX1_wordOf 0 = .ok (.aload_n 0, 1) := by decide +kernel
theorem dX1_wordOf_1 : decode cX1_wordOf 1 = .ok (.iload_n 1, 1) := by decide +kernel
theorem dX1_wordOf_2 : decode cX1_wordOf 2 = .ok (.iconst 4, 1) := by decide +kernel
theorem dX1_wordOf_3 : decode cX1_wordOf 3 = .ok (.invokevirtual 44, 3) := by decide +kernel
theorem dX1_wordOf_6 : decode cX1_wordOf 6 = .ok (.l2i, 1) := by decide +kernel
theorem dX1_wordOf_7 : decode cX1_wordOf 7 = .ok (.istore_n 2, 1) := by decide +kernel
theorem dX1_wordOf_8 : decode cX1_wordOf 8 = .ok (.aload_n 0, 1) := by decide +kernel
theorem dX1_wordOf_9 : decode cX1_wordOf 9 = .ok (.getfield 28, 3) := by decide +kernel
theorem dX1_wordOf_12 : decode cX1_wordOf 12 = .ok (.iload_n 1, 1) := by decide +kernel
theorem dX1_wordOf_13 : decode cX1_wordOf 13 = .ok (.isub, 1) := by decide +kernel
theorem dX1_wordOf_14 : decode cX1_wordOf 14 = .ok (.istore_n 3, 1) := by decide +kernel
theorem dX1_wordOf_15 : decode cX1_wordOf 15 = .ok (.iload_n 3, 1) := by decide +kernel
theorem dX1_wordOf_16 : decode cX1_wordOf 16 = .ok (.ifCond .lt 24, 3) := by decide +kernel
theorem dX1_wordOf_19 : decode cX1_wordOf 19 = .ok (.iload_n 3, 1) := by decide +kernel
theorem dX1_wordOf_20 : decode cX1_wordOf 20 = .ok (.iconst 4, 1) := by decide +kernel
theorem dX1_wordOf_21 : decode cX1_wordOf 21 = .ok (.if_icmp .ge 19, 3) := by decide +kernel
theorem dX1_wordOf_24 : decode cX1_wordOf 24 = .ok (.iload_n 2, 1) := by decide +kernel
theorem dX1_wordOf_25 : decode cX1_wordOf 25 = .ok (.sipush 128, 3) := by decide +kernel
theorem dX1_wordOf_28 : decode cX1_wordOf 28 = .ok (.bipush 24, 2) := by decide +kernel
theorem dX1_wordOf_30 : decode cX1_wordOf 30 = .ok (.bipush 8, 2) := by decide +kernel
theorem dX1_wordOf_32 : decode cX1_wordOf 32 = .ok (.iload_n 3, 1) := by decide +kernel
theorem dX1_wordOf_33 : decode cX1_wordOf 33 = .ok (.imul, 1) := by decide +kernel
theorem dX1_wordOf_34 : decode cX1_wordOf 34 = .ok (.isub, 1) := by decide +kernel
theorem dX1_wordOf_35 : decode cX1_wordOf 35 = .ok (.ishl, 1) := by decide +kernel
theorem dX1_wordOf_36 : decode cX1_wordOf 36 = .ok (.ior, 1) := by decide +kernel
theorem dX1_wordOf_37 : decode cX1_wordOf 37 = .ok (.goto 4, 3) := by decide +kernel
theorem dX1_wordOf_40 : decode cX1_wordOf 40 = .ok (.iload_n 2, 1) := by decide +kernel
theorem dX1_wordOf_41 : decode cX1_wordOf 41 = .ok (.ireturn, 1) := by decide +kernel
theorem dX1_at_0 : decode cX1_at 0 = .ok (.iload_n 1, 1) := by decide +kernel
theorem dX1_at_1 : decode cX1_at 1 = .ok (.ifCond .lt 34, 3) := by decide +kernel
theorem dX1_at_4 : decode cX1_at 4 = .ok (.iload_n 1, 1) := by decide +kernel
theorem dX1_at_5 : decode cX1_at 5 = .ok (.bipush 32, 2) := by decide +kernel
theorem dX1_at_7 : decode cX1_at 7 = .ok (.if_icmp .ge 28, 3) := by decide +kernel
theorem dX1_at_10 : decode cX1_at 10 = .ok (.aload_n 0, 1) := by decide +kernel
theorem dX1_at_11 : decode cX1_at 11 = .ok (.getfield 9, 3) := by decide +kernel
theorem dX1_at_14 : decode cX1_at 14 = .ok (.iload_n 1, 1) := by decide +kernel
theorem dX1_at_15 : decode cX1_at 15 = .ok (.iconst 2, 1) := by decide +kernel
theorem dX1_at_16 : decode cX1_at 16 = .ok (.ishr, 1) := by decide +kernel
theorem dX1_at_17 : decode cX1_at 17 = .ok (.iaload, 1) := by decide +kernel
theorem dX1_at_18 : decode cX1_at 18 = .ok (.bipush 24, 2) := by decide +kernel
theorem dX1_at_20 : decode cX1_at 20 = .ok (.bipush 8, 2) := by decide +kernel
theorem dX1_at_22 : decode cX1_at 22 = .ok (.iload_n 1, 1) := by decide +kernel
theorem dX1_at_23 : decode cX1_at 23 = .ok (.iconst 3, 1) := by decide +kernel
theorem dX1_at_24 : decode cX1_at 24 = .ok (.iand, 1) := by decide +kernel
theorem dX1_at_25 : decode cX1_at 25 = .ok (.imul, 1) := by decide +kernel
theorem dX1_at_26 : decode cX1_at 26 = .ok (.isub, 1) := by decide +kernel
theorem dX1_at_27 : decode cX1_at 27 = .ok (.iushr, 1) := by decide +kernel
theorem dX1_at_28 : decode cX1_at 28 = .ok (.sipush 255, 3) := by decide +kernel
theorem dX1_at_31 : decode cX1_at 31 = .ok (.iand, 1) := by decide +kernel
theorem dX1_at_32 : decode cX1_at 32 = .ok (.goto 4, 3) := by decide +kernel
theorem dX1_at_35 : decode cX1_at 35 = .ok (.iconst 0, 1) := by decide +kernel
theorem dX1_at_36 : decode cX1_at 36 = .ok (.ireturn, 1) := by decide +kernel
theorem dX1_mixFirst_0 : decode cX1_mixFirst 0 = .ok (.bipush 16, 2) := by decide +kernel
theorem dX1_mixFirst_2 : decode cX1_mixFirst 2 = .ok (.istore_n 1, 1) := by decide +kernel
theorem dX1_mixFirst_3 : decode cX1_mixFirst 3 = .ok (.iload_n 1, 1) := by decide +kernel
theorem dX1_mixFirst_4 : decode cX1_mixFirst 4 = .ok (.bipush 80, 2) := by decide +kernel
theorem dX1_mixFirst_6 : decode cX1_mixFirst 6 = .ok (.if_icmp .ge 62, 3) := by decide +kernel
theorem dX1_mixFirst_9 : decode cX1_mixFirst 9 = .ok (.aload_n 0, 1) := by decide +kernel
theorem dX1_mixFirst_10 : decode cX1_mixFirst 10 = .ok (.getfield 15, 3) := by decide +kernel
theorem dX1_mixFirst_13 : decode cX1_mixFirst 13 = .ok (.iload_n 1, 1) := by decide +kernel
theorem dX1_mixFirst_14 : decode cX1_mixFirst 14 = .ok (.iconst 3, 1) := by decide +kernel
theorem dX1_mixFirst_15 : decode cX1_mixFirst 15 = .ok (.isub, 1) := by decide +kernel
theorem dX1_mixFirst_16 : decode cX1_mixFirst 16 = .ok (.iaload, 1) := by decide +kernel
theorem dX1_mixFirst_17 : decode cX1_mixFirst 17 = .ok (.aload_n 0, 1) := by decide +kernel
theorem dX1_mixFirst_18 : decode cX1_mixFirst 18 = .ok (.getfield 15, 3) := by decide +kernel
theorem dX1_mixFirst_21 : decode cX1_mixFirst 21 = .ok (.iload_n 1, 1) := by decide +kernel
theorem dX1_mixFirst_22 : decode cX1_mixFirst 22 = .ok (.bipush 8, 2) := by decide +kernel
theorem dX1_mixFirst_24 : decode cX1_mixFirst 24 = .ok (.isub, 1) := by decide +kernel
theorem dX1_mixFirst_25 : decode cX1_mixFirst 25 = .ok (.iaload, 1) := by decide +kernel
theorem dX1_mixFirst_26 : decode cX1_mixFirst 26 = .ok (.ixor, 1) := by decide +kernel
theorem dX1_mixFirst_27 : decode cX1_mixFirst 27 = .ok (.aload_n 0, 1) := by decide +kernel
theorem dX1_mixFirst_28 : decode cX1_mixFirst 28 = .ok (.getfield 15, 3) := by decide +kernel
theorem dX1_mixFirst_31 : decode cX1_mixFirst 31 = .ok (.iload_n 1, 1) := by decide +kernel
theorem dX1_mixFirst_32 : decode cX1_mixFirst 32 = .ok (.bipush 14, 2) := by decide +kernel
theorem dX1_mixFirst_34 : decode cX1_mixFirst 34 = .ok (.isub, 1) := by decide +kernel
theorem dX1_mixFirst_35 : decode cX1_mixFirst 35 = .ok (.iaload, 1) := by decide +kernel
theorem dX1_mixFirst_36 : decode cX1_mixFirst 36 = .ok (.ixor, 1) := by decide +kernel
theorem dX1_mixFirst_37 : decode cX1_mixFirst 37 = .ok (.aload_n 0, 1) := by decide +kernel
theorem dX1_mixFirst_38 : decode cX1_mixFirst 38 = .ok (.getfield 15, 3) := by decide +kernel
theorem dX1_mixFirst_41 : decode cX1_mixFirst 41 = .ok (.iload_n 1, 1) := by decide +kernel
theorem dX1_mixFirst_42 : decode cX1_mixFirst 42 = .ok (.bipush 16, 2) := by decide +kernel
theorem dX1_mixFirst_44 : decode cX1_mixFirst 44 = .ok (.isub, 1) := by decide +kernel
theorem dX1_mixFirst_45 : decode cX1_mixFirst 45 = .ok (.iaload, 1) := by decide +kernel
theorem dX1_mixFirst_46 : decode cX1_mixFirst 46 = .ok (.ixor, 1) := by decide +kernel
theorem dX1_mixFirst_47 : decode cX1_mixFirst 47 = .ok (.istore_n 2, 1) := by decide +kernel
theorem dX1_mixFirst_48 : decode cX1_mixFirst 48 = .ok (.aload_n 0, 1) := by decide +kernel
theorem dX1_mixFirst_49 : decode cX1_mixFirst 49 = .ok (.getfield 15, 3) := by decide +kernel
theorem dX1_mixFirst_52 : decode cX1_mixFirst 52 = .ok (.iload_n 1, 1) := by decide +kernel
theorem dX1_mixFirst_53 : decode cX1_mixFirst 53 = .ok (.iload_n 2, 1) := by decide +kernel
theorem dX1_mixFirst_54 : decode cX1_mixFirst 54 = .ok (.iconst 1, 1) := by decide +kernel
theorem dX1_mixFirst_55 : decode cX1_mixFirst 55 = .ok (.ishl, 1) := by decide +kernel
theorem dX1_mixFirst_56 : decode cX1_mixFirst 56 = .ok (.iload_n 2, 1) := by decide +kernel
theorem dX1_mixFirst_57 : decode cX1_mixFirst 57 = .ok (.bipush 31, 2) := by decide +kernel
theorem dX1_mixFirst_59 : decode cX1_mixFirst 59 = .ok (.iushr, 1) := by decide +kernel
theorem dX1_mixFirst_60 : decode cX1_mixFirst 60 = .ok (.ior, 1) := by decide +kernel
theorem dX1_mixFirst_61 : decode cX1_mixFirst 61 = .ok (.iastore, 1) := by decide +kernel
theorem dX1_mixFirst_62 : decode cX1_mixFirst 62 = .ok (.iinc 1 1, 3) := by decide +kernel
theorem dX1_mixFirst_65 : decode cX1_mixFirst 65 = .ok (.goto (-62), 3) := by decide +kernel
theorem dX1_mixFirst_68 : decode cX1_mixFirst 68 = .ok (.aload_n 0, 1) := by decide +kernel
theorem dX1_mixFirst_69 : decode cX1_mixFirst 69 = .ok (.getfield 9, 3) := by decide +kernel
theorem dX1_mixFirst_72 : decode cX1_mixFirst 72 = .ok (.iconst 0, 1) := by decide +kernel
theorem dX1_mixFirst_73 : decode cX1_mixFirst 73 = .ok (.iaload, 1) := by decide +kernel
theorem dX1_mixFirst_74 : decode cX1_mixFirst 74 = .ok (.istore_n 1, 1) := by decide +kernel
theorem dX1_mixFirst_75 : decode cX1_mixFirst 75 = .ok (.aload_n 0, 1) := by decide +kernel
theorem dX1_mixFirst_76 : decode cX1_mixFirst 76 = .ok (.getfield 9, 3) := by decide +kernel
theorem dX1_mixFirst_79 : decode cX1_mixFirst 79 = .ok (.iconst 1, 1) := by decide +kernel
theorem dX1_mixFirst_80 : decode cX1_mixFirst 80 = .ok (.iaload, 1) := by decide +kernel
theorem dX1_mixFirst_81 : decode cX1_mixFirst 81 = .ok (.istore_n 2, 1) := by decide +kernel
theorem dX1_mixFirst_82 : decode cX1_mixFirst 82 = .ok (.aload_n 0, 1) := by decide +kernel
theorem dX1_mixFirst_83 : decode cX1_mixFirst 83 = .ok (.getfield 9, 3) := by decide +kernel
theorem dX1_mixFirst_86 : decode cX1_mixFirst 86 = .ok (.iconst 2, 1) := by decide +kernel
theorem dX1_mixFirst_87 : decode cX1_mixFirst 87 = .ok (.iaload, 1) := by decide +kernel
theorem dX1_mixFirst_88 : decode cX1_mixFirst 88 = .ok (.istore_n 3, 1) := by decide +kernel
theorem dX1_mixFirst_89 : decode cX1_mixFirst 89 = .ok (.aload_n 0, 1) := by decide +kernel
theorem dX1_mixFirst_90 : decode cX1_mixFirst 90 = .ok (.getfield 9, 3) := by decide +kernel
theorem dX1_mixFirst_93 : decode cX1_mixFirst 93 = .ok (.iconst 3, 1) := by decide +kernel
theorem dX1_mixFirst_94 : decode cX1_mixFirst 94 = .ok (.iaload, 1) := by decide +kernel
theorem dX1_mixFirst_95 : decode cX1_mixFirst 95 = .ok (.istore 4, 2) := by decide +kernel
theorem dX1_mixFirst_97 : decode cX1_mixFirst 97 = .ok (.aload_n 0, 1) := by decide +kernel
theorem dX1_mixFirst_98 : decode cX1_mixFirst 98 = .ok (.getfield 9, 3) := by decide +kernel
theorem dX1_mixFirst_101 : decode cX1_mixFirst 101 = .ok (.iconst 4, 1) := by decide +kernel
theorem dX1_mixFirst_102 : decode cX1_mixFirst 102 = .ok (.iaload, 1) := by decide +kernel
theorem dX1_mixFirst_103 : decode cX1_mixFirst 103 = .ok (.istore 5, 2) := by decide +kernel
theorem dX1_mixFirst_105 : decode cX1_mixFirst 105 = .ok (.iconst 0, 1) := by decide +kernel
theorem dX1_mixFirst_106 : decode cX1_mixFirst 106 = .ok (.istore 6, 2) := by decide +kernel
theorem dX1_mixFirst_108 : decode cX1_mixFirst 108 = .ok (.iload 6, 2) := by decide +kernel
theorem dX1_mixFirst_110 : decode cX1_mixFirst 110 = .ok (.bipush 80, 2) := by decide +kernel
theorem dX1_mixFirst_112 : decode cX1_mixFirst 112 = .ok (.if_icmp .ge 139, 3) := by decide +kernel
theorem dX1_mixFirst_115 : decode cX1_mixFirst 115 = .ok (.iload 6, 2) := by decide +kernel
theorem dX1_mixFirst_117 : decode cX1_mixFirst 117 = .ok (.bipush 20, 2) := by decide +kernel
theorem dX1_mixFirst_119 : decode cX1_mixFirst 119 = .ok (.if_icmp .ge 21, 3) := by decide +kernel
theorem dX1_mixFirst_122 : decode cX1_mixFirst 122 = .ok (.iload_n 2, 1) := by decide +kernel
theorem dX1_mixFirst_123 : decode cX1_mixFirst 123 = .ok (.iload_n 3, 1) := by decide +kernel
theorem dX1_mixFirst_124 : decode cX1_mixFirst 124 = .ok (.iand, 1) := by decide +kernel
theorem dX1_mixFirst_125 : decode cX1_mixFirst 125 = .ok (.iload_n 2, 1) := by decide +kernel
theorem dX1_mixFirst_126 : decode cX1_mixFirst 126 = .ok (.iconst (-1), 1) := by decide +kernel
theorem dX1_mixFirst_127 : decode cX1_mixFirst 127 = .ok (.ixor, 1) := by decide +kernel
theorem dX1_mixFirst_128 : decode cX1_mixFirst 128 = .ok (.iload 4, 2) := by decide +kernel
theorem dX1_mixFirst_130 : decode cX1_mixFirst 130 = .ok (.iand, 1) := by decide +kernel
theorem dX1_mixFirst_131 : decode cX1_mixFirst 131 = .ok (.ior, 1) := by decide +kernel
theorem dX1_mixFirst_132 : decode cX1_mixFirst 132 = .ok (.ldc 48, 2) := by decide +kernel
theorem dX1_mixFirst_134 : decode cX1_mixFirst 134 = .ok (.iadd, 1) := by decide +kernel
theorem dX1_mixFirst_135 : decode cX1_mixFirst 135 = .ok (.istore 7, 2) := by decide +kernel
theorem dX1_mixFirst_137 : decode cX1_mixFirst 137 = .ok (.goto 63, 3) := by decide +kernel
theorem dX1_mixFirst_140 : decode cX1_mixFirst 140 = .ok (.iload 6, 2) := by decide +kernel
theorem dX1_mixFirst_142 : decode cX1_mixFirst 142 = .ok (.bipush 40, 2) := by decide +kernel
theorem dX1_mixFirst_144 : decode cX1_mixFirst 144 = .ok (.if_icmp .ge 17, 3) := by decide +kernel
theorem dX1_mixFirst_147 : decode cX1_mixFirst 147 = .ok (.iload_n 2, 1) := by decide +kernel
theorem dX1_mixFirst_148 : decode cX1_mixFirst 148 = .ok (.iload_n 3, 1) := by decide +kernel
theorem dX1_mixFirst_149 : decode cX1_mixFirst 149 = .ok (.ixor, 1) := by decide +kernel
theorem dX1_mixFirst_150 : decode cX1_mixFirst 150 = .ok (.iload 4, 2) := by decide +kernel
theorem dX1_mixFirst_152 : decode cX1_mixFirst 152 = .ok (.ixor, 1) := by decide +kernel
theorem dX1_mixFirst_153 : decode cX1_mixFirst 153 = .ok (.ldc 49, 2) := by decide +kernel
theorem dX1_mixFirst_155 : decode cX1_mixFirst 155 = .ok (.iadd, 1) := by decide +kernel
theorem dX1_mixFirst_156 : decode cX1_mixFirst 156 = .ok (.istore 7, 2) := by decide +kernel
theorem dX1_mixFirst_158 : decode cX1_mixFirst 158 = .ok (.goto 42, 3) := by decide +kernel
theorem dX1_mixFirst_161 : decode cX1_mixFirst 161 = .ok (.iload 6, 2) := by decide +kernel
theorem dX1_mixFirst_163 : decode cX1_mixFirst 163 = .ok (.bipush 60, 2) := by decide +kernel
theorem dX1_mixFirst_165 : decode cX1_mixFirst 165 = .ok (.if_icmp .ge 24, 3) := by decide +kernel
theorem dX1_mixFirst_168 : decode cX1_mixFirst 168 = .ok (.iload_n 2, 1) := by decide +kernel
theorem dX1_mixFirst_169 : decode cX1_mixFirst 169 = .ok (.iload_n 3, 1) := by decide +kernel
theorem dX1_mixFirst_170 : decode cX1_mixFirst 170 = .ok (.iand, 1) := by decide +kernel
theorem dX1_mixFirst_171 : decode cX1_mixFirst 171 = .ok (.iload_n 2, 1) := by decide +kernel
theorem dX1_mixFirst_172 : decode cX1_mixFirst 172 = .ok (.iload 4, 2) := by decide +kernel
theorem dX1_mixFirst_174 : decode cX1_mixFirst 174 = .ok (.iand, 1) := by decide +kernel
theorem dX1_mixFirst_175 : decode cX1_mixFirst 175 = .ok (.ior, 1) := by decide +kernel
theorem dX1_mixFirst_176 : decode cX1_mixFirst 176 = .ok (.iload_n 3, 1) := by decide +kernel
theorem dX1_mixFirst_177 : decode cX1_mixFirst 177 = .ok (.iload 4, 2) := by decide +kernel
theorem dX1_mixFirst_179 : decode cX1_mixFirst 179 = .ok (.iand, 1) := by decide +kernel
theorem dX1_mixFirst_180 : decode cX1_mixFirst 180 = .ok (.ior, 1) := by decide +kernel
theorem dX1_mixFirst_181 : decode cX1_mixFirst 181 = .ok (.ldc 50, 2) := by decide +kernel
theorem dX1_mixFirst_183 : decode cX1_mixFirst 183 = .ok (.iadd, 1) := by decide +kernel
theorem dX1_mixFirst_184 : decode cX1_mixFirst 184 = .ok (.istore 7, 2) := by decide +kernel
theorem dX1_mixFirst_186 : decode cX1_mixFirst 186 = .ok (.goto 14, 3) := by decide +kernel
theorem dX1_mixFirst_189 : decode cX1_mixFirst 189 = .ok (.iload_n 2, 1) := by decide +kernel
theorem dX1_mixFirst_190 : decode cX1_mixFirst 190 = .ok (.iload_n 3, 1) := by decide +kernel
theorem dX1_mixFirst_191 : decode cX1_mixFirst 191 = .ok (.ixor, 1) := by decide +kernel
theorem dX1_mixFirst_192 : decode cX1_mixFirst 192 = .ok (.iload 4, 2) := by decide +kernel
theorem dX1_mixFirst_194 : decode cX1_mixFirst 194 = .ok (.ixor, 1) := by decide +kernel
theorem dX1_mixFirst_195 : decode cX1_mixFirst 195 = .ok (.ldc 51, 2) := by decide +kernel
theorem dX1_mixFirst_197 : decode cX1_mixFirst 197 = .ok (.iadd, 1) := by decide +kernel
theorem dX1_mixFirst_198 : decode cX1_mixFirst 198 = .ok (.istore 7, 2) := by decide +kernel
theorem dX1_mixFirst_200 : decode cX1_mixFirst 200 = .ok (.iload_n 1, 1) := by decide +kernel
theorem dX1_mixFirst_201 : decode cX1_mixFirst 201 = .ok (.iconst 5, 1) := by decide +kernel
theorem dX1_mixFirst_202 : decode cX1_mixFirst 202 = .ok (.ishl, 1) := by decide +kernel
theorem dX1_mixFirst_203 : decode cX1_mixFirst 203 = .ok (.iload_n 1, 1) := by decide +kernel
theorem dX1_mixFirst_204 : decode cX1_mixFirst 204 = .ok (.bipush 27, 2) := by decide +kernel
theorem dX1_mixFirst_206 : decode cX1_mixFirst 206 = .ok (.iushr, 1) := by decide +kernel
theorem dX1_mixFirst_207 : decode cX1_mixFirst 207 = .ok (.ior, 1) := by decide +kernel
theorem dX1_mixFirst_208 : decode cX1_mixFirst 208 = .ok (.iload 7, 2) := by decide +kernel
theorem dX1_mixFirst_210 : decode cX1_mixFirst 210 = .ok (.iadd, 1) := by decide +kernel
theorem dX1_mixFirst_211 : decode cX1_mixFirst 211 = .ok (.iload 5, 2) := by decide +kernel
theorem dX1_mixFirst_213 : decode cX1_mixFirst 213 = .ok (.iadd, 1) := by decide +kernel
theorem dX1_mixFirst_214 : decode cX1_mixFirst 214 = .ok (.aload_n 0, 1) := by decide +kernel
theorem dX1_mixFirst_215 : decode cX1_mixFirst 215 = .ok (.getfield 15, 3) := by decide +kernel
theorem dX1_mixFirst_218 : decode cX1_mixFirst 218 = .ok (.iload 6, 2) := by decide +kernel
theorem dX1_mixFirst_220 : decode cX1_mixFirst 220 = .ok (.iaload, 1) := by decide +kernel
theorem dX1_mixFirst_221 : decode cX1_mixFirst 221 = .ok (.iadd, 1) := by decide +kernel
theorem dX1_mixFirst_222 : decode cX1_mixFirst 222 = .ok (.istore 8, 2) := by decide +kernel
theorem dX1_mixFirst_224 : decode cX1_mixFirst 224 = .ok (.iload 4, 2) := by decide +kernel
theorem dX1_mixFirst_226 : decode cX1_mixFirst 226 = .ok (.istore 5, 2) := by decide +kernel
theorem dX1_mixFirst_228 : decode cX1_mixFirst 228 = .ok (.iload_n 3, 1) := by decide +kernel
theorem dX1_mixFirst_229 : decode cX1_mixFirst 229 = .ok (.istore 4, 2) := by decide +kernel
theorem dX1_mixFirst_231 : decode cX1_mixFirst 231 = .ok (.iload_n 2, 1) := by decide +kernel
theorem dX1_mixFirst_232 : decode cX1_mixFirst 232 = .ok (.bipush 30, 2) := by decide +kernel
theorem dX1_mixFirst_234 : decode cX1_mixFirst 234 = .ok (.ishl, 1) := by decide +kernel
theorem dX1_mixFirst_235 : decode cX1_mixFirst 235 = .ok (.iload_n 2, 1) := by decide +kernel
theorem dX1_mixFirst_236 : decode cX1_mixFirst 236 = .ok (.iconst 2, 1) := by decide +kernel
theorem dX1_mixFirst_237 : decode cX1_mixFirst 237 = .ok (.iushr, 1) := by decide +kernel
theorem dX1_mixFirst_238 : decode cX1_mixFirst 238 = .ok (.ior, 1) := by decide +kernel
theorem dX1_mixFirst_239 : decode cX1_mixFirst 239 = .ok (.istore_n 3, 1) := by decide +kernel
theorem dX1_mixFirst_240 : decode cX1_mixFirst 240 = .ok (.iload_n 1, 1) := by decide +kernel
theorem dX1_mixFirst_241 : decode cX1_mixFirst 241 = .ok (.istore_n 2, 1) := by decide +kernel
theorem dX1_mixFirst_242 : decode cX1_mixFirst 242 = .ok (.iload 8, 2) := by decide +kernel
theorem dX1_mixFirst_244 : decode cX1_mixFirst 244 = .ok (.istore_n 1, 1) := by decide +kernel
theorem dX1_mixFirst_245 : decode cX1_mixFirst 245 = .ok (.iinc 6 1, 3) := by decide +kernel
theorem dX1_mixFirst_248 : decode cX1_mixFirst 248 = .ok (.goto (-140), 3) := by decide +kernel
theorem dX1_mixFirst_251 : decode cX1_mixFirst 251 = .ok (.aload_n 0, 1) := by decide +kernel
theorem dX1_mixFirst_252 : decode cX1_mixFirst 252 = .ok (.getfield 9, 3) := by decide +kernel
theorem dX1_mixFirst_255 : decode cX1_mixFirst 255 = .ok (.iconst 0, 1) := by decide +kernel
theorem dX1_mixFirst_256 : decode cX1_mixFirst 256 = .ok (.dup2, 1) := by decide +kernel
theorem dX1_mixFirst_257 : decode cX1_mixFirst 257 = .ok (.iaload, 1) := by decide +kernel
theorem dX1_mixFirst_258 : decode cX1_mixFirst 258 = .ok (.iload_n 1, 1) := by decide +kernel
theorem dX1_mixFirst_259 : decode cX1_mixFirst 259 = .ok (.iadd, 1) := by decide +kernel
theorem dX1_mixFirst_260 : decode cX1_mixFirst 260 = .ok (.iastore, 1) := by decide +kernel
theorem dX1_mixFirst_261 : decode cX1_mixFirst 261 = .ok (.aload_n 0, 1) := by decide +kernel
theorem dX1_mixFirst_262 : decode cX1_mixFirst 262 = .ok (.getfield 9, 3) := by decide +kernel
theorem dX1_mixFirst_265 : decode cX1_mixFirst 265 = .ok (.iconst 1, 1) := by decide +kernel
theorem dX1_mixFirst_266 : decode cX1_mixFirst 266 = .ok (.dup2, 1) := by decide +kernel
theorem dX1_mixFirst_267 : decode cX1_mixFirst 267 = .ok (.iaload, 1) := by decide +kernel
theorem dX1_mixFirst_268 : decode cX1_mixFirst 268 = .ok (.iload_n 2, 1) := by decide +kernel
theorem dX1_mixFirst_269 : decode cX1_mixFirst 269 = .ok (.iadd, 1) := by decide +kernel
theorem dX1_mixFirst_270 : decode cX1_mixFirst 270 = .ok (.iastore, 1) := by decide +kernel
theorem dX1_mixFirst_271 : decode cX1_mixFirst 271 = .ok (.aload_n 0, 1) := by decide +kernel
theorem dX1_mixFirst_272 : decode cX1_mixFirst 272 = .ok (.getfield 9, 3) := by decide +kernel
theorem dX1_mixFirst_275 : decode cX1_mixFirst 275 = .ok (.iconst 2, 1) := by decide +kernel
theorem dX1_mixFirst_276 : decode cX1_mixFirst 276 = .ok (.dup2, 1) := by decide +kernel
theorem dX1_mixFirst_277 : decode cX1_mixFirst 277 = .ok (.iaload, 1) := by decide +kernel
theorem dX1_mixFirst_278 : decode cX1_mixFirst 278 = .ok (.iload_n 3, 1) := by decide +kernel
theorem dX1_mixFirst_279 : decode cX1_mixFirst 279 = .ok (.iadd, 1) := by decide +kernel
theorem dX1_mixFirst_280 : decode cX1_mixFirst 280 = .ok (.iastore, 1) := by decide +kernel
theorem dX1_mixFirst_281 : decode cX1_mixFirst 281 = .ok (.aload_n 0, 1) := by decide +kernel
theorem dX1_mixFirst_282 : decode cX1_mixFirst 282 = .ok (.getfield 9, 3) := by decide +kernel
theorem dX1_mixFirst_285 : decode cX1_mixFirst 285 = .ok (.iconst 3, 1) := by decide +kernel
theorem dX1_mixFirst_286 : decode cX1_mixFirst 286 = .ok (.dup2, 1) := by decide +kernel
theorem dX1_mixFirst_287 : decode cX1_mixFirst 287 = .ok (.iaload, 1) := by decide +kernel
theorem dX1_mixFirst_288 : decode cX1_mixFirst 288 = .ok (.iload 4, 2) := by decide +kernel
theorem dX1_mixFirst_290 : decode cX1_mixFirst 290 = .ok (.iadd, 1) := by decide +kernel
theorem dX1_mixFirst_291 : decode cX1_mixFirst 291 = .ok (.iastore, 1) := by decide +kernel
theorem dX1_mixFirst_292 : decode cX1_mixFirst 292 = .ok (.aload_n 0, 1) := by decide +kernel
theorem dX1_mixFirst_293 : decode cX1_mixFirst 293 = .ok (.getfield 9, 3) := by decide +kernel
theorem dX1_mixFirst_296 : decode cX1_mixFirst 296 = .ok (.iconst 4, 1) := by decide +kernel
theorem dX1_mixFirst_297 : decode cX1_mixFirst 297 = .ok (.dup2, 1) := by decide +kernel
theorem dX1_mixFirst_298 : decode cX1_mixFirst 298 = .ok (.iaload, 1) := by decide +kernel
theorem dX1_mixFirst_299 : decode cX1_mixFirst 299 = .ok (.iload 5, 2) := by decide +kernel
theorem dX1_mixFirst_301 : decode cX1_mixFirst 301 = .ok (.iadd, 1) := by decide +kernel
theorem dX1_mixFirst_302 : decode cX1_mixFirst 302 = .ok (.iastore, 1) := by decide +kernel
theorem dX1_mixFirst_303 : decode cX1_mixFirst 303 = .ok (.return_, 1) := by decide +kernel
theorem dX1_mixSecond_0 : decode cX1_mixSecond 0 = .ok (.bipush 16, 2) := by decide +kernel
theorem dX1_mixSecond_2 : decode cX1_mixSecond 2 = .ok (.istore_n 1, 1) := by decide +kernel
theorem dX1_mixSecond_3 : decode cX1_mixSecond 3 = .ok (.iload_n 1, 1) := by decide +kernel
theorem dX1_mixSecond_4 : decode cX1_mixSecond 4 = .ok (.bipush 64, 2) := by decide +kernel
theorem dX1_mixSecond_6 : decode cX1_mixSecond 6 = .ok (.if_icmp .ge 102, 3) := by decide +kernel
theorem dX1_mixSecond_9 : decode cX1_mixSecond 9 = .ok (.aload_n 0, 1) := by decide +kernel
theorem dX1_mixSecond_10 : decode cX1_mixSecond 10 = .ok (.getfield 15, 3) := by decide +kernel
theorem dX1_mixSecond_13 : decode cX1_mixSecond 13 = .ok (.iload_n 1, 1) := by decide +kernel
theorem dX1_mixSecond_14 : decode cX1_mixSecond 14 = .ok (.bipush 15, 2) := by decide +kernel
theorem dX1_mixSecond_16 : decode cX1_mixSecond 16 = .ok (.isub, 1) := by decide +kernel
theorem dX1_mixSecond_17 : decode cX1_mixSecond 17 = .ok (.iaload, 1) := by decide +kernel
theorem dX1_mixSecond_18 : decode cX1_mixSecond 18 = .ok (.istore_n 2, 1) := by decide +kernel
theorem dX1_mixSecond_19 : decode cX1_mixSecond 19 = .ok (.aload_n 0, 1) := by decide +kernel
theorem dX1_mixSecond_20 : decode cX1_mixSecond 20 = .ok (.getfield 15, 3) := by decide +kernel
theorem dX1_mixSecond_23 : decode cX1_mixSecond 23 = .ok (.iload_n 1, 1) := by decide +kernel
theorem dX1_mixSecond_24 : decode cX1_mixSecond 24 = .ok (.iconst 2, 1) := by decide +kernel
theorem dX1_mixSecond_25 : decode cX1_mixSecond 25 = .ok (.isub, 1) := by decide +kernel
theorem dX1_mixSecond_26 : decode cX1_mixSecond 26 = .ok (.iaload, 1) := by decide +kernel
theorem dX1_mixSecond_27 : decode cX1_mixSecond 27 = .ok (.istore_n 3, 1) := by decide +kernel
theorem dX1_mixSecond_28 : decode cX1_mixSecond 28 = .ok (.aload_n 0, 1) := by decide +kernel
theorem dX1_mixSecond_29 : decode cX1_mixSecond 29 = .ok (.getfield 15, 3) := by decide +kernel
theorem dX1_mixSecond_32 : decode cX1_mixSecond 32 = .ok (.iload_n 1, 1) := by decide +kernel
theorem dX1_mixSecond_33 : decode cX1_mixSecond 33 = .ok (.iload_n 2, 1) := by decide +kernel
theorem dX1_mixSecond_34 : decode cX1_mixSecond 34 = .ok (.bipush 7, 2) := by decide +kernel
theorem dX1_mixSecond_36 : decode cX1_mixSecond 36 = .ok (.iushr, 1) := by decide +kernel
theorem dX1_mixSecond_37 : decode cX1_mixSecond 37 = .ok (.iload_n 2, 1) := by decide +kernel
theorem dX1_mixSecond_38 : decode cX1_mixSecond 38 = .ok (.bipush 25, 2) := by decide +kernel
theorem dX1_mixSecond_40 : decode cX1_mixSecond 40 = .ok (.ishl, 1) := by decide +kernel
theorem dX1_mixSecond_41 : decode cX1_mixSecond 41 = .ok (.ior, 1) := by decide +kernel
theorem dX1_mixSecond_42 : decode cX1_mixSecond 42 = .ok (.iload_n 2, 1) := by decide +kernel
theorem dX1_mixSecond_43 : decode cX1_mixSecond 43 = .ok (.bipush 18, 2) := by decide +kernel
theorem dX1_mixSecond_45 : decode cX1_mixSecond 45 = .ok (.iushr, 1) := by decide +kernel
theorem dX1_mixSecond_46 : decode cX1_mixSecond 46 = .ok (.iload_n 2, 1) := by decide +kernel
theorem dX1_mixSecond_47 : decode cX1_mixSecond 47 = .ok (.bipush 14, 2) := by decide +kernel
theorem dX1_mixSecond_49 : decode cX1_mixSecond 49 = .ok (.ishl, 1) := by decide +kernel
theorem dX1_mixSecond_50 : decode cX1_mixSecond 50 = .ok (.ior, 1) := by decide +kernel
theorem dX1_mixSecond_51 : decode cX1_mixSecond 51 = .ok (.ixor, 1) := by decide +kernel
theorem dX1_mixSecond_52 : decode cX1_mixSecond 52 = .ok (.iload_n 2, 1) := by decide +kernel
theorem dX1_mixSecond_53 : decode cX1_mixSecond 53 = .ok (.iconst 3, 1) := by decide +kernel
theorem dX1_mixSecond_54 : decode cX1_mixSecond 54 = .ok (.iushr, 1) := by decide +kernel
theorem dX1_mixSecond_55 : decode cX1_mixSecond 55 = .ok (.ixor, 1) := by decide +kernel
theorem dX1_mixSecond_56 : decode cX1_mixSecond 56 = .ok (.aload_n 0, 1) := by decide +kernel
theorem dX1_mixSecond_57 : decode cX1_mixSecond 57 = .ok (.getfield 15, 3) := by decide +kernel
theorem dX1_mixSecond_60 : decode cX1_mixSecond 60 = .ok (.iload_n 1, 1) := by decide +kernel
theorem dX1_mixSecond_61 : decode cX1_mixSecond 61 = .ok (.bipush 16, 2) := by decide +kernel
theorem dX1_mixSecond_63 : decode cX1_mixSecond 63 = .ok (.isub, 1) := by decide +kernel
theorem dX1_mixSecond_64 : decode cX1_mixSecond 64 = .ok (.iaload, 1) := by decide +kernel
theorem dX1_mixSecond_65 : decode cX1_mixSecond 65 = .ok (.iadd, 1) := by decide +kernel
theorem dX1_mixSecond_66 : decode cX1_mixSecond 66 = .ok (.iload_n 3, 1) := by decide +kernel
theorem dX1_mixSecond_67 : decode cX1_mixSecond 67 = .ok (.bipush 17, 2) := by decide +kernel
theorem dX1_mixSecond_69 : decode cX1_mixSecond 69 = .ok (.iushr, 1) := by decide +kernel
theorem dX1_mixSecond_70 : decode cX1_mixSecond 70 = .ok (.iload_n 3, 1) := by decide +kernel
theorem dX1_mixSecond_71 : decode cX1_mixSecond 71 = .ok (.bipush 15, 2) := by decide +kernel
theorem dX1_mixSecond_73 : decode cX1_mixSecond 73 = .ok (.ishl, 1) := by decide +kernel
theorem dX1_mixSecond_74 : decode cX1_mixSecond 74 = .ok (.ior, 1) := by decide +kernel
theorem dX1_mixSecond_75 : decode cX1_mixSecond 75 = .ok (.iload_n 3, 1) := by decide +kernel
theorem dX1_mixSecond_76 : decode cX1_mixSecond 76 = .ok (.bipush 19, 2) := by decide +kernel
theorem dX1_mixSecond_78 : decode cX1_mixSecond 78 = .ok (.iushr, 1) := by decide +kernel
theorem dX1_mixSecond_79 : decode cX1_mixSecond 79 = .ok (.iload_n 3, 1) := by decide +kernel
theorem dX1_mixSecond_80 : decode cX1_mixSecond 80 = .ok (.bipush 13, 2) := by decide +kernel
theorem dX1_mixSecond_82 : decode cX1_mixSecond 82 = .ok (.ishl, 1) := by decide +kernel
theorem dX1_mixSecond_83 : decode cX1_mixSecond 83 = .ok (.ior, 1) := by decide +kernel
theorem dX1_mixSecond_84 : decode cX1_mixSecond 84 = .ok (.ixor, 1) := by decide +kernel
theorem dX1_mixSecond_85 : decode cX1_mixSecond 85 = .ok (.iload_n 3, 1) := by decide +kernel
theorem dX1_mixSecond_86 : decode cX1_mixSecond 86 = .ok (.bipush 10, 2) := by decide +kernel
theorem dX1_mixSecond_88 : decode cX1_mixSecond 88 = .ok (.iushr, 1) := by decide +kernel
theorem dX1_mixSecond_89 : decode cX1_mixSecond 89 = .ok (.ixor, 1) := by decide +kernel
theorem dX1_mixSecond_90 : decode cX1_mixSecond 90 = .ok (.iadd, 1) := by decide +kernel
theorem dX1_mixSecond_91 : decode cX1_mixSecond 91 = .ok (.aload_n 0, 1) := by decide +kernel
theorem dX1_mixSecond_92 : decode cX1_mixSecond 92 = .ok (.getfield 15, 3) := by decide +kernel
theorem dX1_mixSecond_95 : decode cX1_mixSecond 95 = .ok (.iload_n 1, 1) := by decide +kernel
theorem dX1_mixSecond_96 : decode cX1_mixSecond 96 = .ok (.bipush 7, 2) := by decide +kernel
theorem dX1_mixSecond_98 : decode cX1_mixSecond 98 = .ok (.isub, 1) := by decide +kernel
theorem dX1_mixSecond_99 : decode cX1_mixSecond 99 = .ok (.iaload, 1) := by decide +kernel
theorem dX1_mixSecond_100 : decode cX1_mixSecond 100 = .ok (.iadd, 1) := by decide +kernel
theorem dX1_mixSecond_101 : decode cX1_mixSecond 101 = .ok (.iastore, 1) := by decide +kernel
theorem dX1_mixSecond_102 : decode cX1_mixSecond 102 = .ok (.iinc 1 1, 3) := by decide +kernel
theorem dX1_mixSecond_105 : decode cX1_mixSecond 105 = .ok (.goto (-102), 3) := by decide +kernel
theorem dX1_mixSecond_108 : decode cX1_mixSecond 108 = .ok (.aload_n 0, 1) := by decide +kernel
theorem dX1_mixSecond_109 : decode cX1_mixSecond 109 = .ok (.getfield 9, 3) := by decide +kernel
theorem dX1_mixSecond_112 : decode cX1_mixSecond 112 = .ok (.iconst 0, 1) := by decide +kernel
theorem dX1_mixSecond_113 : decode cX1_mixSecond 113 = .ok (.iaload, 1) := by decide +kernel
theorem dX1_mixSecond_114 : decode cX1_mixSecond 114 = .ok (.istore_n 1, 1) := by decide +kernel
theorem dX1_mixSecond_115 : decode cX1_mixSecond 115 = .ok (.aload_n 0, 1) := by decide +kernel
theorem dX1_mixSecond_116 : decode cX1_mixSecond 116 = .ok (.getfield 9, 3) := by decide +kernel
theorem dX1_mixSecond_119 : decode cX1_mixSecond 119 = .ok (.iconst 1, 1) := by decide +kernel
theorem dX1_mixSecond_120 : decode cX1_mixSecond 120 = .ok (.iaload, 1) := by decide +kernel
theorem dX1_mixSecond_121 : decode cX1_mixSecond 121 = .ok (.istore_n 2, 1) := by decide +kernel
theorem dX1_mixSecond_122 : decode cX1_mixSecond 122 = .ok (.aload_n 0, 1) := by decide +kernel
theorem dX1_mixSecond_123 : decode cX1_mixSecond 123 = .ok (.getfield 9, 3) := by decide +kernel
theorem dX1_mixSecond_126 : decode cX1_mixSecond 126 = .ok (.iconst 2, 1) := by decide +kernel
theorem dX1_mixSecond_127 : decode cX1_mixSecond 127 = .ok (.iaload, 1) := by decide +kernel
theorem dX1_mixSecond_128 : decode cX1_mixSecond 128 = .ok (.istore_n 3, 1) := by decide +kernel
theorem dX1_mixSecond_129 : decode cX1_mixSecond 129 = .ok (.aload_n 0, 1) := by decide +kernel
theorem dX1_mixSecond_130 : decode cX1_mixSecond 130 = .ok (.getfield 9, 3) := by decide +kernel
theorem dX1_mixSecond_133 : decode cX1_mixSecond 133 = .ok (.iconst 3, 1) := by decide +kernel
theorem dX1_mixSecond_134 : decode cX1_mixSecond 134 = .ok (.iaload, 1) := by decide +kernel
theorem dX1_mixSecond_135 : decode cX1_mixSecond 135 = .ok (.istore 4, 2) := by decide +kernel
theorem dX1_mixSecond_137 : decode cX1_mixSecond 137 = .ok (.aload_n 0, 1) := by decide +kernel
theorem dX1_mixSecond_138 : decode cX1_mixSecond 138 = .ok (.getfield 9, 3) := by decide +kernel
theorem dX1_mixSecond_141 : decode cX1_mixSecond 141 = .ok (.iconst 4, 1) := by decide +kernel
theorem dX1_mixSecond_142 : decode cX1_mixSecond 142 = .ok (.iaload, 1) := by decide +kernel
theorem dX1_mixSecond_143 : decode cX1_mixSecond 143 = .ok (.istore 5, 2) := by decide +kernel
theorem dX1_mixSecond_145 : decode cX1_mixSecond 145 = .ok (.aload_n 0, 1) := by decide +kernel
theorem dX1_mixSecond_146 : decode cX1_mixSecond 146 = .ok (.getfield 9, 3) := by decide +kernel
theorem dX1_mixSecond_149 : decode cX1_mixSecond 149 = .ok (.iconst 5, 1) := by decide +kernel
theorem dX1_mixSecond_150 : decode cX1_mixSecond 150 = .ok (.iaload, 1) := by decide +kernel
theorem dX1_mixSecond_151 : decode cX1_mixSecond 151 = .ok (.istore 6, 2) := by decide +kernel
theorem dX1_mixSecond_153 : decode cX1_mixSecond 153 = .ok (.aload_n 0, 1) := by decide +kernel
theorem dX1_mixSecond_154 : decode cX1_mixSecond 154 = .ok (.getfield 9, 3) := by decide +kernel
theorem dX1_mixSecond_157 : decode cX1_mixSecond 157 = .ok (.bipush 6, 2) := by decide +kernel
theorem dX1_mixSecond_159 : decode cX1_mixSecond 159 = .ok (.iaload, 1) := by decide +kernel
theorem dX1_mixSecond_160 : decode cX1_mixSecond 160 = .ok (.istore 7, 2) := by decide +kernel
theorem dX1_mixSecond_162 : decode cX1_mixSecond 162 = .ok (.aload_n 0, 1) := by decide +kernel
theorem dX1_mixSecond_163 : decode cX1_mixSecond 163 = .ok (.getfield 9, 3) := by decide +kernel
theorem dX1_mixSecond_166 : decode cX1_mixSecond 166 = .ok (.bipush 7, 2) := by decide +kernel
theorem dX1_mixSecond_168 : decode cX1_mixSecond 168 = .ok (.iaload, 1) := by decide +kernel
theorem dX1_mixSecond_169 : decode cX1_mixSecond 169 = .ok (.istore 8, 2) := by decide +kernel
theorem dX1_mixSecond_171 : decode cX1_mixSecond 171 = .ok (.iconst 0, 1) := by decide +kernel
theorem dX1_mixSecond_172 : decode cX1_mixSecond 172 = .ok (.istore 9, 2) := by decide +kernel
theorem dX1_mixSecond_174 : decode cX1_mixSecond 174 = .ok (.iload 9, 2) := by decide +kernel
theorem dX1_mixSecond_176 : decode cX1_mixSecond 176 = .ok (.bipush 64, 2) := by decide +kernel
theorem dX1_mixSecond_178 : decode cX1_mixSecond 178 = .ok (.if_icmp .ge 152, 3) := by decide +kernel
theorem dX1_mixSecond_181 : decode cX1_mixSecond 181 = .ok (.iload 8, 2) := by decide +kernel
theorem dX1_mixSecond_183 : decode cX1_mixSecond 183 = .ok (.iload 5, 2) := by decide +kernel
theorem dX1_mixSecond_185 : decode cX1_mixSecond 185 = .ok (.bipush 6, 2) := by decide +kernel
theorem dX1_mixSecond_187 : decode cX1_mixSecond 187 = .ok (.iushr, 1) := by decide +kernel
theorem dX1_mixSecond_188 : decode cX1_mixSecond 188 = .ok (.iload 5, 2) := by decide +kernel
theorem dX1_mixSecond_190 : decode cX1_mixSecond 190 = .ok (.bipush 26, 2) := by decide +kernel
theorem dX1_mixSecond_192 : decode cX1_mixSecond 192 = .ok (.ishl, 1) := by decide +kernel
theorem dX1_mixSecond_193 : decode cX1_mixSecond 193 = .ok (.ior, 1) := by decide +kernel
theorem dX1_mixSecond_194 : decode cX1_mixSecond 194 = .ok (.iload 5, 2) := by decide +kernel
theorem dX1_mixSecond_196 : decode cX1_mixSecond 196 = .ok (.bipush 11, 2) := by decide +kernel
theorem dX1_mixSecond_198 : decode cX1_mixSecond 198 = .ok (.iushr, 1) := by decide +kernel
theorem dX1_mixSecond_199 : decode cX1_mixSecond 199 = .ok (.iload 5, 2) := by decide +kernel
theorem dX1_mixSecond_201 : decode cX1_mixSecond 201 = .ok (.bipush 21, 2) := by decide +kernel
theorem dX1_mixSecond_203 : decode cX1_mixSecond 203 = .ok (.ishl, 1) := by decide +kernel
theorem dX1_mixSecond_204 : decode cX1_mixSecond 204 = .ok (.ior, 1) := by decide +kernel
theorem dX1_mixSecond_205 : decode cX1_mixSecond 205 = .ok (.ixor, 1) := by decide +kernel
theorem dX1_mixSecond_206 : decode cX1_mixSecond 206 = .ok (.iload 5, 2) := by decide +kernel
theorem dX1_mixSecond_208 : decode cX1_mixSecond 208 = .ok (.bipush 25, 2) := by decide +kernel
theorem dX1_mixSecond_210 : decode cX1_mixSecond 210 = .ok (.iushr, 1) := by decide +kernel
theorem dX1_mixSecond_211 : decode cX1_mixSecond 211 = .ok (.iload 5, 2) := by decide +kernel
theorem dX1_mixSecond_213 : decode cX1_mixSecond 213 = .ok (.bipush 7, 2) := by decide +kernel
theorem dX1_mixSecond_215 : decode cX1_mixSecond 215 = .ok (.ishl, 1) := by decide +kernel
theorem dX1_mixSecond_216 : decode cX1_mixSecond 216 = .ok (.ior, 1) := by decide +kernel
theorem dX1_mixSecond_217 : decode cX1_mixSecond 217 = .ok (.ixor, 1) := by decide +kernel
theorem dX1_mixSecond_218 : decode cX1_mixSecond 218 = .ok (.iadd, 1) := by decide +kernel
theorem dX1_mixSecond_219 : decode cX1_mixSecond 219 = .ok (.iload 5, 2) := by decide +kernel
theorem dX1_mixSecond_221 : decode cX1_mixSecond 221 = .ok (.iload 6, 2) := by decide +kernel
theorem dX1_mixSecond_223 : decode cX1_mixSecond 223 = .ok (.iand, 1) := by decide +kernel
theorem dX1_mixSecond_224 : decode cX1_mixSecond 224 = .ok (.iload 5, 2) := by decide +kernel
theorem dX1_mixSecond_226 : decode cX1_mixSecond 226 = .ok (.iconst (-1), 1) := by decide +kernel
theorem dX1_mixSecond_227 : decode cX1_mixSecond 227 = .ok (.ixor, 1) := by decide +kernel
theorem dX1_mixSecond_228 : decode cX1_mixSecond 228 = .ok (.iload 7, 2) := by decide +kernel
theorem dX1_mixSecond_230 : decode cX1_mixSecond 230 = .ok (.iand, 1) := by decide +kernel
theorem dX1_mixSecond_231 : decode cX1_mixSecond 231 = .ok (.ixor, 1) := by decide +kernel
theorem dX1_mixSecond_232 : decode cX1_mixSecond 232 = .ok (.iadd, 1) := by decide +kernel
theorem dX1_mixSecond_233 : decode cX1_mixSecond 233 = .ok (.getstatic 52, 3) := by decide +kernel
theorem dX1_mixSecond_236 : decode cX1_mixSecond 236 = .ok (.iload 9, 2) := by decide +kernel
theorem dX1_mixSecond_238 : decode cX1_mixSecond 238 = .ok (.iaload, 1) := by decide +kernel
theorem dX1_mixSecond_239 : decode cX1_mixSecond 239 = .ok (.iadd, 1) := by decide +kernel
theorem dX1_mixSecond_240 : decode cX1_mixSecond 240 = .ok (.aload_n 0, 1) := by decide +kernel
theorem dX1_mixSecond_241 : decode cX1_mixSecond 241 = .ok (.getfield 15, 3) := by decide +kernel
theorem dX1_mixSecond_244 : decode cX1_mixSecond 244 = .ok (.iload 9, 2) := by decide +kernel
theorem dX1_mixSecond_246 : decode cX1_mixSecond 246 = .ok (.iaload, 1) := by decide +kernel
theorem dX1_mixSecond_247 : decode cX1_mixSecond 247 = .ok (.iadd, 1) := by decide +kernel
theorem dX1_mixSecond_248 : decode cX1_mixSecond 248 = .ok (.istore 10, 2) := by decide +kernel
theorem dX1_mixSecond_250 : decode cX1_mixSecond 250 = .ok (.iload_n 1, 1) := by decide +kernel
theorem dX1_mixSecond_251 : decode cX1_mixSecond 251 = .ok (.iconst 2, 1) := by decide +kernel
theorem dX1_mixSecond_252 : decode cX1_mixSecond 252 = .ok (.iushr, 1) := by decide +kernel
theorem dX1_mixSecond_253 : decode cX1_mixSecond 253 = .ok (.iload_n 1, 1) := by decide +kernel
theorem dX1_mixSecond_254 : decode cX1_mixSecond 254 = .ok (.bipush 30, 2) := by decide +kernel
theorem dX1_mixSecond_256 : decode cX1_mixSecond 256 = .ok (.ishl, 1) := by decide +kernel
theorem dX1_mixSecond_257 : decode cX1_mixSecond 257 = .ok (.ior, 1) := by decide +kernel
theorem dX1_mixSecond_258 : decode cX1_mixSecond 258 = .ok (.iload_n 1, 1) := by decide +kernel
theorem dX1_mixSecond_259 : decode cX1_mixSecond 259 = .ok (.bipush 13, 2) := by decide +kernel
theorem dX1_mixSecond_261 : decode cX1_mixSecond 261 = .ok (.iushr, 1) := by decide +kernel
theorem dX1_mixSecond_262 : decode cX1_mixSecond 262 = .ok (.iload_n 1, 1) := by decide +kernel
theorem dX1_mixSecond_263 : decode cX1_mixSecond 263 = .ok (.bipush 19, 2) := by decide +kernel
theorem dX1_mixSecond_265 : decode cX1_mixSecond 265 = .ok (.ishl, 1) := by decide +kernel
theorem dX1_mixSecond_266 : decode cX1_mixSecond 266 = .ok (.ior, 1) := by decide +kernel
theorem dX1_mixSecond_267 : decode cX1_mixSecond 267 = .ok (.ixor, 1) := by decide +kernel
theorem dX1_mixSecond_268 : decode cX1_mixSecond 268 = .ok (.iload_n 1, 1) := by decide +kernel
theorem dX1_mixSecond_269 : decode cX1_mixSecond 269 = .ok (.bipush 22, 2) := by decide +kernel
theorem dX1_mixSecond_271 : decode cX1_mixSecond 271 = .ok (.iushr, 1) := by decide +kernel
theorem dX1_mixSecond_272 : decode cX1_mixSecond 272 = .ok (.iload_n 1, 1) := by decide +kernel
theorem dX1_mixSecond_273 : decode cX1_mixSecond 273 = .ok (.bipush 10, 2) := by decide +kernel
theorem dX1_mixSecond_275 : decode cX1_mixSecond 275 = .ok (.ishl, 1) := by decide +kernel
theorem dX1_mixSecond_276 : decode cX1_mixSecond 276 = .ok (.ior, 1) := by decide +kernel
theorem dX1_mixSecond_277 : decode cX1_mixSecond 277 = .ok (.ixor, 1) := by decide +kernel
theorem dX1_mixSecond_278 : decode cX1_mixSecond 278 = .ok (.iload_n 1, 1) := by decide +kernel
theorem dX1_mixSecond_279 : decode cX1_mixSecond 279 = .ok (.iload_n 2, 1) := by decide +kernel
theorem dX1_mixSecond_280 : decode cX1_mixSecond 280 = .ok (.iand, 1) := by decide +kernel
theorem dX1_mixSecond_281 : decode cX1_mixSecond 281 = .ok (.iload_n 1, 1) := by decide +kernel
theorem dX1_mixSecond_282 : decode cX1_mixSecond 282 = .ok (.iload_n 3, 1) := by decide +kernel
theorem dX1_mixSecond_283 : decode cX1_mixSecond 283 = .ok (.iand, 1) := by decide +kernel
theorem dX1_mixSecond_284 : decode cX1_mixSecond 284 = .ok (.ixor, 1) := by decide +kernel
theorem dX1_mixSecond_285 : decode cX1_mixSecond 285 = .ok (.iload_n 2, 1) := by decide +kernel
theorem dX1_mixSecond_286 : decode cX1_mixSecond 286 = .ok (.iload_n 3, 1) := by decide +kernel
theorem dX1_mixSecond_287 : decode cX1_mixSecond 287 = .ok (.iand, 1) := by decide +kernel
theorem dX1_mixSecond_288 : decode cX1_mixSecond 288 = .ok (.ixor, 1) := by decide +kernel
theorem dX1_mixSecond_289 : decode cX1_mixSecond 289 = .ok (.iadd, 1) := by decide +kernel
theorem dX1_mixSecond_290 : decode cX1_mixSecond 290 = .ok (.istore 11, 2) := by decide +kernel
theorem dX1_mixSecond_292 : decode cX1_mixSecond 292 = .ok (.iload 7, 2) := by decide +kernel
theorem dX1_mixSecond_294 : decode cX1_mixSecond 294 = .ok (.istore 8, 2) := by decide +kernel
theorem dX1_mixSecond_296 : decode cX1_mixSecond 296 = .ok (.iload 6, 2) := by decide +kernel
theorem dX1_mixSecond_298 : decode cX1_mixSecond 298 = .ok (.istore 7, 2) := by decide +kernel
theorem dX1_mixSecond_300 : decode cX1_mixSecond 300 = .ok (.iload 5, 2) := by decide +kernel
theorem dX1_mixSecond_302 : decode cX1_mixSecond 302 = .ok (.istore 6, 2) := by decide +kernel
theorem dX1_mixSecond_304 : decode cX1_mixSecond 304 = .ok (.iload 4, 2) := by decide +kernel
theorem dX1_mixSecond_306 : decode cX1_mixSecond 306 = .ok (.iload 10, 2) := by decide +kernel
theorem dX1_mixSecond_308 : decode cX1_mixSecond 308 = .ok (.iadd, 1) := by decide +kernel
theorem dX1_mixSecond_309 : decode cX1_mixSecond 309 = .ok (.istore 5, 2) := by decide +kernel
theorem dX1_mixSecond_311 : decode cX1_mixSecond 311 = .ok (.iload_n 3, 1) := by decide +kernel
theorem dX1_mixSecond_312 : decode cX1_mixSecond 312 = .ok (.istore 4, 2) := by decide +kernel
theorem dX1_mixSecond_314 : decode cX1_mixSecond 314 = .ok (.iload_n 2, 1) := by decide +kernel
theorem dX1_mixSecond_315 : decode cX1_mixSecond 315 = .ok (.istore_n 3, 1) := by decide +kernel
theorem dX1_mixSecond_316 : decode cX1_mixSecond 316 = .ok (.iload_n 1, 1) := by decide +kernel
theorem dX1_mixSecond_317 : decode cX1_mixSecond 317 = .ok (.istore_n 2, 1) := by decide +kernel
theorem dX1_mixSecond_318 : decode cX1_mixSecond 318 = .ok (.iload 10, 2) := by decide +kernel
theorem dX1_mixSecond_320 : decode cX1_mixSecond 320 = .ok (.iload 11, 2) := by decide +kernel
theorem dX1_mixSecond_322 : decode cX1_mixSecond 322 = .ok (.iadd, 1) := by decide +kernel
theorem dX1_mixSecond_323 : decode cX1_mixSecond 323 = .ok (.istore_n 1, 1) := by decide +kernel
theorem dX1_mixSecond_324 : decode cX1_mixSecond 324 = .ok (.iinc 9 1, 3) := by decide +kernel
theorem dX1_mixSecond_327 : decode cX1_mixSecond 327 = .ok (.goto (-153), 3) := by decide +kernel
theorem dX1_mixSecond_330 : decode cX1_mixSecond 330 = .ok (.aload_n 0, 1) := by decide +kernel
theorem dX1_mixSecond_331 : decode cX1_mixSecond 331 = .ok (.getfield 9, 3) := by decide +kernel
theorem dX1_mixSecond_334 : decode cX1_mixSecond 334 = .ok (.iconst 0, 1) := by decide +kernel
theorem dX1_mixSecond_335 : decode cX1_mixSecond 335 = .ok (.dup2, 1) := by decide +kernel
theorem dX1_mixSecond_336 : decode cX1_mixSecond 336 = .ok (.iaload, 1) := by decide +kernel
theorem dX1_mixSecond_337 : decode cX1_mixSecond 337 = .ok (.iload_n 1, 1) := by decide +kernel
theorem dX1_mixSecond_338 : decode cX1_mixSecond 338 = .ok (.iadd, 1) := by decide +kernel
theorem dX1_mixSecond_339 : decode cX1_mixSecond 339 = .ok (.iastore, 1) := by decide +kernel
theorem dX1_mixSecond_340 : decode cX1_mixSecond 340 = .ok (.aload_n 0, 1) := by decide +kernel
theorem dX1_mixSecond_341 : decode cX1_mixSecond 341 = .ok (.getfield 9, 3) := by decide +kernel
theorem dX1_mixSecond_344 : decode cX1_mixSecond 344 = .ok (.iconst 1, 1) := by decide +kernel
theorem dX1_mixSecond_345 : decode cX1_mixSecond 345 = .ok (.dup2, 1) := by decide +kernel
theorem dX1_mixSecond_346 : decode cX1_mixSecond 346 = .ok (.iaload, 1) := by decide +kernel
theorem dX1_mixSecond_347 : decode cX1_mixSecond 347 = .ok (.iload_n 2, 1) := by decide +kernel
theorem dX1_mixSecond_348 : decode cX1_mixSecond 348 = .ok (.iadd, 1) := by decide +kernel
theorem dX1_mixSecond_349 : decode cX1_mixSecond 349 = .ok (.iastore, 1) := by decide +kernel
theorem dX1_mixSecond_350 : decode cX1_mixSecond 350 = .ok (.aload_n 0, 1) := by decide +kernel
theorem dX1_mixSecond_351 : decode cX1_mixSecond 351 = .ok (.getfield 9, 3) := by decide +kernel
theorem dX1_mixSecond_354 : decode cX1_mixSecond 354 = .ok (.iconst 2, 1) := by decide +kernel
theorem dX1_mixSecond_355 : decode cX1_mixSecond 355 = .ok (.dup2, 1) := by decide +kernel
theorem dX1_mixSecond_356 : decode cX1_mixSecond 356 = .ok (.iaload, 1) := by decide +kernel
theorem dX1_mixSecond_357 : decode cX1_mixSecond 357 = .ok (.iload_n 3, 1) := by decide +kernel
theorem dX1_mixSecond_358 : decode cX1_mixSecond 358 = .ok (.iadd, 1) := by decide +kernel
theorem dX1_mixSecond_359 : decode cX1_mixSecond 359 = .ok (.iastore, 1) := by decide +kernel
theorem dX1_mixSecond_360 : decode cX1_mixSecond 360 = .ok (.aload_n 0, 1) := by decide +kernel
theorem dX1_mixSecond_361 : decode cX1_mixSecond 361 = .ok (.getfield 9, 3) := by decide +kernel
theorem dX1_mixSecond_364 : decode cX1_mixSecond 364 = .ok (.iconst 3, 1) := by decide +kernel
theorem dX1_mixSecond_365 : decode cX1_mixSecond 365 = .ok (.dup2, 1) := by decide +kernel
theorem dX1_mixSecond_366 : decode cX1_mixSecond 366 = .ok (.iaload, 1) := by decide +kernel
theorem dX1_mixSecond_367 : decode cX1_mixSecond 367 = .ok (.iload 4, 2) := by decide +kernel
theorem dX1_mixSecond_369 : decode cX1_mixSecond 369 = .ok (.iadd, 1) := by decide +kernel
theorem dX1_mixSecond_370 : decode cX1_mixSecond 370 = .ok (.iastore, 1) := by decide +kernel
theorem dX1_mixSecond_371 : decode cX1_mixSecond 371 = .ok (.aload_n 0, 1) := by decide +kernel
theorem dX1_mixSecond_372 : decode cX1_mixSecond 372 = .ok (.getfield 9, 3) := by decide +kernel
theorem dX1_mixSecond_375 : decode cX1_mixSecond 375 = .ok (.iconst 4, 1) := by decide +kernel
theorem dX1_mixSecond_376 : decode cX1_mixSecond 376 = .ok (.dup2, 1) := by decide +kernel
theorem dX1_mixSecond_377 : decode cX1_mixSecond 377 = .ok (.iaload, 1) := by decide +kernel
theorem dX1_mixSecond_378 : decode cX1_mixSecond 378 = .ok (.iload 5, 2) := by decide +kernel
theorem dX1_mixSecond_380 : decode cX1_mixSecond 380 = .ok (.iadd, 1) := by decide +kernel
theorem dX1_mixSecond_381 : decode cX1_mixSecond 381 = .ok (.iastore, 1) := by decide +kernel
theorem dX1_mixSecond_382 : decode cX1_mixSecond 382 = .ok (.aload_n 0, 1) := by decide +kernel
theorem dX1_mixSecond_383 : decode cX1_mixSecond 383 = .ok (.getfield 9, 3) := by decide +kernel
theorem dX1_mixSecond_386 : decode cX1_mixSecond 386 = .ok (.iconst 5, 1) := by decide +kernel
theorem dX1_mixSecond_387 : decode cX1_mixSecond 387 = .ok (.dup2, 1) := by decide +kernel
theorem dX1_mixSecond_388 : decode cX1_mixSecond 388 = .ok (.iaload, 1) := by decide +kernel
theorem dX1_mixSecond_389 : decode cX1_mixSecond 389 = .ok (.iload 6, 2) := by decide +kernel
theorem dX1_mixSecond_391 : decode cX1_mixSecond 391 = .ok (.iadd, 1) := by decide +kernel
theorem dX1_mixSecond_392 : decode cX1_mixSecond 392 = .ok (.iastore, 1) := by decide +kernel
theorem dX1_mixSecond_393 : decode cX1_mixSecond 393 = .ok (.aload_n 0, 1) := by decide +kernel
theorem dX1_mixSecond_394 : decode cX1_mixSecond 394 = .ok (.getfield 9, 3) := by decide +kernel
theorem dX1_mixSecond_397 : decode cX1_mixSecond 397 = .ok (.bipush 6, 2) := by decide +kernel
theorem dX1_mixSecond_399 : decode cX1_mixSecond 399 = .ok (.dup2, 1) := by decide +kernel
theorem dX1_mixSecond_400 : decode cX1_mixSecond 400 = .ok (.iaload, 1) := by decide +kernel
theorem dX1_mixSecond_401 : decode cX1_mixSecond 401 = .ok (.iload 7, 2) := by decide +kernel
theorem dX1_mixSecond_403 : decode cX1_mixSecond 403 = .ok (.iadd, 1) := by decide +kernel
theorem dX1_mixSecond_404 : decode cX1_mixSecond 404 = .ok (.iastore, 1) := by decide +kernel
theorem dX1_mixSecond_405 : decode cX1_mixSecond 405 = .ok (.aload_n 0, 1) := by decide +kernel
theorem dX1_mixSecond_406 : decode cX1_mixSecond 406 = .ok (.getfield 9, 3) := by decide +kernel
theorem dX1_mixSecond_409 : decode cX1_mixSecond 409 = .ok (.bipush 7, 2) := by decide +kernel
theorem dX1_mixSecond_411 : decode cX1_mixSecond 411 = .ok (.dup2, 1) := by decide +kernel
theorem dX1_mixSecond_412 : decode cX1_mixSecond 412 = .ok (.iaload, 1) := by decide +kernel
theorem dX1_mixSecond_413 : decode cX1_mixSecond 413 = .ok (.iload 8, 2) := by decide +kernel
theorem dX1_mixSecond_415 : decode cX1_mixSecond 415 = .ok (.iadd, 1) := by decide +kernel
theorem dX1_mixSecond_416 : decode cX1_mixSecond 416 = .ok (.iastore, 1) := by decide +kernel
theorem dX1_mixSecond_417 : decode cX1_mixSecond 417 = .ok (.return_, 1) := by decide +kernel
theorem dX2_init_0 : decode cX2_init 0 = .ok (.aload_n 0, 1) := by decide +kernel
theorem dX2_init_1 : decode cX2_init 1 = .ok (.invokespecial 3, 3) := by decide +kernel
theorem dX2_init_4 : decode cX2_init 4 = .ok (.aload_n 0, 1) := by decide +kernel
theorem dX2_init_5 : decode cX2_init 5 = .ok (.new 9, 3) := by decide +kernel
theorem dX2_init_8 : decode cX2_init 8 = .ok (.dup, 1) := by decide +kernel
theorem dX2_init_9 : decode cX2_init 9 = .ok (.invokespecial 11, 3) := by decide +kernel
theorem dX2_init_12 : decode cX2_init 12 = .ok (.putfield 12, 3) := by decide +kernel
theorem dX2_init_15 : decode cX2_init 15 = .ok (.aload_n 0, 1) := by decide +kernel
theorem dX2_init_16 : decode cX2_init 16 = .ok (.new 18, 3) := by decide +kernel
theorem dX2_init_19 : decode cX2_init 19 = .ok (.dup, 1) := by decide +kernel
theorem dX2_init_20 : decode cX2_init 20 = .ok (.sipush 1024, 3) := by decide +kernel
theorem dX2_init_23 : decode cX2_init 23 = .ok (.invokespecial 20, 3) := by decide +kernel
theorem dX2_init_26 : decode cX2_init 26 = .ok (.putfield 23, 3) := by decide +kernel
theorem dX2_init_29 : decode cX2_init 29 = .ok (.aload_n 0, 1) := by decide +kernel
theorem dX2_init_30 : decode cX2_init 30 = .ok (.new 27, 3) := by decide +kernel
theorem dX2_init_33 : decode cX2_init 33 = .ok (.dup, 1) := by decide +kernel
theorem dX2_init_34 : decode cX2_init 34 = .ok (.invokespecial 29, 3) := by decide +kernel
theorem dX2_init_37 : decode cX2_init 37 = .ok (.putfield 30, 3) := by decide +kernel
theorem dX2_init_40 : decode cX2_init 40 = .ok (.aload_n 0, 1) := by decide +kernel
theorem dX2_init_41 : decode cX2_init 41 = .ok (.new 18, 3) := by decide +kernel
theorem dX2_init_44 : decode cX2_init 44 = .ok (.dup, 1) := by decide +kernel
theorem dX2_init_45 : decode cX2_init 45 = .ok (.sipush 128, 3) := by decide +kernel
theorem dX2_init_48 : decode cX2_init 48 = .ok (.invokespecial 20, 3) := by decide +kernel
theorem dX2_init_51 : decode cX2_init 51 = .ok (.putfield 34, 3) := by decide +kernel
theorem dX2_init_54 : decode cX2_init 54 = .ok (.aload_n 0, 1) := by decide +kernel
theorem dX2_init_55 : decode cX2_init 55 = .ok (.new 37, 3) := by decide +kernel
theorem dX2_init_58 : decode cX2_init 58 = .ok (.dup, 1) := by decide +kernel
theorem dX2_init_59 : decode cX2_init 59 = .ok (.iconst 0, 1) := by decide +kernel
theorem dX2_init_60 : decode cX2_init 60 = .ok (.newarray .byte, 2) := by decide +kernel
theorem dX2_init_62 : decode cX2_init 62 = .ok (.invokespecial 39, 3) := by decide +kernel
theorem dX2_init_65 : decode cX2_init 65 = .ok (.putfield 42, 3) := by decide +kernel
theorem dX2_init_68 : decode cX2_init 68 = .ok (.return_, 1) := by decide +kernel
theorem dX3_init_0 : decode cX3_init 0 = .ok (.aload_n 0, 1) := by decide +kernel
theorem dX3_init_1 : decode cX3_init 1 = .ok (.aload_n 1, 1) := by decide +kernel
theorem dX3_init_2 : decode cX3_init 2 = .ok (.invokespecial 3, 3) := by decide +kernel
theorem dX3_init_5 : decode cX3_init 5 = .ok (.aload_n 0, 1) := by decide +kernel
theorem dX3_init_6 : decode cX3_init 6 = .ok (.new 9, 3) := by decide +kernel
theorem dX3_init_9 : decode cX3_init 9 = .ok (.dup, 1) := by decide +kernel
theorem dX3_init_10 : decode cX3_init 10 = .ok (.invokespecial 11, 3) := by decide +kernel
theorem dX3_init_13 : decode cX3_init 13 = .ok (.putfield 14, 3) := by decide +kernel
theorem dX3_init_16 : decode cX3_init 16 = .ok (.aload_n 0, 1) := by decide +kernel
theorem dX3_init_17 : decode cX3_init 17 = .ok (.new 9, 3) := by decide +kernel
theorem dX3_init_20 : decode cX3_init 20 = .ok (.dup, 1) := by decide +kernel
theorem dX3_init_21 : decode cX3_init 21 = .ok (.invokespecial 11, 3) := by decide +kernel
theorem dX3_init_24 : decode cX3_init 24 = .ok (.putfield 20, 3) := by decide +kernel
theorem dX3_init_27 : decode cX3_init 27 = .ok (.aload_n 0, 1) := by decide +kernel
theorem dX3_init_28 : decode cX3_init 28 = .ok (.bipush 20, 2) := by decide +kernel
theorem dX3_init_30 : decode cX3_init 30 = .ok (.newarray .byte, 2) := by decide +kernel
theorem dX3_init_32 : decode cX3_init 32 = .ok (.putfield 23, 3) := by decide +kernel
theorem dX3_init_35 : decode cX3_init 35 = .ok (.aload_n 0, 1) := by decide +kernel
theorem dX3_init_36 : decode cX3_init 36 = .ok (.aload_n 2, 1) := by decide +kernel
theorem dX3_init_37 : decode cX3_init 37 = .ok (.ifnonnull 7, 3) := by decide +kernel
theorem dX3_init_40 : decode cX3_init 40 = .ok (.aload_n 0, 1) := by decide +kernel
theorem dX3_init_41 : decode cX3_init 41 = .ok (.goto 4, 3) := by decide +kernel
theorem dX3_init_44 : decode cX3_init 44 = .ok (.aload_n 2, 1) := by decide +kernel
theorem dX3_init_45 : decode cX3_init 45 = .ok (.putfield 27, 3) := by decide +kernel
theorem dX3_init_48 : decode cX3_init 48 = .ok (.return_, 1) := by decide +kernel
theorem dX4_init_0 : decode cX4_init 0 = .ok (.aload_n 0, 1) := by decide +kernel
theorem dX4_init_1 : decode cX4_init 1 = .ok (.invokespecial 3, 3) := by decide +kernel
theorem dX4_init_4 : decode cX4_init 4 = .ok (.aload_n 0, 1) := by decide +kernel
theorem dX4_init_5 : decode cX4_init 5 = .ok (.new 9, 3) := by decide +kernel
theorem dX4_init_8 : decode cX4_init 8 = .ok (.dup, 1) := by decide +kernel
theorem dX4_init_9 : decode cX4_init 9 = .ok (.iconst 0, 1) := by decide +kernel
theorem dX4_init_10 : decode cX4_init 10 = .ok (.newarray .byte, 2) := by decide +kernel
theorem dX4_init_12 : decode cX4_init 12 = .ok (.iconst 0, 1) := by decide +kernel
theorem dX4_init_13 : decode cX4_init 13 = .ok (.iconst 0, 1) := by decide +kernel
theorem dX4_init_14 : decode cX4_init 14 = .ok (.invokespecial 11, 3) := by decide +kernel
theorem dX4_init_17 : decode cX4_init 17 = .ok (.putfield 14, 3) := by decide +kernel
theorem dX4_init_20 : decode cX4_init 20 = .ok (.aload_n 0, 1) := by decide +kernel
theorem dX4_init_21 : decode cX4_init 21 = .ok (.new 20, 3) := by decide +kernel
theorem dX4_init_24 : decode cX4_init 24 = .ok (.dup, 1) := by decide +kernel
theorem dX4_init_25 : decode cX4_init 25 = .ok (.sipush 256, 3) := by decide +kernel
theorem dX4_init_28 : decode cX4_init 28 = .ok (.invokespecial 22, 3) := by decide +kernel
theorem dX4_init_31 : decode cX4_init 31 = .ok (.putfield 25, 3) := by decide +kernel
theorem dX4_init_34 : decode cX4_init 34 = .ok (.aload_n 0, 1) := by decide +kernel
theorem dX4_init_35 : decode cX4_init 35 = .ok (.aload_n 0, 1) := by decide +kernel
theorem dX4_init_36 : decode cX4_init 36 = .ok (.getfield 14, 3) := by decide +kernel
theorem dX4_init_39 : decode cX4_init 39 = .ok (.putfield 29, 3) := by decide +kernel
theorem dX4_init_42 : decode cX4_init 42 = .ok (.return_, 1) := by decide +kernel
theorem dX4_open_0 : decode cX4_open 0 = .ok (.aload_n 0, 1) := by decide +kernel
theorem dX4_open_1 : decode cX4_open 1 = .ok (.aload_n 1, 1) := by decide +kernel
theorem dX4_open_2 : decode cX4_open 2 = .ok (.putfield 29, 3) := by decide +kernel
theorem dX4_open_5 : decode cX4_open 5 = .ok (.aload_n 0, 1) := by decide +kernel
theorem dX4_open_6 : decode cX4_open 6 = .ok (.iconst 0, 1) := by decide +kernel
theorem dX4_open_7 : decode cX4_open 7 = .ok (.putfield 32, 3) := by decide +kernel
theorem dX4_open_10 : decode cX4_open 10 = .ok (.aload_n 0, 1) := by decide +kernel
theorem dX4_open_11 : decode cX4_open 11 = .ok (.iconst 0, 1) := by decide +kernel
theorem dX4_open_12 : decode cX4_open 12 = .ok (.putfield 36, 3) := by decide +kernel
theorem dX4_open_15 : decode cX4_open 15 = .ok (.return_, 1) := by decide +kernel
theorem dX4_more_0 : decode cX4_more 0 = .ok (.aload_n 0, 1) := by decide +kernel
theorem dX4_more_1 : decode cX4_more 1 = .ok (.getfield 36, 3) := by decide +kernel
theorem dX4_more_4 : decode cX4_more 4 = .ok (.aload_n 0, 1) := by decide +kernel
theorem dX4_more_5 : decode cX4_more 5 = .ok (.getfield 29, 3) := by decide +kernel
theorem dX4_more_8 : decode cX4_more 8 = .ok (.getfield 39, 3) := by decide +kernel
theorem dX4_more_11 : decode cX4_more 11 = .ok (.if_icmp .ge 7, 3) := by decide +kernel
theorem dX4_more_14 : decode cX4_more 14 = .ok (.iconst 1, 1) := by decide +kernel
theorem dX4_more_15 : decode cX4_more 15 = .ok (.goto 4, 3) := by decide +kernel
theorem dX4_more_18 : decode cX4_more 18 = .ok (.iconst 0, 1) := by decide +kernel
theorem dX4_more_19 : decode cX4_more 19 = .ok (.ireturn, 1) := by decide +kernel
theorem dX4_fault_0 : decode cX4_fault 0 = .ok (.iconst (-1), 1) := by decide +kernel
theorem dX4_fault_1 : decode cX4_fault 1 = .ok (.aload_n 0, 1) := by decide +kernel
theorem dX4_fault_2 : decode cX4_fault 2 = .ok (.getfield 32, 3) := by decide +kernel
theorem dX4_fault_5 : decode cX4_fault 5 = .ok (.isub, 1) := by decide +kernel
theorem dX4_fault_6 : decode cX4_fault 6 = .ok (.ireturn, 1) := by decide +kernel
theorem dX4_read_0 : decode cX4_read 0 = .ok (.aload_n 0, 1) := by decide +kernel
theorem dX4_read_1 : decode cX4_read 1 = .ok (.aload_n 0, 1) := by decide +kernel
theorem dX4_read_2 : decode cX4_read 2 = .ok (.getfield 36, 3) := by decide +kernel
theorem dX4_read_5 : decode cX4_read 5 = .ok (.putfield 32, 3) := by decide +kernel
theorem dX4_read_8 : decode cX4_read 8 = .ok (.aload_n 0, 1) := by decide +kernel
theorem dX4_read_9 : decode cX4_read 9 = .ok (.getfield 29, 3) := by decide +kernel
theorem dX4_read_12 : decode cX4_read 12 = .ok (.aload_n 0, 1) := by decide +kernel
theorem dX4_read_13 : decode cX4_read 13 = .ok (.getfield 32, 3) := by decide +kernel
theorem dX4_read_16 : decode cX4_read 16 = .ok (.invokevirtual 42, 3) := by decide +kernel
theorem dX4_read_19 : decode cX4_read 19 = .ok (.istore_n 1, 1) := by decide +kernel
theorem dX4_read_20 : decode cX4_read 20 = .ok (.aload_n 0, 1) := by decide +kernel
theorem dX4_read_21 : decode cX4_read 21 = .ok (.getfield 32, 3) := by decide +kernel
theorem dX4_read_24 : decode cX4_read 24 = .ok (.aload_n 0, 1) := by decide +kernel
theorem dX4_read_25 : decode cX4_read 25 = .ok (.getfield 29, 3) := by decide +kernel
theorem dX4_read_28 : decode cX4_read 28 = .ok (.getfield 39, 3) := by decide +kernel
theorem dX4_read_31 : decode cX4_read 31 = .ok (.if_icmp .ge 10, 3) := by decide +kernel
theorem dX4_read_34 : decode cX4_read 34 = .ok (.iload_n 1, 1) := by decide +kernel
theorem dX4_read_35 : decode cX4_read 35 = .ok (.sipush 128, 3) := by decide +kernel
theorem dX4_read_38 : decode cX4_read 38 = .ok (.if_icmp .ge 5, 3) := by decide +kernel
theorem dX4_read_41 : decode cX4_read 41 = .ok (.iconst 0, 1) := by decide +kernel
theorem dX4_read_42 : decode cX4_read 42 = .ok (.ireturn, 1) := by decide +kernel
theorem dX4_read_43 : decode cX4_read 43 = .ok (.iload_n 1, 1) := by decide +kernel
theorem dX4_read_44 : decode cX4_read 44 = .ok (.bipush 64, 2) := by decide +kernel
theorem dX4_read_46 : decode cX4_read 46 = .ok (.iand, 1) := by decide +kernel
theorem dX4_read_47 : decode cX4_read 47 = .ok (.ifCond .eq 43, 3) := by decide +kernel
theorem dX4_read_50 : decode cX4_read 50 = .ok (.aload_n 0, 1) := by decide +kernel
theorem dX4_read_51 : decode cX4_read 51 = .ok (.iload_n 1, 1) := by decide +kernel
theorem dX4_read_52 : decode cX4_read 52 = .ok (.bipush 63, 2) := by decide +kernel
theorem dX4_read_54 : decode cX4_read 54 = .ok (.iand, 1) := by decide +kernel
theorem dX4_read_55 : decode cX4_read 55 = .ok (.putfield 46, 3) := by decide +kernel
theorem dX4_read_58 : decode cX4_read 58 = .ok (.aload_n 0, 1) := by decide +kernel
theorem dX4_read_59 : decode cX4_read 59 = .ok (.aload_n 0, 1) := by decide +kernel
theorem dX4_read_60 : decode cX4_read 60 = .ok (.getfield 32, 3) := by decide +kernel
theorem dX4_read_63 : decode cX4_read 63 = .ok (.iconst 1, 1) := by decide +kernel
theorem dX4_read_64 : decode cX4_read 64 = .ok (.iadd, 1) := by decide +kernel
theorem dX4_read_65 : decode cX4_read 65 = .ok (.invokevirtual 49, 3) := by decide +kernel
theorem dX4_read_68 : decode cX4_read 68 = .ok (.ifCond .ne 16, 3) := by decide +kernel
theorem dX4_read_71 : decode cX4_read 71 = .ok (.aload_n 0, 1) := by decide +kernel
theorem dX4_read_72 : decode cX4_read 72 = .ok (.aload_n 0, 1) := by decide +kernel
theorem dX4_read_73 : decode cX4_read 73 = .ok (.getfield 32, 3) := by decide +kernel
theorem dX4_read_76 : decode cX4_read 76 = .ok (.iconst 1, 1) := by decide +kernel
theorem dX4_read_77 : decode cX4_read 77 = .ok (.iadd, 1) := by decide +kernel
theorem dX4_read_78 : decode cX4_read 78 = .ok (.invokevirtual 53, 3) := by decide +kernel
theorem dX4_read_81 : decode cX4_read 81 = .ok (.ifCond .eq 7, 3) := by decide +kernel
theorem dX4_read_84 : decode cX4_read 84 = .ok (.iconst 1, 1) := by decide +kernel
theorem dX4_read_85 : decode cX4_read 85 = .ok (.goto 4, 3) := by decide +kernel
theorem dX4_read_88 : decode cX4_read 88 = .ok (.iconst 0, 1) := by decide +kernel
theorem dX4_read_89 : decode cX4_read 89 = .ok (.ireturn, 1) := by decide +kernel
theorem dX4_read_90 : decode cX4_read 90 = .ok (.aload_n 0, 1) := by decide +kernel
theorem dX4_read_91 : decode cX4_read 91 = .ok (.iload_n 1, 1) := by decide +kernel
theorem dX4_read_92 : decode cX4_read 92 = .ok (.iconst 2, 1) := by decide +kernel
theorem dX4_read_93 : decode cX4_read 93 = .ok (.ishr, 1) := by decide +kernel
theorem dX4_read_94 : decode cX4_read 94 = .ok (.bipush 15, 2) := by decide +kernel
theorem dX4_read_96 : decode cX4_read 96 = .ok (.iand, 1) := by decide +kernel
theorem dX4_read_97 : decode cX4_read 97 = .ok (.putfield 46, 3) := by decide +kernel
theorem dX4_read_100 : decode cX4_read 100 = .ok (.iconst 1, 1) := by decide +kernel
theorem dX4_read_101 : decode cX4_read 101 = .ok (.iload_n 1, 1) := by decide +kernel
theorem dX4_read_102 : decode cX4_read 102 = .ok (.iconst 3, 1) := by decide +kernel
theorem dX4_read_103 : decode cX4_read 103 = .ok (.iand, 1) := by decide +kernel
theorem dX4_read_104 : decode cX4_read 104 = .ok (.ishl, 1) := by decide +kernel
theorem dX4_read_105 : decode cX4_read 105 = .ok (.istore_n 2, 1) := by decide +kernel
theorem dX4_read_106 : decode cX4_read 106 = .ok (.iload_n 2, 1) := by decide +kernel
theorem dX4_read_107 : decode cX4_read 107 = .ok (.iconst 4, 1) := by decide +kernel
theorem dX4_read_108 : decode cX4_read 108 = .ok (.if_icmp .gt 21, 3) := by decide +kernel
theorem dX4_read_111 : decode cX4_read 111 = .ok (.aload_n 0, 1) := by decide +kernel
theorem dX4_read_112 : decode cX4_read 112 = .ok (.getfield 32, 3) := by decide +kernel
theorem dX4_read_115 : decode cX4_read 115 = .ok (.iconst 1, 1) := by decide +kernel
theorem dX4_read_116 : decode cX4_read 116 = .ok (.iadd, 1) := by decide +kernel
theorem dX4_read_117 : decode cX4_read 117 = .ok (.iload_n 2, 1) := by decide +kernel
theorem dX4_read_118 : decode cX4_read 118 = .ok (.iadd, 1) := by decide +kernel
theorem dX4_read_119 : decode cX4_read 119 = .ok (.aload_n 0, 1) := by decide +kernel
theorem dX4_read_120 : decode cX4_read 120 = .ok (.getfield 29, 3) := by decide +kernel
theorem dX4_read_123 : decode cX4_read 123 = .ok (.getfield 39, 3) := by decide +kernel
theorem dX4_read_126 : decode cX4_read 126 = .ok (.if_icmp .le 5, 3) := by decide +kernel
theorem dX4_read_129 : decode cX4_read 129 = .ok (.iconst 0, 1) := by decide +kernel
theorem dX4_read_130 : decode cX4_read 130 = .ok (.ireturn, 1) := by decide +kernel
theorem dX4_read_131 : decode cX4_read 131 = .ok (.aload_n 0, 1) := by decide +kernel
theorem dX4_read_132 : decode cX4_read 132 = .ok (.aload_n 0, 1) := by decide +kernel
theorem dX4_read_133 : decode cX4_read 133 = .ok (.getfield 32, 3) := by decide +kernel
theorem dX4_read_136 : decode cX4_read 136 = .ok (.iconst 1, 1) := by decide +kernel
theorem dX4_read_137 : decode cX4_read 137 = .ok (.iadd, 1) := by decide +kernel
theorem dX4_read_138 : decode cX4_read 138 = .ok (.iload_n 2, 1) := by decide +kernel
theorem dX4_read_139 : decode cX4_read 139 = .ok (.iadd, 1) := by decide +kernel
theorem dX4_read_140 : decode cX4_read 140 = .ok (.aload_n 0, 1) := by decide +kernel
theorem dX4_read_141 : decode cX4_read 141 = .ok (.getfield 29, 3) := by decide +kernel
theorem dX4_read_144 : decode cX4_read 144 = .ok (.aload_n 0, 1) := by decide +kernel
theorem dX4_read_145 : decode cX4_read 145 = .ok (.getfield 32, 3) := by decide +kernel
theorem dX4_read_148 : decode cX4_read 148 = .ok (.iconst 1, 1) := by decide +kernel
theorem dX4_read_149 : decode cX4_read 149 = .ok (.iadd, 1) := by decide +kernel
theorem dX4_read_150 : decode cX4_read 150 = .ok (.iload_n 2, 1) := by decide +kernel
theorem dX4_read_151 : decode cX4_read 151 = .ok (.invokevirtual 56, 3) := by decide +kernel
theorem dX4_read_154 : decode cX4_read 154 = .ok (.invokevirtual 60, 3) := by decide +kernel
theorem dX4_read_157 : decode cX4_read 157 = .ok (.ireturn, 1) := by decide +kernel
theorem dX5_init_0 : decode cX5_init 0 = .ok (.aload_n 0, 1) := by decide +kernel
theorem dX5_init_1 : decode cX5_init 1 = .ok (.aload_n 1, 1) := by decide +kernel
theorem dX5_init_2 : decode cX5_init 2 = .ok (.iconst 0, 1) := by decide +kernel
theorem dX5_init_3 : decode cX5_init 3 = .ok (.aload_n 1, 1) := by decide +kernel
theorem dX5_init_4 : decode cX5_init 4 = .ok (.arraylength, 1) := by decide +kernel
theorem dX5_init_5 : decode cX5_init 5 = .ok (.invokespecial 3, 3) := by decide +kernel
theorem dX5_init_8 : decode cX5_init 8 = .ok (.aload_n 0, 1) := by decide +kernel
theorem dX5_init_9 : decode cX5_init 9 = .ok (.new 9, 3) := by decide +kernel
theorem dX5_init_12 : decode cX5_init 12 = .ok (.dup, 1) := by decide +kernel
theorem dX5_init_13 : decode cX5_init 13 = .ok (.invokespecial 11, 3) := by decide +kernel
theorem dX5_init_16 : decode cX5_init 16 = .ok (.putfield 14, 3) := by decide +kernel
theorem dX5_init_19 : decode cX5_init 19 = .ok (.return_, 1) := by decide +kernel
theorem dX6_init_0 : decode cX6_init 0 = .ok (.aload_n 0, 1) := by decide +kernel
theorem dX6_init_1 : decode cX6_init 1 = .ok (.invokespecial 3, 3) := by decide +kernel
theorem dX6_init_4 : decode cX6_init 4 = .ok (.aload_n 0, 1) := by decide +kernel
theorem dX6_init_5 : decode cX6_init 5 = .ok (.bipush 38, 2) := by decide +kernel
theorem dX6_init_7 : decode cX6_init 7 = .ok (.newarray .long, 2) := by decide +kernel
theorem dX6_init_9 : decode cX6_init 9 = .ok (.putfield 9, 3) := by decide +kernel
theorem dX6_init_12 : decode cX6_init 12 = .ok (.aload_n 0, 1) := by decide +kernel
theorem dX6_init_13 : decode cX6_init 13 = .ok (.bipush 38, 2) := by decide +kernel
theorem dX6_init_15 : decode cX6_init 15 = .ok (.newarray .long, 2) := by decide +kernel
theorem dX6_init_17 : decode cX6_init 17 = .ok (.putfield 13, 3) := by decide +kernel
theorem dX6_init_20 : decode cX6_init 20 = .ok (.aload_n 0, 1) := by decide +kernel
theorem dX6_init_21 : decode cX6_init 21 = .ok (.bipush 38, 2) := by decide +kernel
theorem dX6_init_23 : decode cX6_init 23 = .ok (.newarray .long, 2) := by decide +kernel
theorem dX6_init_25 : decode cX6_init 25 = .ok (.putfield 16, 3) := by decide +kernel
theorem dX6_init_28 : decode cX6_init 28 = .ok (.aload_n 0, 1) := by decide +kernel
theorem dX6_init_29 : decode cX6_init 29 = .ok (.bipush 38, 2) := by decide +kernel
theorem dX6_init_31 : decode cX6_init 31 = .ok (.newarray .long, 2) := by decide +kernel
theorem dX6_init_33 : decode cX6_init 33 = .ok (.putfield 19, 3) := by decide +kernel
theorem dX6_init_36 : decode cX6_init 36 = .ok (.aload_n 0, 1) := by decide +kernel
theorem dX6_init_37 : decode cX6_init 37 = .ok (.bipush 38, 2) := by decide +kernel
theorem dX6_init_39 : decode cX6_init 39 = .ok (.newarray .long, 2) := by decide +kernel
theorem dX6_init_41 : decode cX6_init 41 = .ok (.putfield 22, 3) := by decide +kernel
theorem dX6_init_44 : decode cX6_init 44 = .ok (.aload_n 0, 1) := by decide +kernel
theorem dX6_init_45 : decode cX6_init 45 = .ok (.bipush 38, 2) := by decide +kernel
theorem dX6_init_47 : decode cX6_init 47 = .ok (.newarray .long, 2) := by decide +kernel
theorem dX6_init_49 : decode cX6_init 49 = .ok (.putfield 25, 3) := by decide +kernel
theorem dX6_init_52 : decode cX6_init 52 = .ok (.aload_n 0, 1) := by decide +kernel
theorem dX6_init_53 : decode cX6_init 53 = .ok (.bipush 38, 2) := by decide +kernel
theorem dX6_init_55 : decode cX6_init 55 = .ok (.newarray .long, 2) := by decide +kernel
theorem dX6_init_57 : decode cX6_init 57 = .ok (.putfield 28, 3) := by decide +kernel
theorem dX6_init_60 : decode cX6_init 60 = .ok (.aload_n 0, 1) := by decide +kernel
theorem dX6_init_61 : decode cX6_init 61 = .ok (.iconst 1, 1) := by decide +kernel
theorem dX6_init_62 : decode cX6_init 62 = .ok (.putfield 31, 3) := by decide +kernel
theorem dX6_init_65 : decode cX6_init 65 = .ok (.aload_n 0, 1) := by decide +kernel
theorem dX6_init_66 : decode cX6_init 66 = .ok (.getfield 16, 3) := by decide +kernel
theorem dX6_init_69 : decode cX6_init 69 = .ok (.iconst 0, 1) := by decide +kernel
theorem dX6_init_70 : decode cX6_init 70 = .ok (.lconst 1, 1) := by decide +kernel
theorem dX6_init_71 : decode cX6_init 71 = .ok (.lastore, 1) := by decide +kernel
theorem dX6_init_72 : decode cX6_init 72 = .ok (.return_, 1) := by decide +kernel
theorem dX7_init_0 : decode cX7_init 0 = .ok (.aload_n 0, 1) := by decide +kernel
theorem dX7_init_1 : decode cX7_init 1 = .ok (.invokespecial 3, 3) := by decide +kernel
theorem dX7_init_4 : decode cX7_init 4 = .ok (.aload_n 0, 1) := by decide +kernel
theorem dX7_init_5 : decode cX7_init 5 = .ok (.new 9, 3) := by decide +kernel
theorem dX7_init_8 : decode cX7_init 8 = .ok (.dup, 1) := by decide +kernel
theorem dX7_init_9 : decode cX7_init 9 = .ok (.invokespecial 11, 3) := by decide +kernel
theorem dX7_init_12 : decode cX7_init 12 = .ok (.putfield 12, 3) := by decide +kernel
theorem dX7_init_15 : decode cX7_init 15 = .ok (.aload_n 0, 1) := by decide +kernel
theorem dX7_init_16 : decode cX7_init 16 = .ok (.new 18, 3) := by decide +kernel
theorem dX7_init_19 : decode cX7_init 19 = .ok (.dup, 1) := by decide +kernel
theorem dX7_init_20 : decode cX7_init 20 = .ok (.invokespecial 20, 3) := by decide +kernel
theorem dX7_init_23 : decode cX7_init 23 = .ok (.putfield 21, 3) := by decide +kernel
theorem dX7_init_26 : decode cX7_init 26 = .ok (.aload_n 0, 1) := by decide +kernel
theorem dX7_init_27 : decode cX7_init 27 = .ok (.new 25, 3) := by decide +kernel
theorem dX7_init_30 : decode cX7_init 30 = .ok (.dup, 1) := by decide +kernel
theorem dX7_init_31 : decode cX7_init 31 = .ok (.sipush 256, 3) := by decide +kernel
theorem dX7_init_34 : decode cX7_init 34 = .ok (.invokespecial 27, 3) := by decide +kernel
theorem dX7_init_37 : decode cX7_init 37 = .ok (.putfield 30, 3) := by decide +kernel
theorem dX7_init_40 : decode cX7_init 40 = .ok (.aload_n 0, 1) := by decide +kernel
theorem dX7_init_41 : decode cX7_init 41 = .ok (.new 34, 3) := by decide +kernel
theorem dX7_init_44 : decode cX7_init 44 = .ok (.dup, 1) := by decide +kernel
theorem dX7_init_45 : decode cX7_init 45 = .ok (.iconst 0, 1) := by decide +kernel
theorem dX7_init_46 : decode cX7_init 46 = .ok (.newarray .byte, 2) := by decide +kernel
theorem dX7_init_48 : decode cX7_init 48 = .ok (.aconst_null, 1) := by decide +kernel
theorem dX7_init_49 : decode cX7_init 49 = .ok (.invokespecial 36, 3) := by decide +kernel
theorem dX7_init_52 : decode cX7_init 52 = .ok (.putfield 39, 3) := by decide +kernel
theorem dX7_init_55 : decode cX7_init 55 = .ok (.aload_n 0, 1) := by decide +kernel
theorem dX7_init_56 : decode cX7_init 56 = .ok (.new 43, 3) := by decide +kernel
theorem dX7_init_59 : decode cX7_init 59 = .ok (.dup, 1) := by decide +kernel
theorem dX7_init_60 : decode cX7_init 60 = .ok (.iconst 0, 1) := by decide +kernel
theorem dX7_init_61 : decode cX7_init 61 = .ok (.newarray .byte, 2) := by decide +kernel
theorem dX7_init_63 : decode cX7_init 63 = .ok (.invokespecial 45, 3) := by decide +kernel
theorem dX7_init_66 : decode cX7_init 66 = .ok (.putfield 48, 3) := by decide +kernel
theorem dX7_init_69 : decode cX7_init 69 = .ok (.return_, 1) := by decide +kernel
theorem dX7_joinAll_0 : decode cX7_joinAll 0 = .ok (.aload_n 0, 1) := by decide +kernel
theorem dX7_joinAll_1 : decode cX7_joinAll 1 = .ok (.aconst_null, 1) := by decide +kernel
theorem dX7_joinAll_2 : decode cX7_joinAll 2 = .ok (.putfield 52, 3) := by decide +kernel
theorem dX7_joinAll_5 : decode cX7_joinAll 5 = .ok (.aload_n 0, 1) := by decide +kernel
theorem dX7_joinAll_6 : decode cX7_joinAll 6 = .ok (.aconst_null, 1) := by decide +kernel
theorem dX7_joinAll_7 : decode cX7_joinAll 7 = .ok (.putfield 55, 3) := by decide +kernel
theorem dX7_joinAll_10 : decode cX7_joinAll 10 = .ok (.iconst 0, 1) := by decide +kernel
theorem dX7_joinAll_11 : decode cX7_joinAll 11 = .ok (.istore_n 2, 1) := by decide +kernel
theorem dX7_joinAll_12 : decode cX7_joinAll 12 = .ok (.aload_n 0, 1) := by decide +kernel
theorem dX7_joinAll_13 : decode cX7_joinAll 13 = .ok (.getfield 12, 3) := by decide +kernel
theorem dX7_joinAll_16 : decode cX7_joinAll 16 = .ok (.invokevirtual 59, 3) := by decide +kernel
theorem dX7_joinAll_19 : decode cX7_joinAll 19 = .ok (.istore_n 3, 1) := by decide +kernel
theorem dX7_joinAll_20 : decode cX7_joinAll 20 = .ok (.iconst 0, 1) := by decide +kernel
theorem dX7_joinAll_21 : decode cX7_joinAll 21 = .ok (.istore 4, 2) := by decide +kernel
theorem dX7_joinAll_23 : decode cX7_joinAll 23 = .ok (.iload 4, 2) := by decide +kernel
theorem dX7_joinAll_25 : decode cX7_joinAll 25 = .ok (.sipush 4096, 3) := by decide +kernel
theorem dX7_joinAll_28 : decode cX7_joinAll 28 = .ok (.if_icmp .gt 68, 3) := by decide +kernel
theorem dX7_joinAll_31 : decode cX7_joinAll 31 = .ok (.aload_n 1, 1) := by decide +kernel
theorem dX7_joinAll_32 : decode cX7_joinAll 32 = .ok (.invokevirtual 63, 3) := by decide +kernel
theorem dX7_joinAll_35 : decode cX7_joinAll 35 = .ok (.ifCond .eq 61, 3) := by decide +kernel
theorem dX7_joinAll_38 : decode cX7_joinAll 38 = .ok (.aload_n 1, 1) := by decide +kernel
theorem dX7_joinAll_39 : decode cX7_joinAll 39 = .ok (.invokevirtual 69, 3) := by decide +kernel
theorem dX7_joinAll_42 : decode cX7_joinAll 42 = .ok (.ifCond .eq 18, 3) := by decide +kernel
theorem dX7_joinAll_45 : decode cX7_joinAll 45 = .ok (.aload_n 0, 1) := by decide +kernel
theorem dX7_joinAll_46 : decode cX7_joinAll 46 = .ok (.aload_n 1, 1) := by decide +kernel
theorem dX7_joinAll_47 : decode cX7_joinAll 47 = .ok (.getfield 72, 3) := by decide +kernel
theorem dX7_joinAll_50 : decode cX7_joinAll 50 = .ok (.aload_n 1, 1) := by decide +kernel
theorem dX7_joinAll_51 : decode cX7_joinAll 51 = .ok (.getfield 76, 3) := by decide +kernel
theorem dX7_joinAll_54 : decode cX7_joinAll 54 = .ok (.invokevirtual 80, 3) := by decide +kernel
theorem dX7_joinAll_57 : decode cX7_joinAll 57 = .ok (.ifCond .ne 13, 3) := by decide +kernel
theorem dX7_joinAll_60 : decode cX7_joinAll 60 = .ok (.aload_n 0, 1) := by decide +kernel
theorem dX7_joinAll_61 : decode cX7_joinAll 61 = .ok (.iload_n 3, 1) := by decide +kernel
theorem dX7_joinAll_62 : decode cX7_joinAll 62 = .ok (.invokevirtual 84, 3) := by decide +kernel
theorem dX7_joinAll_65 : decode cX7_joinAll 65 = .ok (.aload_n 1, 1) := by decide +kernel
theorem dX7_joinAll_66 : decode cX7_joinAll 66 = .ok (.invokevirtual 87, 3) := by decide +kernel
theorem dX7_joinAll_69 : decode cX7_joinAll 69 = .ok (.ireturn, 1) := by decide +kernel
theorem dX7_joinAll_70 : decode cX7_joinAll 70 = .ok (.aload_n 1, 1) := by decide +kernel
theorem dX7_joinAll_71 : decode cX7_joinAll 71 = .ok (.getfield 72, 3) := by decide +kernel
theorem dX7_joinAll_74 : decode cX7_joinAll 74 = .ok (.bipush 6, 2) := by decide +kernel
theorem dX7_joinAll_76 : decode cX7_joinAll 76 = .ok (.if_icmp .eq 11, 3) := by decide +kernel
theorem dX7_joinAll_79 : decode cX7_joinAll 79 = .ok (.aload_n 1, 1) := by decide +kernel
theorem dX7_joinAll_80 : decode cX7_joinAll 80 = .ok (.getfield 72, 3) := by decide +kernel
theorem dX7_joinAll_83 : decode cX7_joinAll 83 = .ok (.iconst 5, 1) := by decide +kernel
theorem dX7_joinAll_84 : decode cX7_joinAll 84 = .ok (.if_icmp .ne 6, 3) := by decide +kernel
theorem dX7_joinAll_87 : decode cX7_joinAll 87 = .ok (.iinc 2 1, 3) := by decide +kernel
theorem dX7_joinAll_90 : decode cX7_joinAll 90 = .ok (.iinc 4 1, 3) := by decide +kernel
theorem dX7_joinAll_93 : decode cX7_joinAll 93 = .ok (.goto (-70), 3) := by decide +kernel
theorem dX7_joinAll_96 : decode cX7_joinAll 96 = .ok (.iconst 0, 1) := by decide +kernel
theorem dX7_joinAll_97 : decode cX7_joinAll 97 = .ok (.istore 4, 2) := by decide +kernel
theorem dX7_joinAll_99 : decode cX7_joinAll 99 = .ok (.iload 4, 2) := by decide +kernel
theorem dX7_joinAll_101 : decode cX7_joinAll 101 = .ok (.aload_n 0, 1) := by decide +kernel
theorem dX7_joinAll_102 : decode cX7_joinAll 102 = .ok (.getfield 12, 3) := by decide +kernel
theorem dX7_joinAll_105 : decode cX7_joinAll 105 = .ok (.invokevirtual 59, 3) := by decide +kernel
theorem dX7_joinAll_108 : decode cX7_joinAll 108 = .ok (.if_icmp .ge 24, 3) := by decide +kernel
theorem dX7_joinAll_111 : decode cX7_joinAll 111 = .ok (.aload_n 0, 1) := by decide +kernel
theorem dX7_joinAll_112 : decode cX7_joinAll 112 = .ok (.getfield 12, 3) := by decide +kernel
theorem dX7_joinAll_115 : decode cX7_joinAll 115 = .ok (.iload 4, 2) := by decide +kernel
theorem dX7_joinAll_117 : decode cX7_joinAll 117 = .ok (.invokevirtual 90, 3) := by decide +kernel
theorem dX7_joinAll_120 : decode cX7_joinAll 120 = .ok (.checkcast 34, 3) := by decide +kernel
theorem dX7_joinAll_123 : decode cX7_joinAll 123 = .ok (.invokevirtual 94, 3) := by decide +kernel
theorem dX7_joinAll_126 : decode cX7_joinAll 126 = .ok (.iinc 4 1, 3) := by decide +kernel
theorem dX7_joinAll_129 : decode cX7_joinAll 129 = .ok (.goto (-30), 3) := by decide +kernel
theorem dX7_joinAll_132 : decode cX7_joinAll 132 = .ok (.iload_n 2, 1) := by decide +kernel
theorem dX7_joinAll_133 : decode cX7_joinAll 133 = .ok (.ifCond .le 7, 3) := by decide +kernel
theorem dX7_joinAll_136 : decode cX7_joinAll 136 = .ok (.iload_n 2, 1) := by decide +kernel
theorem dX7_joinAll_137 : decode cX7_joinAll 137 = .ok (.goto 12, 3) := by decide +kernel
theorem dX7_joinAll_140 : decode cX7_joinAll 140 = .ok (.iconst (-1), 1) := by decide +kernel
theorem dX7_joinAll_141 : decode cX7_joinAll 141 = .ok (.aload_n 1, 1) := by decide +kernel
theorem dX7_joinAll_142 : decode cX7_joinAll 142 = .ok (.getfield 97, 3) := by decide +kernel
theorem dX7_joinAll_145 : decode cX7_joinAll 145 = .ok (.getfield 100, 3) := by decide +kernel
theorem dX7_joinAll_148 : decode cX7_joinAll 148 = .ok (.isub, 1) := by decide +kernel
theorem dX7_joinAll_149 : decode cX7_joinAll 149 = .ok (.ireturn, 1) := by decide +kernel
theorem dX8_init_0 : decode cX8_init 0 = .ok (.aload_n 0, 1) := by decide +kernel
theorem dX8_init_1 : decode cX8_init 1 = .ok (.aload_n 1, 1) := by decide +kernel
theorem dX8_init_2 : decode cX8_init 2 = .ok (.iconst 0, 1) := by decide +kernel
theorem dX8_init_3 : decode cX8_init 3 = .ok (.aload_n 1, 1) := by decide +kernel
theorem dX8_init_4 : decode cX8_init 4 = .ok (.arraylength, 1) := by decide +kernel
theorem dX8_init_5 : decode cX8_init 5 = .ok (.invokespecial 3, 3) := by decide +kernel
theorem dX8_init_8 : decode cX8_init 8 = .ok (.return_, 1) := by decide +kernel
theorem dX9_init_0 : decode cX9_init 0 = .ok (.aload_n 0, 1) := by decide +kernel
theorem dX9_init_1 : decode cX9_init 1 = .ok (.invokespecial 3, 3) := by decide +kernel
theorem dX9_init_4 : decode cX9_init 4 = .ok (.aload_n 0, 1) := by decide +kernel
theorem dX9_init_5 : decode cX9_init 5 = .ok (.new 9, 3) := by decide +kernel
theorem dX9_init_8 : decode cX9_init 8 = .ok (.dup, 1) := by decide +kernel
theorem dX9_init_9 : decode cX9_init 9 = .ok (.sipush 1024, 3) := by decide +kernel
theorem dX9_init_12 : decode cX9_init 12 = .ok (.invokespecial 11, 3) := by decide +kernel
theorem dX9_init_15 : decode cX9_init 15 = .ok (.putfield 14, 3) := by decide +kernel
theorem dX9_init_18 : decode cX9_init 18 = .ok (.aload_n 0, 1) := by decide +kernel
theorem dX9_init_19 : decode cX9_init 19 = .ok (.aload_n 0, 1) := by decide +kernel
theorem dX9_init_20 : decode cX9_init 20 = .ok (.getfield 14, 3) := by decide +kernel
theorem dX9_init_23 : decode cX9_init 23 = .ok (.putfield 20, 3) := by decide +kernel
theorem dX9_init_26 : decode cX9_init 26 = .ok (.return_, 1) := by decide +kernel
theorem dX9_label_0 : decode cX9_label 0 = .ok (.iload_n 0, 1) := by decide +kernel
theorem dX9_label_1 : decode cX9_label 1 = .ok (.ifCond .ne 8, 3) := by decide +kernel
theorem dX9_label_4 : decode cX9_label 4 = .ok (.ldc 24, 2) := by decide +kernel
theorem dX9_label_6 : decode cX9_label 6 = .ok (.goto 15, 3) := by decide +kernel
theorem dX9_label_9 : decode cX9_label 9 = .ok (.iload_n 0, 1) := by decide +kernel
theorem dX9_label_10 : decode cX9_label 10 = .ok (.iconst 1, 1) := by decide +kernel
theorem dX9_label_11 : decode cX9_label 11 = .ok (.if_icmp .ne 8, 3) := by decide +kernel
theorem dX9_label_14 : decode cX9_label 14 = .ok (.ldc 26, 2) := by decide +kernel
theorem dX9_label_16 : decode cX9_label 16 = .ok (.goto 5, 3) := by decide +kernel
theorem dX9_label_19 : decode cX9_label 19 = .ok (.ldc 28, 2) := by decide +kernel
theorem dX9_label_21 : decode cX9_label 21 = .ok (.areturn, 1) := by decide +kernel
theorem dX9_sumOf_0 : decode cX9_sumOf 0 = .ok (.ldc 30, 2) := by decide +kernel
theorem dX9_sumOf_2 : decode cX9_sumOf 2 = .ok (.istore_n 1, 1) := by decide +kernel
theorem dX9_sumOf_3 : decode cX9_sumOf 3 = .ok (.iconst 0, 1) := by decide +kernel
theorem dX9_sumOf_4 : decode cX9_sumOf 4 = .ok (.istore_n 2, 1) := by decide +kernel
theorem dX9_sumOf_5 : decode cX9_sumOf 5 = .ok (.iload_n 2, 1) := by decide +kernel
theorem dX9_sumOf_6 : decode cX9_sumOf 6 = .ok (.aload_n 0, 1) := by decide +kernel
theorem dX9_sumOf_7 : decode cX9_sumOf 7 = .ok (.getfield 31, 3) := by decide +kernel
theorem dX9_sumOf_10 : decode cX9_sumOf 10 = .ok (.if_icmp .ge 50, 3) := by decide +kernel
theorem dX9_sumOf_13 : decode cX9_sumOf 13 = .ok (.iload_n 1, 1) := by decide +kernel
theorem dX9_sumOf_14 : decode cX9_sumOf 14 = .ok (.aload_n 0, 1) := by decide +kernel
theorem dX9_sumOf_15 : decode cX9_sumOf 15 = .ok (.iload_n 2, 1) := by decide +kernel
theorem dX9_sumOf_16 : decode cX9_sumOf 16 = .ok (.invokevirtual 37, 3) := by decide +kernel
theorem dX9_sumOf_19 : decode cX9_sumOf 19 = .ok (.bipush 16, 2) := by decide +kernel
theorem dX9_sumOf_21 : decode cX9_sumOf 21 = .ok (.ishl, 1) := by decide +kernel
theorem dX9_sumOf_22 : decode cX9_sumOf 22 = .ok (.ixor, 1) := by decide +kernel
theorem dX9_sumOf_23 : decode cX9_sumOf 23 = .ok (.istore_n 1, 1) := by decide +kernel
theorem dX9_sumOf_24 : decode cX9_sumOf 24 = .ok (.iconst 0, 1) := by decide +kernel
theorem dX9_sumOf_25 : decode cX9_sumOf 25 = .ok (.istore_n 3, 1) := by decide +kernel
theorem dX9_sumOf_26 : decode cX9_sumOf 26 = .ok (.iload_n 3, 1) := by decide +kernel
theorem dX9_sumOf_27 : decode cX9_sumOf 27 = .ok (.bipush 8, 2) := by decide +kernel
theorem dX9_sumOf_29 : decode cX9_sumOf 29 = .ok (.if_icmp .ge 25, 3) := by decide +kernel
theorem dX9_sumOf_32 : decode cX9_sumOf 32 = .ok (.iload_n 1, 1) := by decide +kernel
theorem dX9_sumOf_33 : decode cX9_sumOf 33 = .ok (.iconst 1, 1) := by decide +kernel
theorem dX9_sumOf_34 : decode cX9_sumOf 34 = .ok (.ishl, 1) := by decide +kernel
theorem dX9_sumOf_35 : decode cX9_sumOf 35 = .ok (.istore_n 1, 1) := by decide +kernel
theorem dX9_sumOf_36 : decode cX9_sumOf 36 = .ok (.iload_n 1, 1) := by decide +kernel
theorem dX9_sumOf_37 : decode cX9_sumOf 37 = .ok (.ldc 41, 2) := by decide +kernel
theorem dX9_sumOf_39 : decode cX9_sumOf 39 = .ok (.iand, 1) := by decide +kernel
theorem dX9_sumOf_40 : decode cX9_sumOf 40 = .ok (.ifCond .eq 8, 3) := by decide +kernel
theorem dX9_sumOf_43 : decode cX9_sumOf 43 = .ok (.iload_n 1, 1) := by decide +kernel
theorem dX9_sumOf_44 : decode cX9_sumOf 44 = .ok (.ldc 42, 2) := by decide +kernel
theorem dX9_sumOf_46 : decode cX9_sumOf 46 = .ok (.ixor, 1) := by decide +kernel
theorem dX9_sumOf_47 : decode cX9_sumOf 47 = .ok (.istore_n 1, 1) := by decide +kernel
theorem dX9_sumOf_48 : decode cX9_sumOf 48 = .ok (.iinc 3 1, 3) := by decide +kernel
theorem dX9_sumOf_51 : decode cX9_sumOf 51 = .ok (.goto (-25), 3) := by decide +kernel
theorem dX9_sumOf_54 : decode cX9_sumOf 54 = .ok (.iinc 2 1, 3) := by decide +kernel
theorem dX9_sumOf_57 : decode cX9_sumOf 57 = .ok (.goto (-52), 3) := by decide +kernel
theorem dX9_sumOf_60 : decode cX9_sumOf 60 = .ok (.iload_n 1, 1) := by decide +kernel
theorem dX9_sumOf_61 : decode cX9_sumOf 61 = .ok (.ireturn, 1) := by decide +kernel
theorem dX9_signOf_0 : decode cX9_signOf 0 = .ok (.iload_n 0, 1) := by decide +kernel
theorem dX9_signOf_1 : decode cX9_signOf 1 = .ok (.bipush 26, 2) := by decide +kernel
theorem dX9_signOf_3 : decode cX9_signOf 3 = .ok (.if_icmp .ge 8, 3) := by decide +kernel
theorem dX9_signOf_6 : decode cX9_signOf 6 = .ok (.bipush 65, 2) := by decide +kernel
theorem dX9_signOf_8 : decode cX9_signOf 8 = .ok (.iload_n 0, 1) := by decide +kernel
theorem dX9_signOf_9 : decode cX9_signOf 9 = .ok (.iadd, 1) := by decide +kernel
theorem dX9_signOf_10 : decode cX9_signOf 10 = .ok (.ireturn, 1) := by decide +kernel
theorem dX9_signOf_11 : decode cX9_signOf 11 = .ok (.iload_n 0, 1) := by decide +kernel
theorem dX9_signOf_12 : decode cX9_signOf 12 = .ok (.bipush 52, 2) := by decide +kernel
theorem dX9_signOf_14 : decode cX9_signOf 14 = .ok (.if_icmp .ge 11, 3) := by decide +kernel
theorem dX9_signOf_17 : decode cX9_signOf 17 = .ok (.bipush 97, 2) := by decide +kernel
theorem dX9_signOf_19 : decode cX9_signOf 19 = .ok (.iload_n 0, 1) := by decide +kernel
theorem dX9_signOf_20 : decode cX9_signOf 20 = .ok (.iadd, 1) := by decide +kernel
theorem dX9_signOf_21 : decode cX9_signOf 21 = .ok (.bipush 26, 2) := by decide +kernel
theorem dX9_signOf_23 : decode cX9_signOf 23 = .ok (.isub, 1) := by decide +kernel
theorem dX9_signOf_24 : decode cX9_signOf 24 = .ok (.ireturn, 1) := by decide +kernel
theorem dX9_signOf_25 : decode cX9_signOf 25 = .ok (.iload_n 0, 1) := by decide +kernel
theorem dX9_signOf_26 : decode cX9_signOf 26 = .ok (.bipush 62, 2) := by decide +kernel
theorem dX9_signOf_28 : decode cX9_signOf 28 = .ok (.if_icmp .ge 13, 3) := by decide +kernel
theorem dX9_signOf_31 : decode cX9_signOf 31 = .ok (.bipush 48, 2) := by decide +kernel
theorem dX9_signOf_33 : decode cX9_signOf 33 = .ok (.iload_n 0, 1) := by decide +kernel
theorem dX9_signOf_34 : decode cX9_signOf 34 = .ok (.iadd, 1) := by decide +kernel
theorem dX9_signOf_35 : decode cX9_signOf 35 = .ok (.bipush 52, 2) := by decide +kernel
theorem dX9_signOf_37 : decode cX9_signOf 37 = .ok (.isub, 1) := by decide +kernel
theorem dX9_signOf_38 : decode cX9_signOf 38 = .ok (.goto 16, 3) := by decide +kernel
theorem dX9_signOf_41 : decode cX9_signOf 41 = .ok (.iload_n 0, 1) := by decide +kernel
theorem dX9_signOf_42 : decode cX9_signOf 42 = .ok (.bipush 62, 2) := by decide +kernel
theorem dX9_signOf_44 : decode cX9_signOf 44 = .ok (.if_icmp .ne 8, 3) := by decide +kernel
theorem dX9_signOf_47 : decode cX9_signOf 47 = .ok (.bipush 43, 2) := by decide +kernel
theorem dX9_signOf_49 : decode cX9_signOf 49 = .ok (.goto 5, 3) := by decide +kernel
theorem dX9_signOf_52 : decode cX9_signOf 52 = .ok (.bipush 47, 2) := by decide +kernel
theorem dX9_signOf_54 : decode cX9_signOf 54 = .ok (.ireturn, 1) := by decide +kernel
theorem dX9_write_0 : decode cX9_write 0 = .ok (.aload_n 2, 1) := by decide +kernel
theorem dX9_write_1 : decode cX9_write 1 = .ok (.ldc 82, 2) := by decide +kernel
theorem dX9_write_3 : decode cX9_write 3 = .ok (.invokevirtual 149, 3) := by decide +kernel
theorem dX9_write_6 : decode cX9_write 6 = .ok (.aload_n 2, 1) := by decide +kernel
theorem dX9_write_7 : decode cX9_write 7 = .ok (.iload_n 1, 1) := by decide +kernel
theorem dX9_write_8 : decode cX9_write 8 = .ok (.invokestatic 84, 3) := by decide +kernel
theorem dX9_write_11 : decode cX9_write 11 = .ok (.invokevirtual 149, 3) := by decide +kernel
theorem dX9_write_14 : decode cX9_write 14 = .ok (.aload_n 2, 1) := by decide +kernel
theorem dX9_write_15 : decode cX9_write 15 = .ok (.ldc 80, 2) := by decide +kernel
theorem dX9_write_17 : decode cX9_write 17 = .ok (.invokevirtual 149, 3) := by decide +kernel
theorem dX9_write_20 : decode cX9_write 20 = .ok (.aload_n 2, 1) := by decide +kernel
theorem dX9_write_21 : decode cX9_write 21 = .ok (.bipush 10, 2) := by decide +kernel
theorem dX9_write_23 : decode cX9_write 23 = .ok (.invokevirtual 135, 3) := by decide +kernel
theorem dX9_write_26 : decode cX9_write 26 = .ok (.aload_n 2, 1) := by decide +kernel
theorem dX9_write_27 : decode cX9_write 27 = .ok (.bipush 10, 2) := by decide +kernel
theorem dX9_write_29 : decode cX9_write 29 = .ok (.invokevirtual 135, 3) := by decide +kernel
theorem dX9_write_32 : decode cX9_write 32 = .ok (.iconst 0, 1) := by decide +kernel
theorem dX9_write_33 : decode cX9_write 33 = .ok (.istore_n 3, 1) := by decide +kernel
theorem dX9_write_34 : decode cX9_write 34 = .ok (.iload_n 3, 1) := by decide +kernel
theorem dX9_write_35 : decode cX9_write 35 = .ok (.aload_n 0, 1) := by decide +kernel
theorem dX9_write_36 : decode cX9_write 36 = .ok (.getfield 31, 3) := by decide +kernel
theorem dX9_write_39 : decode cX9_write 39 = .ok (.if_icmp .ge 54, 3) := by decide +kernel
theorem dX9_write_42 : decode cX9_write 42 = .ok (.aload_n 0, 1) := by decide +kernel
theorem dX9_write_43 : decode cX9_write 43 = .ok (.iload_n 3, 1) := by decide +kernel
theorem dX9_write_44 : decode cX9_write 44 = .ok (.iconst 3, 1) := by decide +kernel
theorem dX9_write_45 : decode cX9_write 45 = .ok (.invokevirtual 153, 3) := by decide +kernel
theorem dX9_write_48 : decode cX9_write 48 = .ok (.aload_n 0, 1) := by decide +kernel
theorem dX9_write_49 : decode cX9_write 49 = .ok (.getfield 31, 3) := by decide +kernel
theorem dX9_write_52 : decode cX9_write 52 = .ok (.iload_n 3, 1) := by decide +kernel
theorem dX9_write_53 : decode cX9_write 53 = .ok (.isub, 1) := by decide +kernel
theorem dX9_write_54 : decode cX9_write 54 = .ok (.iconst 3, 1) := by decide +kernel
theorem dX9_write_55 : decode cX9_write 55 = .ok (.invokestatic 52, 3) := by decide +kernel
theorem dX9_write_58 : decode cX9_write 58 = .ok (.aload_n 2, 1) := by decide +kernel
theorem dX9_write_59 : decode cX9_write 59 = .ok (.invokestatic 157, 3) := by decide +kernel
theorem dX9_write_62 : decode cX9_write 62 = .ok (.iload_n 3, 1) := by decide +kernel
theorem dX9_write_63 : decode cX9_write 63 = .ok (.bipush 48, 2) := by decide +kernel
theorem dX9_write_65 : decode cX9_write 65 = .ok (.irem, 1) := by decide +kernel
theorem dX9_write_66 : decode cX9_write 66 = .ok (.bipush 45, 2) := by decide +kernel
theorem dX9_write_68 : decode cX9_write 68 = .ok (.if_icmp .eq 13, 3) := by decide +kernel
theorem dX9_write_71 : decode cX9_write 71 = .ok (.iload_n 3, 1) := by decide +kernel
theorem dX9_write_72 : decode cX9_write 72 = .ok (.iconst 3, 1) := by decide +kernel
theorem dX9_write_73 : decode cX9_write 73 = .ok (.iadd, 1) := by decide +kernel
theorem dX9_write_74 : decode cX9_write 74 = .ok (.aload_n 0, 1) := by decide +kernel
theorem dX9_write_75 : decode cX9_write 75 = .ok (.getfield 31, 3) := by decide +kernel
theorem dX9_write_78 : decode cX9_write 78 = .ok (.if_icmp .lt 9, 3) := by decide +kernel
theorem dX9_write_81 : decode cX9_write 81 = .ok (.aload_n 2, 1) := by decide +kernel
theorem dX9_write_82 : decode cX9_write 82 = .ok (.bipush 10, 2) := by decide +kernel
theorem dX9_write_84 : decode cX9_write 84 = .ok (.invokevirtual 135, 3) := by decide +kernel
theorem dX9_write_87 : decode cX9_write 87 = .ok (.iinc 3 3, 3) := by decide +kernel
theorem dX9_write_90 : decode cX9_write 90 = .ok (.goto (-56), 3) := by decide +kernel
theorem dX9_write_93 : decode cX9_write 93 = .ok (.aload_n 2, 1) := by decide +kernel
theorem dX9_write_94 : decode cX9_write 94 = .ok (.bipush 61, 2) := by decide +kernel
theorem dX9_write_96 : decode cX9_write 96 = .ok (.invokevirtual 135, 3) := by decide +kernel
theorem dX9_write_99 : decode cX9_write 99 = .ok (.aload_n 0, 1) := by decide +kernel
theorem dX9_write_100 : decode cX9_write 100 = .ok (.invokestatic 138, 3) := by decide +kernel
theorem dX9_write_103 : decode cX9_write 103 = .ok (.i2l, 1) := by decide +kernel
theorem dX9_write_104 : decode cX9_write 104 = .ok (.iconst 3, 1) := by decide +kernel
theorem dX9_write_105 : decode cX9_write 105 = .ok (.aload_n 2, 1) := by decide +kernel
theorem dX9_write_106 : decode cX9_write 106 = .ok (.invokestatic 157, 3) := by decide +kernel
theorem dX9_write_109 : decode cX9_write 109 = .ok (.aload_n 2, 1) := by decide +kernel
theorem dX9_write_110 : decode cX9_write 110 = .ok (.bipush 10, 2) := by decide +kernel
theorem dX9_write_112 : decode cX9_write 112 = .ok (.invokevirtual 135, 3) := by decide +kernel
theorem dX9_write_115 : decode cX9_write 115 = .ok (.aload_n 2, 1) := by decide +kernel
theorem dX9_write_116 : decode cX9_write 116 = .ok (.ldc 113, 2) := by decide +kernel
theorem dX9_write_118 : decode cX9_write 118 = .ok (.invokevirtual 149, 3) := by decide +kernel
theorem dX9_write_121 : decode cX9_write 121 = .ok (.aload_n 2, 1) := by decide +kernel
theorem dX9_write_122 : decode cX9_write 122 = .ok (.iload_n 1, 1) := by decide +kernel
theorem dX9_write_123 : decode cX9_write 123 = .ok (.invokestatic 84, 3) := by decide +kernel
theorem dX9_write_126 : decode cX9_write 126 = .ok (.invokevirtual 149, 3) := by decide +kernel
theorem dX9_write_129 : decode cX9_write 129 = .ok (.aload_n 2, 1) := by decide +kernel
theorem dX9_write_130 : decode cX9_write 130 = .ok (.ldc 80, 2) := by decide +kernel
theorem dX9_write_132 : decode cX9_write 132 = .ok (.invokevirtual 149, 3) := by decide +kernel
theorem dX9_write_135 : decode cX9_write 135 = .ok (.aload_n 2, 1) := by decide +kernel
theorem dX9_write_136 : decode cX9_write 136 = .ok (.bipush 10, 2) := by decide +kernel
theorem dX9_write_138 : decode cX9_write 138 = .ok (.invokevirtual 135, 3) := by decide +kernel
theorem dX9_write_141 : decode cX9_write 141 = .ok (.return_, 1) := by decide +kernel
theorem dX9_writeGroup_0 : decode cX9_writeGroup 0 = .ok (.iconst 0, 1) := by decide +kernel
theorem dX9_writeGroup_1 : decode cX9_writeGroup 1 = .ok (.istore 4, 2) := by decide +kernel
theorem dX9_writeGroup_3 : decode cX9_writeGroup 3 = .ok (.iload 4, 2) := by decide +kernel
theorem dX9_writeGroup_5 : decode cX9_writeGroup 5 = .ok (.iconst 4, 1) := by decide +kernel
theorem dX9_writeGroup_6 : decode cX9_writeGroup 6 = .ok (.if_icmp .ge 41, 3) := by decide +kernel
theorem dX9_writeGroup_9 : decode cX9_writeGroup 9 = .ok (.aload_n 3, 1) := by decide +kernel
theorem dX9_writeGroup_10 : decode cX9_writeGroup 10 = .ok (.iload 4, 2) := by decide +kernel
theorem dX9_writeGroup_12 : decode cX9_writeGroup 12 = .ok (.iload_n 2, 1) := by decide +kernel
theorem dX9_writeGroup_13 : decode cX9_writeGroup 13 = .ok (.if_icmp .gt 23, 3) := by decide +kernel
theorem dX9_writeGroup_16 : decode cX9_writeGroup 16 = .ok (.lload_n 0, 1) := by decide +kernel
theorem dX9_writeGroup_17 : decode cX9_writeGroup 17 = .ok (.bipush 18, 2) := by decide +kernel
theorem dX9_writeGroup_19 : decode cX9_writeGroup 19 = .ok (.bipush 6, 2) := by decide +kernel
theorem dX9_writeGroup_21 : decode cX9_writeGroup 21 = .ok (.iload 4, 2) := by decide +kernel
theorem dX9_writeGroup_23 : decode cX9_writeGroup 23 = .ok (.imul, 1) := by decide +kernel
theorem dX9_writeGroup_24 : decode cX9_writeGroup 24 = .ok (.isub, 1) := by decide +kernel
theorem dX9_writeGroup_25 : decode cX9_writeGroup 25 = .ok (.lshr, 1) := by decide +kernel
theorem dX9_writeGroup_26 : decode cX9_writeGroup 26 = .ok (.l2i, 1) := by decide +kernel
theorem dX9_writeGroup_27 : decode cX9_writeGroup 27 = .ok (.bipush 63, 2) := by decide +kernel
theorem dX9_writeGroup_29 : decode cX9_writeGroup 29 = .ok (.iand, 1) := by decide +kernel
theorem dX9_writeGroup_30 : decode cX9_writeGroup 30 = .ok (.invokestatic 161, 3) := by decide +kernel
theorem dX9_writeGroup_33 : decode cX9_writeGroup 33 = .ok (.goto 5, 3) := by decide +kernel
theorem dX9_writeGroup_36 : decode cX9_writeGroup 36 = .ok (.bipush 61, 2) := by decide +kernel
theorem dX9_writeGroup_38 : decode cX9_writeGroup 38 = .ok (.invokevirtual 135, 3) := by decide +kernel
theorem dX9_writeGroup_41 : decode cX9_writeGroup 41 = .ok (.iinc 4 1, 3) := by decide +kernel
theorem dX9_writeGroup_44 : decode cX9_writeGroup 44 = .ok (.goto (-41), 3) := by decide +kernel
theorem dX9_writeGroup_47 : decode cX9_writeGroup 47 = .ok (.return_, 1) := by decide +kernel
theorem dX10_init_0 : decode cX10_init 0 = .ok (.aload_n 0, 1) := by decide +kernel
theorem dX10_init_1 : decode cX10_init 1 = .ok (.invokespecial 1, 3) := by decide +kernel
theorem dX10_init_4 : decode cX10_init 4 = .ok (.aload_n 0, 1) := by decide +kernel
theorem dX10_init_5 : decode cX10_init 5 = .ok (.aload_n 1, 1) := by decide +kernel
theorem dX10_init_6 : decode cX10_init 6 = .ok (.putfield 7, 3) := by decide +kernel
theorem dX10_init_9 : decode cX10_init 9 = .ok (.aload_n 0, 1) := by decide +kernel
theorem dX10_init_10 : decode cX10_init 10 = .ok (.iload_n 2, 1) := by decide +kernel
theorem dX10_init_11 : decode cX10_init 11 = .ok (.putfield 13, 3) := by decide +kernel
theorem dX10_init_14 : decode cX10_init 14 = .ok (.aload_n 0, 1) := by decide +kernel
theorem dX10_init_15 : decode cX10_init 15 = .ok (.iload_n 3, 1) := by decide +kernel
theorem dX10_init_16 : decode cX10_init 16 = .ok (.putfield 17, 3) := by decide +kernel
theorem dX10_init_19 : decode cX10_init 19 = .ok (.return_, 1) := by decide +kernel
theorem dX10_view_0 : decode cX10_view 0 = .ok (.aload_n 0, 1) := by decide +kernel
theorem dX10_view_1 : decode cX10_view 1 = .ok (.aload_n 1, 1) := by decide +kernel
theorem dX10_view_2 : decode cX10_view 2 = .ok (.putfield 7, 3) := by decide +kernel
theorem dX10_view_5 : decode cX10_view 5 = .ok (.aload_n 0, 1) := by decide +kernel
theorem dX10_view_6 : decode cX10_view 6 = .ok (.iload_n 2, 1) := by decide +kernel
theorem dX10_view_7 : decode cX10_view 7 = .ok (.putfield 13, 3) := by decide +kernel
theorem dX10_view_10 : decode cX10_view 10 = .ok (.aload_n 0, 1) := by decide +kernel
theorem dX10_view_11 : decode cX10_view 11 = .ok (.iload_n 3, 1) := by decide +kernel
theorem dX10_view_12 : decode cX10_view 12 = .ok (.putfield 17, 3) := by decide +kernel
theorem dX10_view_15 : decode cX10_view 15 = .ok (.return_, 1) := by decide +kernel
theorem dX10_at_0 : decode cX10_at 0 = .ok (.aload_n 0, 1) := by decide +kernel
theorem dX10_at_1 : decode cX10_at 1 = .ok (.getfield 13, 3) := by decide +kernel
theorem dX10_at_4 : decode cX10_at 4 = .ok (.iload_n 1, 1) := by decide +kernel
theorem dX10_at_5 : decode cX10_at 5 = .ok (.iadd, 1) := by decide +kernel
theorem dX10_at_6 : decode cX10_at 6 = .ok (.istore_n 2, 1) := by decide +kernel
theorem dX10_at_7 : decode cX10_at 7 = .ok (.iload_n 1, 1) := by decide +kernel
theorem dX10_at_8 : decode cX10_at 8 = .ok (.ifCond .lt 37, 3) := by decide +kernel
theorem dX10_at_11 : decode cX10_at 11 = .ok (.iload_n 1, 1) := by decide +kernel
theorem dX10_at_12 : decode cX10_at 12 = .ok (.aload_n 0, 1) := by decide +kernel
theorem dX10_at_13 : decode cX10_at 13 = .ok (.getfield 17, 3) := by decide +kernel
theorem dX10_at_16 : decode cX10_at 16 = .ok (.if_icmp .ge 29, 3) := by decide +kernel
theorem dX10_at_19 : decode cX10_at 19 = .ok (.iload_n 2, 1) := by decide +kernel
theorem dX10_at_20 : decode cX10_at 20 = .ok (.ifCond .lt 25, 3) := by decide +kernel
theorem dX10_at_23 : decode cX10_at 23 = .ok (.iload_n 2, 1) := by decide +kernel
theorem dX10_at_24 : decode cX10_at 24 = .ok (.aload_n 0, 1) := by decide +kernel
theorem dX10_at_25 : decode cX10_at 25 = .ok (.getfield 7, 3) := by decide +kernel
theorem dX10_at_28 : decode cX10_at 28 = .ok (.arraylength, 1) := by decide +kernel
theorem dX10_at_29 : decode cX10_at 29 = .ok (.if_icmp .ge 16, 3) := by decide +kernel
theorem dX10_at_32 : decode cX10_at 32 = .ok (.aload_n 0, 1) := by decide +kernel
theorem dX10_at_33 : decode cX10_at 33 = .ok (.getfield 7, 3) := by decide +kernel
theorem dX10_at_36 : decode cX10_at 36 = .ok (.iload_n 2, 1) := by decide +kernel
theorem dX10_at_37 : decode cX10_at 37 = .ok (.baload, 1) := by decide +kernel
theorem dX10_at_38 : decode cX10_at 38 = .ok (.sipush 255, 3) := by decide +kernel
theorem dX10_at_41 : decode cX10_at 41 = .ok (.iand, 1) := by decide +kernel
theorem dX10_at_42 : decode cX10_at 42 = .ok (.goto 4, 3) := by decide +kernel
theorem dX10_at_45 : decode cX10_at 45 = .ok (.iconst 0, 1) := by decide +kernel
theorem dX10_at_46 : decode cX10_at 46 = .ok (.ireturn, 1) := by decide +kernel
theorem dX10_number_0 : decode cX10_number 0 = .ok (.lconst 0, 1) := by decide +kernel
theorem dX10_number_1 : decode cX10_number 1 = .ok (.lstore_n 3, 1) := by decide +kernel
theorem dX10_number_2 : decode cX10_number 2 = .ok (.iconst 0, 1) := by decide +kernel
theorem dX10_number_3 : decode cX10_number 3 = .ok (.istore 5, 2) := by decide +kernel
theorem dX10_number_5 : decode cX10_number 5 = .ok (.iload 5, 2) := by decide +kernel
theorem dX10_number_7 : decode cX10_number 7 = .ok (.iload_n 2, 1) := by decide +kernel
theorem dX10_number_8 : decode cX10_number 8 = .ok (.if_icmp .ge 84, 3) := by decide +kernel
theorem dX10_number_11 : decode cX10_number 11 = .ok (.aload_n 0, 1) := by decide +kernel
theorem dX10_number_12 : decode cX10_number 12 = .ok (.getfield 13, 3) := by decide +kernel
theorem dX10_number_15 : decode cX10_number 15 = .ok (.iload_n 1, 1) := by decide +kernel
theorem dX10_number_16 : decode cX10_number 16 = .ok (.iadd, 1) := by decide +kernel
theorem dX10_number_17 : decode cX10_number 17 = .ok (.iload 5, 2) := by decide +kernel
theorem dX10_number_19 : decode cX10_number 19 = .ok (.iadd, 1) := by decide +kernel
theorem dX10_number_20 : decode cX10_number 20 = .ok (.istore 6, 2) := by decide +kernel
theorem dX10_number_22 : decode cX10_number 22 = .ok (.iload_n 1, 1) := by decide +kernel
theorem dX10_number_23 : decode cX10_number 23 = .ok (.ifCond .lt 33, 3) := by decide +kernel
theorem dX10_number_26 : decode cX10_number 26 = .ok (.iload_n 1, 1) := by decide +kernel
theorem dX10_number_27 : decode cX10_number 27 = .ok (.iload 5, 2) := by decide +kernel
theorem dX10_number_29 : decode cX10_number 29 = .ok (.iadd, 1) := by decide +kernel
theorem dX10_number_30 : decode cX10_number 30 = .ok (.aload_n 0, 1) := by decide +kernel
theorem dX10_number_31 : decode cX10_number 31 = .ok (.getfield 17, 3) := by decide +kernel
theorem dX10_number_34 : decode cX10_number 34 = .ok (.if_icmp .ge 22, 3) := by decide +kernel
theorem dX10_number_37 : decode cX10_number 37 = .ok (.iload 6, 2) := by decide +kernel
theorem dX10_number_39 : decode cX10_number 39 = .ok (.ifCond .lt 17, 3) := by decide +kernel
theorem dX10_number_42 : decode cX10_number 42 = .ok (.iload 6, 2) := by decide +kernel
theorem dX10_number_44 : decode cX10_number 44 = .ok (.aload_n 0, 1) := by decide +kernel
theorem dX10_number_45 : decode cX10_number 45 = .ok (.getfield 7, 3) := by decide +kernel
theorem dX10_number_48 : decode cX10_number 48 = .ok (.arraylength, 1) := by decide +kernel
theorem dX10_number_49 : decode cX10_number 49 = .ok (.if_icmp .ge 7, 3) := by decide +kernel
theorem dX10_number_52 : decode cX10_number 52 = .ok (.iconst 1, 1) := by decide +kernel
theorem dX10_number_53 : decode cX10_number 53 = .ok (.goto 4, 3) := by decide +kernel
theorem dX10_number_56 : decode cX10_number 56 = .ok (.iconst 0, 1) := by decide +kernel
theorem dX10_number_57 : decode cX10_number 57 = .ok (.istore 7, 2) := by decide +kernel
theorem dX10_number_59 : decode cX10_number 59 = .ok (.lload_n 3, 1) := by decide +kernel
theorem dX10_number_60 : decode cX10_number 60 = .ok (.bipush 8, 2) := by decide +kernel
theorem dX10_number_62 : decode cX10_number 62 = .ok (.lshl, 1) := by decide +kernel
theorem dX10_number_63 : decode cX10_number 63 = .ok (.iload 7, 2) := by decide +kernel
theorem dX10_number_65 : decode cX10_number 65 = .ok (.ifCond .eq 17, 3) := by decide +kernel
theorem dX10_number_68 : decode cX10_number 68 = .ok (.aload_n 0, 1) := by decide +kernel
theorem dX10_number_69 : decode cX10_number 69 = .ok (.getfield 7, 3) := by decide +kernel
theorem dX10_number_72 : decode cX10_number 72 = .ok (.iload 6, 2) := by decide +kernel
theorem dX10_number_74 : decode cX10_number 74 = .ok (.baload, 1) := by decide +kernel
theorem dX10_number_75 : decode cX10_number 75 = .ok (.sipush 255, 3) := by decide +kernel
theorem dX10_number_78 : decode cX10_number 78 = .ok (.iand, 1) := by decide +kernel
theorem dX10_number_79 : decode cX10_number 79 = .ok (.goto 4, 3) := by decide +kernel
theorem dX10_number_82 : decode cX10_number 82 = .ok (.iconst 0, 1) := by decide +kernel
theorem dX10_number_83 : decode cX10_number 83 = .ok (.i2l, 1) := by decide +kernel
theorem dX10_number_84 : decode cX10_number 84 = .ok (.lor, 1) := by decide +kernel
theorem dX10_number_85 : decode cX10_number 85 = .ok (.lstore_n 3, 1) := by decide +kernel
theorem dX10_number_86 : decode cX10_number 86 = .ok (.iinc 5 1, 3) := by decide +kernel
theorem dX10_number_89 : decode cX10_number 89 = .ok (.goto (-84), 3) := by decide +kernel
theorem dX10_number_92 : decode cX10_number 92 = .ok (.lload_n 3, 1) := by decide +kernel
theorem dX10_number_93 : decode cX10_number 93 = .ok (.lreturn, 1) := by decide +kernel
theorem dX11_init_0 : decode cX11_init 0 = .ok (.aload_n 0, 1) := by decide +kernel
theorem dX11_init_1 : decode cX11_init 1 = .ok (.invokespecial 1, 3) := by decide +kernel
theorem dX11_init_4 : decode cX11_init 4 = .ok (.aload_n 0, 1) := by decide +kernel
theorem dX11_init_5 : decode cX11_init 5 = .ok (.new 7, 3) := by decide +kernel
theorem dX11_init_8 : decode cX11_init 8 = .ok (.dup, 1) := by decide +kernel
theorem dX11_init_9 : decode cX11_init 9 = .ok (.sipush 4096, 3) := by decide +kernel
theorem dX11_init_12 : decode cX11_init 12 = .ok (.invokespecial 11, 3) := by decide +kernel
theorem dX11_init_15 : decode cX11_init 15 = .ok (.putfield 14, 3) := by decide +kernel
theorem dX11_init_18 : decode cX11_init 18 = .ok (.aload_n 0, 1) := by decide +kernel
theorem dX11_init_19 : decode cX11_init 19 = .ok (.new 7, 3) := by decide +kernel
theorem dX11_init_22 : decode cX11_init 22 = .ok (.dup, 1) := by decide +kernel
theorem dX11_init_23 : decode cX11_init 23 = .ok (.sipush 1024, 3) := by decide +kernel
theorem dX11_init_26 : decode cX11_init 26 = .ok (.invokespecial 11, 3) := by decide +kernel
theorem dX11_init_29 : decode cX11_init 29 = .ok (.putfield 18, 3) := by decide +kernel
theorem dX11_init_32 : decode cX11_init 32 = .ok (.aload_n 0, 1) := by decide +kernel
theorem dX11_init_33 : decode cX11_init 33 = .ok (.new 7, 3) := by decide +kernel
theorem dX11_init_36 : decode cX11_init 36 = .ok (.dup, 1) := by decide +kernel
theorem dX11_init_37 : decode cX11_init 37 = .ok (.sipush 1024, 3) := by decide +kernel
theorem dX11_init_40 : decode cX11_init 40 = .ok (.invokespecial 11, 3) := by decide +kernel
theorem dX11_init_43 : decode cX11_init 43 = .ok (.putfield 21, 3) := by decide +kernel
theorem dX11_init_46 : decode cX11_init 46 = .ok (.aload_n 0, 1) := by decide +kernel
theorem dX11_init_47 : decode cX11_init 47 = .ok (.new 7, 3) := by decide +kernel
theorem dX11_init_50 : decode cX11_init 50 = .ok (.dup, 1) := by decide +kernel
theorem dX11_init_51 : decode cX11_init 51 = .ok (.sipush 256, 3) := by decide +kernel
theorem dX11_init_54 : decode cX11_init 54 = .ok (.invokespecial 11, 3) := by decide +kernel
theorem dX11_init_57 : decode cX11_init 57 = .ok (.putfield 24, 3) := by decide +kernel
theorem dX11_init_60 : decode cX11_init 60 = .ok (.aload_n 0, 1) := by decide +kernel
theorem dX11_init_61 : decode cX11_init 61 = .ok (.new 27, 3) := by decide +kernel
theorem dX11_init_64 : decode cX11_init 64 = .ok (.dup, 1) := by decide +kernel
theorem dX11_init_65 : decode cX11_init 65 = .ok (.iconst 0, 1) := by decide +kernel
theorem dX11_init_66 : decode cX11_init 66 = .ok (.newarray .byte, 2) := by decide +kernel
theorem dX11_init_68 : decode cX11_init 68 = .ok (.iconst 0, 1) := by decide +kernel
theorem dX11_init_69 : decode cX11_init 69 = .ok (.iconst 0, 1) := by decide +kernel
theorem dX11_init_70 : decode cX11_init 70 = .ok (.invokespecial 29, 3) := by decide +kernel
theorem dX11_init_73 : decode cX11_init 73 = .ok (.putfield 32, 3) := by decide +kernel
theorem dX11_init_76 : decode cX11_init 76 = .ok (.aload_n 0, 1) := by decide +kernel
theorem dX11_init_77 : decode cX11_init 77 = .ok (.new 36, 3) := by decide +kernel
theorem dX11_init_80 : decode cX11_init 80 = .ok (.dup, 1) := by decide +kernel
theorem dX11_init_81 : decode cX11_init 81 = .ok (.invokespecial 38, 3) := by decide +kernel
theorem dX11_init_84 : decode cX11_init 84 = .ok (.putfield 39, 3) := by decide +kernel
theorem dX11_init_87 : decode cX11_init 87 = .ok (.aload_n 0, 1) := by decide +kernel
theorem dX11_init_88 : decode cX11_init 88 = .ok (.new 43, 3) := by decide +kernel
theorem dX11_init_91 : decode cX11_init 91 = .ok (.dup, 1) := by decide +kernel
theorem dX11_init_92 : decode cX11_init 92 = .ok (.invokespecial 45, 3) := by decide +kernel
theorem dX11_init_95 : decode cX11_init 95 = .ok (.putfield 46, 3) := by decide +kernel
theorem dX11_init_98 : decode cX11_init 98 = .ok (.aload_n 0, 1) := by decide +kernel
theorem dX11_init_99 : decode cX11_init 99 = .ok (.new 50, 3) := by decide +kernel
theorem dX11_init_102 : decode cX11_init 102 = .ok (.dup, 1) := by decide +kernel
theorem dX11_init_103 : decode cX11_init 103 = .ok (.invokespecial 52, 3) := by decide +kernel
theorem dX11_init_106 : decode cX11_init 106 = .ok (.putfield 53, 3) := by decide +kernel
theorem dX11_init_109 : decode cX11_init 109 = .ok (.aload_n 0, 1) := by decide +kernel
theorem dX11_init_110 : decode cX11_init 110 = .ok (.new 57, 3) := by decide +kernel
theorem dX11_init_113 : decode cX11_init 113 = .ok (.dup, 1) := by decide +kernel
theorem dX11_init_114 : decode cX11_init 114 = .ok (.invokespecial 59, 3) := by decide +kernel
theorem dX11_init_117 : decode cX11_init 117 = .ok (.putfield 60, 3) := by decide +kernel
theorem dX11_init_120 : decode cX11_init 120 = .ok (.aload_n 0, 1) := by decide +kernel
theorem dX11_init_121 : decode cX11_init 121 = .ok (.new 64, 3) := by decide +kernel
theorem dX11_init_124 : decode cX11_init 124 = .ok (.dup, 1) := by decide +kernel
theorem dX11_init_125 : decode cX11_init 125 = .ok (.invokespecial 66, 3) := by decide +kernel
theorem dX11_init_128 : decode cX11_init 128 = .ok (.putfield 67, 3) := by decide +kernel
theorem dX11_init_131 : decode cX11_init 131 = .ok (.aload_n 0, 1) := by decide +kernel
theorem dX11_init_132 : decode cX11_init 132 = .ok (.new 71, 3) := by decide +kernel
theorem dX11_init_135 : decode cX11_init 135 = .ok (.dup, 1) := by decide +kernel
theorem dX11_init_136 : decode cX11_init 136 = .ok (.iconst 0, 1) := by decide +kernel
theorem dX11_init_137 : decode cX11_init 137 = .ok (.newarray .byte, 2) := by decide +kernel
theorem dX11_init_139 : decode cX11_init 139 = .ok (.invokespecial 73, 3) := by decide +kernel
theorem dX11_init_142 : decode cX11_init 142 = .ok (.putfield 76, 3) := by decide +kernel
theorem dX11_init_145 : decode cX11_init 145 = .ok (.aload_n 0, 1) := by decide +kernel
theorem dX11_init_146 : decode cX11_init 146 = .ok (.new 7, 3) := by decide +kernel
theorem dX11_init_149 : decode cX11_init 149 = .ok (.dup, 1) := by decide +kernel
theorem dX11_init_150 : decode cX11_init 150 = .ok (.sipush 1024, 3) := by decide +kernel
theorem dX11_init_153 : decode cX11_init 153 = .ok (.invokespecial 11, 3) := by decide +kernel
theorem dX11_init_156 : decode cX11_init 156 = .ok (.putfield 80, 3) := by decide +kernel
theorem dX11_init_159 : decode cX11_init 159 = .ok (.aload_n 0, 1) := by decide +kernel
theorem dX11_init_160 : decode cX11_init 160 = .ok (.new 7, 3) := by decide +kernel
theorem dX11_init_163 : decode cX11_init 163 = .ok (.dup, 1) := by decide +kernel
theorem dX11_init_164 : decode cX11_init 164 = .ok (.sipush 1024, 3) := by decide +kernel
theorem dX11_init_167 : decode cX11_init 167 = .ok (.invokespecial 11, 3) := by decide +kernel
theorem dX11_init_170 : decode cX11_init 170 = .ok (.putfield 83, 3) := by decide +kernel
theorem dX11_init_173 : decode cX11_init 173 = .ok (.return_, 1) := by decide +kernel
theorem dX11_add_0 : decode cX11_add 0 = .ok (.iload_n 3, 1) := by decide +kernel
theorem dX11_add_1 : decode cX11_add 1 = .ok (.iconst 1, 1) := by decide +kernel
theorem dX11_add_2 : decode cX11_add 2 = .ok (.if_icmp .lt 24, 3) := by decide +kernel
theorem dX11_add_5 : decode cX11_add 5 = .ok (.iload_n 3, 1) := by decide +kernel
theorem dX11_add_6 : decode cX11_add 6 = .ok (.bipush 8, 2) := by decide +kernel
theorem dX11_add_8 : decode cX11_add 8 = .ok (.if_icmp .gt 18, 3) := by decide +kernel
theorem dX11_add_11 : decode cX11_add 11 = .ok (.aload_n 0, 1) := by decide +kernel
theorem dX11_add_12 : decode cX11_add 12 = .ok (.getfield 14, 3) := by decide +kernel
theorem dX11_add_15 : decode cX11_add 15 = .ok (.getfield 86, 3) := by decide +kernel
theorem dX11_add_18 : decode cX11_add 18 = .ok (.iload_n 3, 1) := by decide +kernel
theorem dX11_add_19 : decode cX11_add 19 = .ok (.iadd, 1) := by decide +kernel
theorem dX11_add_20 : decode cX11_add 20 = .ok (.sipush 4096, 3) := by decide +kernel
theorem dX11_add_23 : decode cX11_add 23 = .ok (.if_icmp .le 5, 3) := by decide +kernel
theorem dX11_add_26 : decode cX11_add 26 = .ok (.iconst 0, 1) := by decide +kernel
theorem dX11_add_27 : decode cX11_add 27 = .ok (.ireturn, 1) := by decide +kernel
theorem dX11_add_28 : decode cX11_add 28 = .ok (.iconst 0, 1) := by decide +kernel
theorem dX11_add_29 : decode cX11_add 29 = .ok (.istore 4, 2) := by decide +kernel
theorem dX11_add_31 : decode cX11_add 31 = .ok (.iload 4, 2) := by decide +kernel
theorem dX11_add_33 : decode cX11_add 33 = .ok (.iload_n 3, 1) := by decide +kernel
theorem dX11_add_34 : decode cX11_add 34 = .ok (.if_icmp .ge 24, 3) := by decide +kernel
theorem dX11_add_37 : decode cX11_add 37 = .ok (.aload_n 0, 1) := by decide +kernel
theorem dX11_add_38 : decode cX11_add 38 = .ok (.getfield 14, 3) := by decide +kernel
theorem dX11_add_41 : decode cX11_add 41 = .ok (.lload_n 1, 1) := by decide +kernel
theorem dX11_add_42 : decode cX11_add 42 = .ok (.bipush 8, 2) := by decide +kernel
theorem dX11_add_44 : decode cX11_add 44 = .ok (.iload 4, 2) := by decide +kernel
theorem dX11_add_46 : decode cX11_add 46 = .ok (.imul, 1) := by decide +kernel
theorem dX11_add_47 : decode cX11_add 47 = .ok (.lushr, 1) := by decide +kernel
theorem dX11_add_48 : decode cX11_add 48 = .ok (.l2i, 1) := by decide +kernel
theorem dX11_add_49 : decode cX11_add 49 = .ok (.invokevirtual 90, 3) := by decide +kernel
theorem dX11_add_52 : decode cX11_add 52 = .ok (.iinc 4 1, 3) := by decide +kernel
theorem dX11_add_55 : decode cX11_add 55 = .ok (.goto (-24), 3) := by decide +kernel
theorem dX11_add_58 : decode cX11_add 58 = .ok (.iconst 1, 1) := by decide +kernel
theorem dX11_add_59 : decode cX11_add 59 = .ok (.ireturn, 1) := by decide +kernel
theorem dX11_join_0 : decode cX11_join 0 = .ok (.aload_n 0, 1) := by decide +kernel
theorem dX11_join_1 : decode cX11_join 1 = .ok (.invokevirtual 93, 3) := by decide +kernel
theorem dX11_join_4 : decode cX11_join 4 = .ok (.istore_n 1, 1) := by decide +kernel
theorem dX11_join_5 : decode cX11_join 5 = .ok (.iload_n 1, 1) := by decide +kernel
theorem dX11_join_6 : decode cX11_join 6 = .ok (.ifCond .ne 15, 3) := by decide +kernel
theorem dX11_join_9 : decode cX11_join 9 = .ok (.aload_n 0, 1) := by decide +kernel
theorem dX11_join_10 : decode cX11_join 10 = .ok (.getfield 60, 3) := by decide +kernel
theorem dX11_join_13 : decode cX11_join 13 = .ok (.aload_n 0, 1) := by decide +kernel
theorem dX11_join_14 : decode cX11_join 14 = .ok (.getfield 39, 3) := by decide +kernel
theorem dX11_join_17 : decode cX11_join 17 = .ok (.invokevirtual 97, 3) := by decide +kernel
theorem dX11_join_20 : decode cX11_join 20 = .ok (.istore_n 1, 1) := by decide +kernel
theorem dX11_join_21 : decode cX11_join 21 = .ok (.aload_n 0, 1) := by decide +kernel
theorem dX11_join_22 : decode cX11_join 22 = .ok (.getfield 14, 3) := by decide +kernel
theorem dX11_join_25 : decode cX11_join 25 = .ok (.iconst 0, 1) := by decide +kernel
theorem dX11_join_26 : decode cX11_join 26 = .ok (.putfield 86, 3) := by decide +kernel
theorem dX11_join_29 : decode cX11_join 29 = .ok (.iload_n 1, 1) := by decide +kernel
theorem dX11_join_30 : decode cX11_join 30 = .ok (.ireturn, 1) := by decide +kernel
theorem dX11_document_0 : decode cX11_document 0 = .ok (.aload_n 0, 1) := by decide +kernel
theorem dX11_document_1 : decode cX11_document 1 = .ok (.getfield 18, 3) := by decide +kernel
theorem dX11_document_4 : decode cX11_document 4 = .ok (.iconst 0, 1) := by decide +kernel
theorem dX11_document_5 : decode cX11_document 5 = .ok (.putfield 86, 3) := by decide +kernel
theorem dX11_document_8 : decode cX11_document 8 = .ok (.aload_n 0, 1) := by decide +kernel
theorem dX11_document_9 : decode cX11_document 9 = .ok (.getfield 18, 3) := by decide +kernel
theorem dX11_document_12 : decode cX11_document 12 = .ok (.aload_n 0, 1) := by decide +kernel
theorem dX11_document_13 : decode cX11_document 13 = .ok (.getfield 14, 3) := by decide +kernel
theorem dX11_document_16 : decode cX11_document 16 = .ok (.iconst 0, 1) := by decide +kernel
theorem dX11_document_17 : decode cX11_document 17 = .ok (.aload_n 0, 1) := by decide +kernel
theorem dX11_document_18 : decode cX11_document 18 = .ok (.getfield 14, 3) := by decide +kernel
theorem dX11_document_21 : decode cX11_document 21 = .ok (.getfield 86, 3) := by decide +kernel
theorem dX11_document_24 : decode cX11_document 24 = .ok (.invokevirtual 101, 3) := by decide +kernel
theorem dX11_document_27 : decode cX11_document 27 = .ok (.aload_n 0, 1) := by decide +kernel
theorem dX11_document_28 : decode cX11_document 28 = .ok (.iconst 0, 1) := by decide +kernel
theorem dX11_document_29 : decode cX11_document 29 = .ok (.putfield 105, 3) := by decide +kernel
theorem dX11_document_32 : decode cX11_document 32 = .ok (.aload_n 0, 1) := by decide +kernel
theorem dX11_document_33 : decode cX11_document 33 = .ok (.getfield 14, 3) := by decide +kernel
theorem dX11_document_36 : decode cX11_document 36 = .ok (.iconst 0, 1) := by decide +kernel
theorem dX11_document_37 : decode cX11_document 37 = .ok (.putfield 86, 3) := by decide +kernel
theorem dX11_document_40 : decode cX11_document 40 = .ok (.aload_n 0, 1) := by decide +kernel
theorem dX11_document_41 : decode cX11_document 41 = .ok (.getfield 18, 3) := by decide +kernel
theorem dX11_document_44 : decode cX11_document 44 = .ok (.getfield 86, 3) := by decide +kernel
theorem dX11_document_47 : decode cX11_document 47 = .ok (.ireturn, 1) := by decide +kernel
theorem dX11_look_0 : decode cX11_look 0 = .ok (.lload_n 1, 1) := by decide +kernel
theorem dX11_look_1 : decode cX11_look 1 = .ok (.invokestatic 108, 3) := by decide +kernel
theorem dX11_look_4 : decode cX11_look 4 = .ok (.ifCond .ne 11, 3) := by decide +kernel
theorem dX11_look_7 : decode cX11_look 7 = .ok (.new 112, 3) := by decide +kernel
theorem dX11_look_10 : decode cX11_look 10 = .ok (.dup, 1) := by decide +kernel
theorem dX11_look_11 : decode cX11_look 11 = .ok (.invokespecial 114, 3) := by decide +kernel
theorem dX11_look_14 : decode cX11_look 14 = .ok (.athrow, 1) := by decide +kernel
theorem dX11_look_15 : decode cX11_look 15 = .ok (.aload_n 0, 1) := by decide +kernel
theorem dX11_look_16 : decode cX11_look 16 = .ok (.invokevirtual 115, 3) := by decide +kernel
theorem dX11_look_19 : decode cX11_look 19 = .ok (.istore_n 3, 1) := by decide +kernel
theorem dX11_look_20 : decode cX11_look 20 = .ok (.iload_n 3, 1) := by decide +kernel
theorem dX11_look_21 : decode cX11_look 21 = .ok (.ifCond .ne 9, 3) := by decide +kernel
theorem dX11_look_24 : decode cX11_look 24 = .ok (.aload_n 0, 1) := by decide +kernel
theorem dX11_look_25 : decode cX11_look 25 = .ok (.lload_n 1, 1) := by decide +kernel
theorem dX11_look_26 : decode cX11_look 26 = .ok (.invokevirtual 118, 3) := by decide +kernel
theorem dX11_look_29 : decode cX11_look 29 = .ok (.istore_n 3, 1) := by decide +kernel
theorem dX11_look_30 : decode cX11_look 30 = .ok (.iload_n 3, 1) := by decide +kernel
theorem dX11_look_31 : decode cX11_look 31 = .ok (.ifCond .ne 39, 3) := by decide +kernel
theorem dX11_look_34 : decode cX11_look 34 = .ok (.aload_n 0, 1) := by decide +kernel
theorem dX11_look_35 : decode cX11_look 35 = .ok (.getfield 122, 3) := by decide +kernel
theorem dX11_look_38 : decode cX11_look 38 = .ok (.ifnull 32, 3) := by decide +kernel
theorem dX11_look_41 : decode cX11_look 41 = .ok (.aload_n 0, 1) := by decide +kernel
theorem dX11_look_42 : decode cX11_look 42 = .ok (.getfield 67, 3) := by decide +kernel
theorem dX11_look_45 : decode cX11_look 45 = .ok (.aload_n 0, 1) := by decide +kernel
theorem dX11_look_46 : decode cX11_look 46 = .ok (.getfield 122, 3) := by decide +kernel
theorem dX11_look_49 : decode cX11_look 49 = .ok (.lload_n 1, 1) := by decide +kernel
theorem dX11_look_50 : decode cX11_look 50 = .ok (.invokevirtual 126, 3) := by decide +kernel
theorem dX11_look_53 : decode cX11_look 53 = .ok (.istore 4, 2) := by decide +kernel
theorem dX11_look_55 : decode cX11_look 55 = .ok (.iload 4, 2) := by decide +kernel
theorem dX11_look_57 : decode cX11_look 57 = .ok (.ifCond .ne 7, 3) := by decide +kernel
theorem dX11_look_60 : decode cX11_look 60 = .ok (.iconst 0, 1) := by decide +kernel
theorem dX11_look_61 : decode cX11_look 61 = .ok (.goto 8, 3) := by decide +kernel
theorem dX11_look_64 : decode cX11_look 64 = .ok (.bipush 10, 2) := by decide +kernel
theorem dX11_look_66 : decode cX11_look 66 = .ok (.iload 4, 2) := by decide +kernel
theorem dX11_look_68 : decode cX11_look 68 = .ok (.iadd, 1) := by decide +kernel
theorem dX11_look_69 : decode cX11_look 69 = .ok (.istore_n 3, 1) := by decide +kernel
theorem dX11_look_70 : decode cX11_look 70 = .ok (.aload_n 0, 1) := by decide +kernel
theorem dX11_look_71 : decode cX11_look 71 = .ok (.getfield 14, 3) := by decide +kernel
theorem dX11_look_74 : decode cX11_look 74 = .ok (.iconst 0, 1) := by decide +kernel
theorem dX11_look_75 : decode cX11_look 75 = .ok (.putfield 86, 3) := by decide +kernel
theorem dX11_look_78 : decode cX11_look 78 = .ok (.iload_n 3, 1) := by decide +kernel
theorem dX11_look_79 : decode cX11_look 79 = .ok (.ireturn, 1) := by decide +kernel
theorem dX11_keys_0 : decode cX11_keys 0 = .ok (.aload_n 0, 1) := by decide +kernel
theorem dX11_keys_1 : decode cX11_keys 1 = .ok (.getfield 60, 3) := by decide +kernel
theorem dX11_keys_4 : decode cX11_keys 4 = .ok (.getfield 130, 3) := by decide +kernel
theorem dX11_keys_7 : decode cX11_keys 7 = .ok (.invokevirtual 134, 3) := by decide +kernel
theorem dX11_keys_10 : decode cX11_keys 10 = .ok (.ireturn, 1) := by decide +kernel
theorem dX11_key_0 : decode cX11_key 0 = .ok (.aload_n 0, 1) := by decide +kernel
theorem dX11_key_1 : decode cX11_key 1 = .ok (.iload_n 1, 1) := by decide +kernel
theorem dX11_key_2 : decode cX11_key 2 = .ok (.iconst (-1), 1) := by decide +kernel
theorem dX11_key_3 : decode cX11_key 3 = .ok (.invokevirtual 138, 3) := by decide +kernel
theorem dX11_key_6 : decode cX11_key 6 = .ok (.astore_n 3, 1) := by decide +kernel
theorem dX11_key_7 : decode cX11_key 7 = .ok (.aload_n 3, 1) := by decide +kernel
theorem dX11_key_8 : decode cX11_key 8 = .ok (.ifnull 12, 3) := by decide +kernel
theorem dX11_key_11 : decode cX11_key 11 = .ok (.iload_n 2, 1) := by decide +kernel
theorem dX11_key_12 : decode cX11_key 12 = .ok (.ifCond .lt 8, 3) := by decide +kernel
theorem dX11_key_15 : decode cX11_key 15 = .ok (.iload_n 2, 1) := by decide +kernel
theorem dX11_key_16 : decode cX11_key 16 = .ok (.iconst 5, 1) := by decide +kernel
theorem dX11_key_17 : decode cX11_key 17 = .ok (.if_icmp .le 11, 3) := by decide +kernel
theorem dX11_key_20 : decode cX11_key 20 = .ok (.new 142, 3) := by decide +kernel
theorem dX11_key_23 : decode cX11_key 23 = .ok (.dup, 1) := by decide +kernel
theorem dX11_key_24 : decode cX11_key 24 = .ok (.invokespecial 144, 3) := by decide +kernel
theorem dX11_key_27 : decode cX11_key 27 = .ok (.athrow, 1) := by decide +kernel
theorem dX11_key_28 : decode cX11_key 28 = .ok (.iload_n 2, 1) := by decide +kernel
theorem dX11_key_29 : decode cX11_key 29 = .ok (.tableswitch 70 0 4 #[35, 40, 46, 55, 64], 35) := by decide +kernel
theorem dX11_key_64 : decode cX11_key 64 = .ok (.aload_n 3, 1) := by decide +kernel
theorem dX11_key_65 : decode cX11_key 65 = .ok (.getfield 145, 3) := by decide +kernel
theorem dX11_key_68 : decode cX11_key 68 = .ok (.lreturn, 1) := by decide +kernel
theorem dX11_key_69 : decode cX11_key 69 = .ok (.aload_n 3, 1) := by decide +kernel
theorem dX11_key_70 : decode cX11_key 70 = .ok (.getfield 151, 3) := by decide +kernel
theorem dX11_key_73 : decode cX11_key 73 = .ok (.i2l, 1) := by decide +kernel
theorem dX11_key_74 : decode cX11_key 74 = .ok (.lreturn, 1) := by decide +kernel
theorem dX11_key_75 : decode cX11_key 75 = .ok (.aload_n 3, 1) := by decide +kernel
theorem dX11_key_76 : decode cX11_key 76 = .ok (.getfield 154, 3) := by decide +kernel
theorem dX11_key_79 : decode cX11_key 79 = .ok (.invokevirtual 134, 3) := by decide +kernel
theorem dX11_key_82 : decode cX11_key 82 = .ok (.i2l, 1) := by decide +kernel
theorem dX11_key_83 : decode cX11_key 83 = .ok (.lreturn, 1) := by decide +kernel
theorem dX11_key_84 : decode cX11_key 84 = .ok (.aload_n 3, 1) := by decide +kernel
theorem dX11_key_85 : decode cX11_key 85 = .ok (.getfield 157, 3) := by decide +kernel
theorem dX11_key_88 : decode cX11_key 88 = .ok (.invokevirtual 134, 3) := by decide +kernel
theorem dX11_key_91 : decode cX11_key 91 = .ok (.i2l, 1) := by decide +kernel
theorem dX11_key_92 : decode cX11_key 92 = .ok (.lreturn, 1) := by decide +kernel
theorem dX11_key_93 : decode cX11_key 93 = .ok (.aload_n 3, 1) := by decide +kernel
theorem dX11_key_94 : decode cX11_key 94 = .ok (.invokevirtual 160, 3) := by decide +kernel
theorem dX11_key_97 : decode cX11_key 97 = .ok (.i2l, 1) := by decide +kernel
theorem dX11_key_98 : decode cX11_key 98 = .ok (.lreturn, 1) := by decide +kernel
theorem dX11_key_99 : decode cX11_key 99 = .ok (.aload_n 3, 1) := by decide +kernel
theorem dX11_key_100 : decode cX11_key 100 = .ok (.getfield 163, 3) := by decide +kernel
theorem dX11_key_103 : decode cX11_key 103 = .ok (.ifnull 7, 3) := by decide +kernel
theorem dX11_key_106 : decode cX11_key 106 = .ok (.lconst 1, 1) := by decide +kernel
theorem dX11_key_107 : decode cX11_key 107 = .ok (.goto 4, 3) := by decide +kernel
theorem dX11_key_110 : decode cX11_key 110 = .ok (.lconst 0, 1) := by decide +kernel
theorem dX11_key_111 : decode cX11_key 111 = .ok (.lreturn, 1) := by decide +kernel
theorem dX11_print_0 : decode cX11_print 0 = .ok (.aload_n 0, 1) := by decide +kernel
theorem dX11_print_1 : decode cX11_print 1 = .ok (.iload_n 1, 1) := by decide +kernel
theorem dX11_print_2 : decode cX11_print 2 = .ok (.iload_n 2, 1) := by decide +kernel
theorem dX11_print_3 : decode cX11_print 3 = .ok (.invokevirtual 138, 3) := by decide +kernel
theorem dX11_print_6 : decode cX11_print 6 = .ok (.astore 4, 2) := by decide +kernel
theorem dX11_print_8 : decode cX11_print 8 = .ok (.aload 4, 2) := by decide +kernel
theorem dX11_print_10 : decode cX11_print 10 = .ok (.ifnull 13, 3) := by decide +kernel
theorem dX11_print_13 : decode cX11_print 13 = .ok (.iload_n 3, 1) := by decide +kernel
theorem dX11_print_14 : decode cX11_print 14 = .ok (.ifCond .lt 9, 3) := by decide +kernel
theorem dX11_print_17 : decode cX11_print 17 = .ok (.iload_n 3, 1) := by decide +kernel
theorem dX11_print_18 : decode cX11_print 18 = .ok (.bipush 20, 2) := by decide +kernel
theorem dX11_print_20 : decode cX11_print 20 = .ok (.if_icmp .lt 11, 3) := by decide +kernel
theorem dX11_print_23 : decode cX11_print 23 = .ok (.new 142, 3) := by decide +kernel
theorem dX11_print_26 : decode cX11_print 26 = .ok (.dup, 1) := by decide +kernel
theorem dX11_print_27 : decode cX11_print 27 = .ok (.invokespecial 144, 3) := by decide +kernel
theorem dX11_print_30 : decode cX11_print 30 = .ok (.athrow, 1) := by decide +kernel
theorem dX11_print_31 : decode cX11_print 31 = .ok (.aload 4, 2) := by decide +kernel
theorem dX11_print_33 : decode cX11_print 33 = .ok (.getfield 166, 3) := by decide +kernel
theorem dX11_print_36 : decode cX11_print 36 = .ok (.iload_n 3, 1) := by decide +kernel
theorem dX11_print_37 : decode cX11_print 37 = .ok (.baload, 1) := by decide +kernel
theorem dX11_print_38 : decode cX11_print 38 = .ok (.sipush 255, 3) := by decide +kernel
theorem dX11_print_41 : decode cX11_print 41 = .ok (.iand, 1) := by decide +kernel
theorem dX11_print_42 : decode cX11_print 42 = .ok (.ireturn, 1) := by decide +kernel
theorem dX11_usable_0 : decode cX11_usable 0 = .ok (.aload_n 0, 1) := by decide +kernel
theorem dX11_usable_1 : decode cX11_usable 1 = .ok (.iload_n 1, 1) := by decide +kernel
theorem dX11_usable_2 : decode cX11_usable 2 = .ok (.iload_n 2, 1) := by decide +kernel
theorem dX11_usable_3 : decode cX11_usable 3 = .ok (.invokevirtual 138, 3) := by decide +kernel
theorem dX11_usable_6 : decode cX11_usable 6 = .ok (.astore 5, 2) := by decide +kernel
theorem dX11_usable_8 : decode cX11_usable 8 = .ok (.aload 5, 2) := by decide +kernel
theorem dX11_usable_10 : decode cX11_usable 10 = .ok (.ifnonnull 11, 3) := by decide +kernel
theorem dX11_usable_13 : decode cX11_usable 13 = .ok (.new 142, 3) := by decide +kernel
theorem dX11_usable_16 : decode cX11_usable 16 = .ok (.dup, 1) := by decide +kernel
theorem dX11_usable_17 : decode cX11_usable 17 = .ok (.invokespecial 144, 3) := by decide +kernel
theorem dX11_usable_20 : decode cX11_usable 20 = .ok (.athrow, 1) := by decide +kernel
theorem dX11_usable_21 : decode cX11_usable 21 = .ok (.lload_n 3, 1) := by decide +kernel
theorem dX11_usable_22 : decode cX11_usable 22 = .ok (.invokestatic 108, 3) := by decide +kernel
theorem dX11_usable_25 : decode cX11_usable 25 = .ok (.ifCond .ne 11, 3) := by decide +kernel
theorem dX11_usable_28 : decode cX11_usable 28 = .ok (.new 112, 3) := by decide +kernel
theorem dX11_usable_31 : decode cX11_usable 31 = .ok (.dup, 1) := by decide +kernel
theorem dX11_usable_32 : decode cX11_usable 32 = .ok (.invokespecial 114, 3) := by decide +kernel
theorem dX11_usable_35 : decode cX11_usable 35 = .ok (.athrow, 1) := by decide +kernel
theorem dX11_usable_36 : decode cX11_usable 36 = .ok (.aload_n 0, 1) := by decide +kernel
theorem dX11_usable_37 : decode cX11_usable 37 = .ok (.getfield 67, 3) := by decide +kernel
theorem dX11_usable_40 : decode cX11_usable 40 = .ok (.aload 5, 2) := by decide +kernel
theorem dX11_usable_42 : decode cX11_usable 42 = .ok (.lload_n 3, 1) := by decide +kernel
theorem dX11_usable_43 : decode cX11_usable 43 = .ok (.invokevirtual 126, 3) := by decide +kernel
theorem dX11_usable_46 : decode cX11_usable 46 = .ok (.ireturn, 1) := by decide +kernel
theorem dX11_seal_0 : decode cX11_seal 0 = .ok (.aload_n 0, 1) := by decide +kernel
theorem dX11_seal_1 : decode cX11_seal 1 = .ok (.iload_n 1, 1) := by decide +kernel
theorem dX11_seal_2 : decode cX11_seal 2 = .ok (.iload_n 2, 1) := by decide +kernel
theorem dX11_seal_3 : decode cX11_seal 3 = .ok (.invokevirtual 138, 3) := by decide +kernel
theorem dX11_seal_6 : decode cX11_seal 6 = .ok (.astore 6, 2) := by decide +kernel
theorem dX11_seal_8 : decode cX11_seal 8 = .ok (.aload 6, 2) := by decide +kernel
theorem dX11_seal_10 : decode cX11_seal 10 = .ok (.ifnonnull 11, 3) := by decide +kernel
theorem dX11_seal_13 : decode cX11_seal 13 = .ok (.new 142, 3) := by decide +kernel
theorem dX11_seal_16 : decode cX11_seal 16 = .ok (.dup, 1) := by decide +kernel
theorem dX11_seal_17 : decode cX11_seal 17 = .ok (.invokespecial 144, 3) := by decide +kernel
theorem dX11_seal_20 : decode cX11_seal 20 = .ok (.athrow, 1) := by decide +kernel
theorem dX11_seal_21 : decode cX11_seal 21 = .ok (.lload 4, 2) := by decide +kernel
theorem dX11_seal_23 : decode cX11_seal 23 = .ok (.invokestatic 108, 3) := by decide +kernel
theorem dX11_seal_26 : decode cX11_seal 26 = .ok (.ifCond .eq 12, 3) := by decide +kernel
theorem dX11_seal_29 : decode cX11_seal 29 = .ok (.iload_n 3, 1) := by decide +kernel
theorem dX11_seal_30 : decode cX11_seal 30 = .ok (.ifCond .lt 8, 3) := by decide +kernel
theorem dX11_seal_33 : decode cX11_seal 33 = .ok (.iload_n 3, 1) := by decide +kernel
theorem dX11_seal_34 : decode cX11_seal 34 = .ok (.iconst 3, 1) := by decide +kernel
theorem dX11_seal_35 : decode cX11_seal 35 = .ok (.if_icmp .le 11, 3) := by decide +kernel
theorem dX11_seal_38 : decode cX11_seal 38 = .ok (.new 112, 3) := by decide +kernel
theorem dX11_seal_41 : decode cX11_seal 41 = .ok (.dup, 1) := by decide +kernel
theorem dX11_seal_42 : decode cX11_seal 42 = .ok (.invokespecial 114, 3) := by decide +kernel
theorem dX11_seal_45 : decode cX11_seal 45 = .ok (.athrow, 1) := by decide +kernel
theorem dX11_seal_46 : decode cX11_seal 46 = .ok (.aload 6, 2) := by decide +kernel
theorem dX11_seal_48 : decode cX11_seal 48 = .ok (.getfield 163, 3) := by decide +kernel
theorem dX11_seal_51 : decode cX11_seal 51 = .ok (.ifnonnull 11, 3) := by decide +kernel
theorem dX11_seal_54 : decode cX11_seal 54 = .ok (.new 170, 3) := by decide +kernel
theorem dX11_seal_57 : decode cX11_seal 57 = .ok (.dup, 1) := by decide +kernel
theorem dX11_seal_58 : decode cX11_seal 58 = .ok (.invokespecial 172, 3) := by decide +kernel
theorem dX11_seal_61 : decode cX11_seal 61 = .ok (.athrow, 1) := by decide +kernel
theorem dX11_seal_62 : decode cX11_seal 62 = .ok (.aload_n 0, 1) := by decide +kernel
theorem dX11_seal_63 : decode cX11_seal 63 = .ok (.getfield 80, 3) := by decide +kernel
theorem dX11_seal_66 : decode cX11_seal 66 = .ok (.iconst 0, 1) := by decide +kernel
theorem dX11_seal_67 : decode cX11_seal 67 = .ok (.putfield 86, 3) := by decide +kernel
theorem dX11_seal_70 : decode cX11_seal 70 = .ok (.iload_n 3, 1) := by decide +kernel
theorem dX11_seal_71 : decode cX11_seal 71 = .ok (.iconst 3, 1) := by decide +kernel
theorem dX11_seal_72 : decode cX11_seal 72 = .ok (.if_icmp .ne 27, 3) := by decide +kernel
theorem dX11_seal_75 : decode cX11_seal 75 = .ok (.aload_n 0, 1) := by decide +kernel
theorem dX11_seal_76 : decode cX11_seal 76 = .ok (.invokevirtual 173, 3) := by decide +kernel
theorem dX11_seal_79 : decode cX11_seal 79 = .ok (.aload_n 0, 1) := by decide +kernel
theorem dX11_seal_80 : decode cX11_seal 80 = .ok (.aload 6, 2) := by decide +kernel
theorem dX11_seal_82 : decode cX11_seal 82 = .ok (.iconst 1, 1) := by decide +kernel
theorem dX11_seal_83 : decode cX11_seal 83 = .ok (.lload 4, 2) := by decide +kernel
theorem dX11_seal_85 : decode cX11_seal 85 = .ok (.aload_n 0, 1) := by decide +kernel
theorem dX11_seal_86 : decode cX11_seal 86 = .ok (.getfield 21, 3) := by decide +kernel
theorem dX11_seal_89 : decode cX11_seal 89 = .ok (.invokevirtual 176, 3) := by decide +kernel
theorem dX11_seal_92 : decode cX11_seal 92 = .ok (.aload_n 0, 1) := by decide +kernel
theorem dX11_seal_93 : decode cX11_seal 93 = .ok (.invokevirtual 180, 3) := by decide +kernel
theorem dX11_seal_96 : decode cX11_seal 96 = .ok (.goto 41, 3) := by decide +kernel
theorem dX11_seal_99 : decode cX11_seal 99 = .ok (.aload_n 0, 1) := by decide +kernel
theorem dX11_seal_100 : decode cX11_seal 100 = .ok (.aload 6, 2) := by decide +kernel
theorem dX11_seal_102 : decode cX11_seal 102 = .ok (.iload_n 3, 1) := by decide +kernel
theorem dX11_seal_103 : decode cX11_seal 103 = .ok (.iconst 1, 1) := by decide +kernel
theorem dX11_seal_104 : decode cX11_seal 104 = .ok (.iand, 1) := by decide +kernel
theorem dX11_seal_105 : decode cX11_seal 105 = .ok (.lload 4, 2) := by decide +kernel
theorem dX11_seal_107 : decode cX11_seal 107 = .ok (.aload_n 0, 1) := by decide +kernel
theorem dX11_seal_108 : decode cX11_seal 108 = .ok (.getfield 18, 3) := by decide +kernel
theorem dX11_seal_111 : decode cX11_seal 111 = .ok (.invokevirtual 176, 3) := by decide +kernel
theorem dX11_seal_114 : decode cX11_seal 114 = .ok (.iload_n 3, 1) := by decide +kernel
theorem dX11_seal_115 : decode cX11_seal 115 = .ok (.iconst 2, 1) := by decide +kernel
theorem dX11_seal_116 : decode cX11_seal 116 = .ok (.if_icmp .ne 9, 3) := by decide +kernel
theorem dX11_seal_119 : decode cX11_seal 119 = .ok (.aload_n 0, 1) := by decide +kernel
theorem dX11_seal_120 : decode cX11_seal 120 = .ok (.aload 6, 2) := by decide +kernel
theorem dX11_seal_122 : decode cX11_seal 122 = .ok (.invokevirtual 183, 3) := by decide +kernel
theorem dX11_seal_125 : decode cX11_seal 125 = .ok (.aload_n 0, 1) := by decide +kernel
theorem dX11_seal_126 : decode cX11_seal 126 = .ok (.getfield 80, 3) := by decide +kernel
theorem dX11_seal_129 : decode cX11_seal 129 = .ok (.iconst 2, 1) := by decide +kernel
theorem dX11_seal_130 : decode cX11_seal 130 = .ok (.aload_n 0, 1) := by decide +kernel
theorem dX11_seal_131 : decode cX11_seal 131 = .ok (.getfield 24, 3) := by decide +kernel
theorem dX11_seal_134 : decode cX11_seal 134 = .ok (.invokevirtual 187, 3) := by decide +kernel
theorem dX11_seal_137 : decode cX11_seal 137 = .ok (.aload_n 0, 1) := by decide +kernel
theorem dX11_seal_138 : decode cX11_seal 138 = .ok (.getfield 80, 3) := by decide +kernel
theorem dX11_seal_141 : decode cX11_seal 141 = .ok (.getfield 86, 3) := by decide +kernel
theorem dX11_seal_144 : decode cX11_seal 144 = .ok (.ireturn, 1) := by decide +kernel
theorem dX11_export_0 : decode cX11_export 0 = .ok (.aload_n 0, 1) := by decide +kernel
theorem dX11_export_1 : decode cX11_export 1 = .ok (.iload_n 1, 1) := by decide +kernel
theorem dX11_export_2 : decode cX11_export 2 = .ok (.iconst (-1), 1) := by decide +kernel
theorem dX11_export_3 : decode cX11_export 3 = .ok (.invokevirtual 138, 3) := by decide +kernel
theorem dX11_export_6 : decode cX11_export 6 = .ok (.astore_n 2, 1) := by decide +kernel
theorem dX11_export_7 : decode cX11_export 7 = .ok (.aload_n 2, 1) := by decide +kernel
theorem dX11_export_8 : decode cX11_export 8 = .ok (.ifnonnull 11, 3) := by decide +kernel
theorem dX11_export_11 : decode cX11_export 11 = .ok (.new 142, 3) := by decide +kernel
theorem dX11_export_14 : decode cX11_export 14 = .ok (.dup, 1) := by decide +kernel
theorem dX11_export_15 : decode cX11_export 15 = .ok (.invokespecial 144, 3) := by decide +kernel
theorem dX11_export_18 : decode cX11_export 18 = .ok (.athrow, 1) := by decide +kernel
theorem dX11_export_19 : decode cX11_export 19 = .ok (.aload_n 0, 1) := by decide +kernel
theorem dX11_export_20 : decode cX11_export 20 = .ok (.getfield 80, 3) := by decide +kernel
theorem dX11_export_23 : decode cX11_export 23 = .ok (.iconst 0, 1) := by decide +kernel
theorem dX11_export_24 : decode cX11_export 24 = .ok (.putfield 86, 3) := by decide +kernel
theorem dX11_export_27 : decode cX11_export 27 = .ok (.aload_n 0, 1) := by decide +kernel
theorem dX11_export_28 : decode cX11_export 28 = .ok (.aload_n 2, 1) := by decide +kernel
theorem dX11_export_29 : decode cX11_export 29 = .ok (.invokevirtual 191, 3) := by decide +kernel
theorem dX11_export_32 : decode cX11_export 32 = .ok (.iconst 0, 1) := by decide +kernel
theorem dX11_export_33 : decode cX11_export 33 = .ok (.istore_n 3, 1) := by decide +kernel
theorem dX11_export_34 : decode cX11_export 34 = .ok (.iload_n 3, 1) := by decide +kernel
theorem dX11_export_35 : decode cX11_export 35 = .ok (.aload_n 2, 1) := by decide +kernel
theorem dX11_export_36 : decode cX11_export 36 = .ok (.getfield 154, 3) := by decide +kernel
theorem dX11_export_39 : decode cX11_export 39 = .ok (.invokevirtual 134, 3) := by decide +kernel
theorem dX11_export_42 : decode cX11_export 42 = .ok (.if_icmp .ge 24, 3) := by decide +kernel
theorem dX11_export_45 : decode cX11_export 45 = .ok (.aload_n 0, 1) := by decide +kernel
theorem dX11_export_46 : decode cX11_export 46 = .ok (.aload_n 2, 1) := by decide +kernel
theorem dX11_export_47 : decode cX11_export 47 = .ok (.getfield 154, 3) := by decide +kernel
theorem dX11_export_50 : decode cX11_export 50 = .ok (.iload_n 3, 1) := by decide +kernel
theorem dX11_export_51 : decode cX11_export 51 = .ok (.invokevirtual 195, 3) := by decide +kernel
theorem dX11_export_54 : decode cX11_export 54 = .ok (.checkcast 199, 3) := by decide +kernel
theorem dX11_export_57 : decode cX11_export 57 = .ok (.invokevirtual 191, 3) := by decide +kernel
theorem dX11_export_60 : decode cX11_export 60 = .ok (.iinc 3 1, 3) := by decide +kernel
theorem dX11_export_63 : decode cX11_export 63 = .ok (.goto (-29), 3) := by decide +kernel
theorem dX11_export_66 : decode cX11_export 66 = .ok (.iconst 0, 1) := by decide +kernel
theorem dX11_export_67 : decode cX11_export 67 = .ok (.istore_n 3, 1) := by decide +kernel
theorem dX11_export_68 : decode cX11_export 68 = .ok (.iload_n 3, 1) := by decide +kernel
theorem dX11_export_69 : decode cX11_export 69 = .ok (.aload_n 2, 1) := by decide +kernel
theorem dX11_export_70 : decode cX11_export 70 = .ok (.getfield 157, 3) := by decide +kernel
theorem dX11_export_73 : decode cX11_export 73 = .ok (.invokevirtual 134, 3) := by decide +kernel
theorem dX11_export_76 : decode cX11_export 76 = .ok (.if_icmp .ge 24, 3) := by decide +kernel
theorem dX11_export_79 : decode cX11_export 79 = .ok (.aload_n 0, 1) := by decide +kernel
theorem dX11_export_80 : decode cX11_export 80 = .ok (.aload_n 2, 1) := by decide +kernel
theorem dX11_export_81 : decode cX11_export 81 = .ok (.getfield 157, 3) := by decide +kernel
theorem dX11_export_84 : decode cX11_export 84 = .ok (.iload_n 3, 1) := by decide +kernel
theorem dX11_export_85 : decode cX11_export 85 = .ok (.invokevirtual 195, 3) := by decide +kernel
theorem dX11_export_88 : decode cX11_export 88 = .ok (.checkcast 199, 3) := by decide +kernel
theorem dX11_export_91 : decode cX11_export 91 = .ok (.invokevirtual 191, 3) := by decide +kernel
theorem dX11_export_94 : decode cX11_export 94 = .ok (.iinc 3 1, 3) := by decide +kernel
theorem dX11_export_97 : decode cX11_export 97 = .ok (.goto (-29), 3) := by decide +kernel
theorem dX11_export_100 : decode cX11_export 100 = .ok (.aload_n 0, 1) := by decide +kernel
theorem dX11_export_101 : decode cX11_export 101 = .ok (.getfield 80, 3) := by decide +kernel
theorem dX11_export_104 : decode cX11_export 104 = .ok (.getfield 86, 3) := by decide +kernel
theorem dX11_export_107 : decode cX11_export 107 = .ok (.ireturn, 1) := by decide +kernel
theorem dX11_armor_0 : decode cX11_armor 0 = .ok (.iload_n 1, 1) := by decide +kernel
theorem dX11_armor_1 : decode cX11_armor 1 = .ok (.ifCond .lt 8, 3) := by decide +kernel
theorem dX11_armor_4 : decode cX11_armor 4 = .ok (.iload_n 1, 1) := by decide +kernel
theorem dX11_armor_5 : decode cX11_armor 5 = .ok (.iconst 2, 1) := by decide +kernel
theorem dX11_armor_6 : decode cX11_armor 6 = .ok (.if_icmp .le 11, 3) := by decide +kernel
theorem dX11_armor_9 : decode cX11_armor 9 = .ok (.new 112, 3) := by decide +kernel
theorem dX11_armor_12 : decode cX11_armor 12 = .ok (.dup, 1) := by decide +kernel
theorem dX11_armor_13 : decode cX11_armor 13 = .ok (.invokespecial 114, 3) := by decide +kernel
theorem dX11_armor_16 : decode cX11_armor 16 = .ok (.athrow, 1) := by decide +kernel
theorem dX11_armor_17 : decode cX11_armor 17 = .ok (.aload_n 0, 1) := by decide +kernel
theorem dX11_armor_18 : decode cX11_armor 18 = .ok (.getfield 80, 3) := by decide +kernel
theorem dX11_armor_21 : decode cX11_armor 21 = .ok (.getfield 86, 3) := by decide +kernel
theorem dX11_armor_24 : decode cX11_armor 24 = .ok (.sipush 8000, 3) := by decide +kernel
theorem dX11_armor_27 : decode cX11_armor 27 = .ok (.if_icmp .le 11, 3) := by decide +kernel
theorem dX11_armor_30 : decode cX11_armor 30 = .ok (.new 201, 3) := by decide +kernel
theorem dX11_armor_33 : decode cX11_armor 33 = .ok (.dup, 1) := by decide +kernel
theorem dX11_armor_34 : decode cX11_armor 34 = .ok (.invokespecial 203, 3) := by decide +kernel
theorem dX11_armor_37 : decode cX11_armor 37 = .ok (.athrow, 1) := by decide +kernel
theorem dX11_armor_38 : decode cX11_armor 38 = .ok (.aload_n 0, 1) := by decide +kernel
theorem dX11_armor_39 : decode cX11_armor 39 = .ok (.getfield 83, 3) := by decide +kernel
theorem dX11_armor_42 : decode cX11_armor 42 = .ok (.iconst 0, 1) := by decide +kernel
theorem dX11_armor_43 : decode cX11_armor 43 = .ok (.putfield 86, 3) := by decide +kernel
theorem dX11_armor_46 : decode cX11_armor 46 = .ok (.aload_n 0, 1) := by decide +kernel
theorem dX11_armor_47 : decode cX11_armor 47 = .ok (.getfield 80, 3) := by decide +kernel
theorem dX11_armor_50 : decode cX11_armor 50 = .ok (.iload_n 1, 1) := by decide +kernel
theorem dX11_armor_51 : decode cX11_armor 51 = .ok (.aload_n 0, 1) := by decide +kernel
theorem dX11_armor_52 : decode cX11_armor 52 = .ok (.getfield 83, 3) := by decide +kernel
theorem dX11_armor_55 : decode cX11_armor 55 = .ok (.invokestatic 204, 3) := by decide +kernel
theorem dX11_armor_58 : decode cX11_armor 58 = .ok (.aload_n 0, 1) := by decide +kernel
theorem dX11_armor_59 : decode cX11_armor 59 = .ok (.getfield 83, 3) := by decide +kernel
theorem dX11_armor_62 : decode cX11_armor 62 = .ok (.astore_n 2, 1) := by decide +kernel
theorem dX11_armor_63 : decode cX11_armor 63 = .ok (.aload_n 0, 1) := by decide +kernel
theorem dX11_armor_64 : decode cX11_armor 64 = .ok (.aload_n 0, 1) := by decide +kernel
theorem dX11_armor_65 : decode cX11_armor 65 = .ok (.getfield 80, 3) := by decide +kernel
theorem dX11_armor_68 : decode cX11_armor 68 = .ok (.putfield 83, 3) := by decide +kernel
theorem dX11_armor_71 : decode cX11_armor 71 = .ok (.aload_n 0, 1) := by decide +kernel
theorem dX11_armor_72 : decode cX11_armor 72 = .ok (.aload_n 2, 1) := by decide +kernel
theorem dX11_armor_73 : decode cX11_armor 73 = .ok (.putfield 80, 3) := by decide +kernel
theorem dX11_armor_76 : decode cX11_armor 76 = .ok (.aload_n 0, 1) := by decide +kernel
theorem dX11_armor_77 : decode cX11_armor 77 = .ok (.getfield 80, 3) := by decide +kernel
theorem dX11_armor_80 : decode cX11_armor 80 = .ok (.getfield 86, 3) := by decide +kernel
theorem dX11_armor_83 : decode cX11_armor 83 = .ok (.ireturn, 1) := by decide +kernel
theorem dX11_out_0 : decode cX11_out 0 = .ok (.iload_n 1, 1) := by decide +kernel
theorem dX11_out_1 : decode cX11_out 1 = .ok (.ifCond .lt 14, 3) := by decide +kernel
theorem dX11_out_4 : decode cX11_out 4 = .ok (.iload_n 1, 1) := by decide +kernel
theorem dX11_out_5 : decode cX11_out 5 = .ok (.aload_n 0, 1) := by decide +kernel
theorem dX11_out_6 : decode cX11_out 6 = .ok (.getfield 80, 3) := by decide +kernel
theorem dX11_out_9 : decode cX11_out 9 = .ok (.getfield 86, 3) := by decide +kernel
theorem dX11_out_12 : decode cX11_out 12 = .ok (.if_icmp .lt 11, 3) := by decide +kernel
theorem dX11_out_15 : decode cX11_out 15 = .ok (.new 208, 3) := by decide +kernel
theorem dX11_out_18 : decode cX11_out 18 = .ok (.dup, 1) := by decide +kernel
theorem dX11_out_19 : decode cX11_out 19 = .ok (.invokespecial 210, 3) := by decide +kernel
theorem dX11_out_22 : decode cX11_out 22 = .ok (.athrow, 1) := by decide +kernel
theorem dX11_out_23 : decode cX11_out 23 = .ok (.aload_n 0, 1) := by decide +kernel
theorem dX11_out_24 : decode cX11_out 24 = .ok (.getfield 80, 3) := by decide +kernel
theorem dX11_out_27 : decode cX11_out 27 = .ok (.iload_n 1, 1) := by decide +kernel
theorem dX11_out_28 : decode cX11_out 28 = .ok (.invokevirtual 211, 3) := by decide +kernel
theorem dX11_out_31 : decode cX11_out 31 = .ok (.ireturn, 1) := by decide +kernel
theorem dX11_sum_0 : decode cX11_sum 0 = .ok (.aload_n 0, 1) := by decide +kernel
theorem dX11_sum_1 : decode cX11_sum 1 = .ok (.getfield 80, 3) := by decide +kernel
theorem dX11_sum_4 : decode cX11_sum 4 = .ok (.invokestatic 215, 3) := by decide +kernel
theorem dX11_sum_7 : decode cX11_sum 7 = .ok (.ireturn, 1) := by decide +kernel
theorem dX11_take_0 : decode cX11_take 0 = .ok (.aload_n 0, 1) := by decide +kernel
theorem dX11_take_1 : decode cX11_take 1 = .ok (.getfield 14, 3) := by decide +kernel
theorem dX11_take_4 : decode cX11_take 4 = .ok (.iconst 0, 1) := by decide +kernel
theorem dX11_take_5 : decode cX11_take 5 = .ok (.putfield 86, 3) := by decide +kernel
theorem dX11_take_8 : decode cX11_take 8 = .ok (.aload_n 0, 1) := by decide +kernel
theorem dX11_take_9 : decode cX11_take 9 = .ok (.getfield 14, 3) := by decide +kernel
theorem dX11_take_12 : decode cX11_take 12 = .ok (.aload_n 0, 1) := by decide +kernel
theorem dX11_take_13 : decode cX11_take 13 = .ok (.getfield 80, 3) := by decide +kernel
theorem dX11_take_16 : decode cX11_take 16 = .ok (.iconst 0, 1) := by decide +kernel
theorem dX11_take_17 : decode cX11_take 17 = .ok (.aload_n 0, 1) := by decide +kernel
theorem dX11_take_18 : decode cX11_take 18 = .ok (.getfield 80, 3) := by decide +kernel
theorem dX11_take_21 : decode cX11_take 21 = .ok (.getfield 86, 3) := by decide +kernel
theorem dX11_take_24 : decode cX11_take 24 = .ok (.sipush 4096, 3) := by decide +kernel
theorem dX11_take_27 : decode cX11_take 27 = .ok (.invokestatic 219, 3) := by decide +kernel
theorem dX11_take_30 : decode cX11_take 30 = .ok (.invokevirtual 101, 3) := by decide +kernel
theorem dX11_take_33 : decode cX11_take 33 = .ok (.aload_n 0, 1) := by decide +kernel
theorem dX11_take_34 : decode cX11_take 34 = .ok (.getfield 14, 3) := by decide +kernel
theorem dX11_take_37 : decode cX11_take 37 = .ok (.getfield 86, 3) := by decide +kernel
theorem dX11_take_40 : decode cX11_take 40 = .ok (.ireturn, 1) := by decide +kernel
theorem dX11_drop_0 : decode cX11_drop 0 = .ok (.iload_n 1, 1) := by decide +kernel
theorem dX11_drop_1 : decode cX11_drop 1 = .ok (.ifCond .lt 17, 3) := by decide +kernel
theorem dX11_drop_4 : decode cX11_drop 4 = .ok (.iload_n 1, 1) := by decide +kernel
theorem dX11_drop_5 : decode cX11_drop 5 = .ok (.aload_n 0, 1) := by decide +kernel
theorem dX11_drop_6 : decode cX11_drop 6 = .ok (.getfield 60, 3) := by decide +kernel
theorem dX11_drop_9 : decode cX11_drop 9 = .ok (.getfield 130, 3) := by decide +kernel
theorem dX11_drop_12 : decode cX11_drop 12 = .ok (.invokevirtual 134, 3) := by decide +kernel
theorem dX11_drop_15 : decode cX11_drop 15 = .ok (.if_icmp .lt 11, 3) := by decide +kernel
theorem dX11_drop_18 : decode cX11_drop 18 = .ok (.new 142, 3) := by decide +kernel
theorem dX11_drop_21 : decode cX11_drop 21 = .ok (.dup, 1) := by decide +kernel
theorem dX11_drop_22 : decode cX11_drop 22 = .ok (.invokespecial 144, 3) := by decide +kernel
theorem dX11_drop_25 : decode cX11_drop 25 = .ok (.athrow, 1) := by decide +kernel
theorem dX11_drop_26 : decode cX11_drop 26 = .ok (.aload_n 0, 1) := by decide +kernel
theorem dX11_drop_27 : decode cX11_drop 27 = .ok (.getfield 60, 3) := by decide +kernel
theorem dX11_drop_30 : decode cX11_drop 30 = .ok (.getfield 130, 3) := by decide +kernel
theorem dX11_drop_33 : decode cX11_drop 33 = .ok (.iload_n 1, 1) := by decide +kernel
theorem dX11_drop_34 : decode cX11_drop 34 = .ok (.invokevirtual 225, 3) := by decide +kernel
theorem dX11_drop_37 : decode cX11_drop 37 = .ok (.pop, 1) := by decide +kernel
theorem dX11_drop_38 : decode cX11_drop 38 = .ok (.aload_n 0, 1) := by decide +kernel
theorem dX11_drop_39 : decode cX11_drop 39 = .ok (.getfield 60, 3) := by decide +kernel
theorem dX11_drop_42 : decode cX11_drop 42 = .ok (.getfield 130, 3) := by decide +kernel
theorem dX11_drop_45 : decode cX11_drop 45 = .ok (.invokevirtual 134, 3) := by decide +kernel
theorem dX11_drop_48 : decode cX11_drop 48 = .ok (.ireturn, 1) := by decide +kernel
theorem dX11_hash_0 : decode cX11_hash 0 = .ok (.iload_n 1, 1) := by decide +kernel
theorem dX11_hash_1 : decode cX11_hash 1 = .ok (.iconst 1, 1) := by decide +kernel
theorem dX11_hash_2 : decode cX11_hash 2 = .ok (.if_icmp .eq 16, 3) := by decide +kernel
theorem dX11_hash_5 : decode cX11_hash 5 = .ok (.iload_n 1, 1) := by decide +kernel
theorem dX11_hash_6 : decode cX11_hash 6 = .ok (.iconst 2, 1) := by decide +kernel
theorem dX11_hash_7 : decode cX11_hash 7 = .ok (.if_icmp .eq 11, 3) := by decide +kernel
theorem dX11_hash_10 : decode cX11_hash 10 = .ok (.new 112, 3) := by decide +kernel
theorem dX11_hash_13 : decode cX11_hash 13 = .ok (.dup, 1) := by decide +kernel
theorem dX11_hash_14 : decode cX11_hash 14 = .ok (.invokespecial 114, 3) := by decide +kernel
theorem dX11_hash_17 : decode cX11_hash 17 = .ok (.athrow, 1) := by decide +kernel
theorem dX11_hash_18 : decode cX11_hash 18 = .ok (.iload_n 2, 1) := by decide +kernel
theorem dX11_hash_19 : decode cX11_hash 19 = .ok (.ifCond .lt 19, 3) := by decide +kernel
theorem dX11_hash_22 : decode cX11_hash 22 = .ok (.iload_n 2, 1) := by decide +kernel
theorem dX11_hash_23 : decode cX11_hash 23 = .ok (.iload_n 1, 1) := by decide +kernel
theorem dX11_hash_24 : decode cX11_hash 24 = .ok (.iconst 1, 1) := by decide +kernel
theorem dX11_hash_25 : decode cX11_hash 25 = .ok (.if_icmp .ne 8, 3) := by decide +kernel
theorem dX11_hash_28 : decode cX11_hash 28 = .ok (.bipush 20, 2) := by decide +kernel
theorem dX11_hash_30 : decode cX11_hash 30 = .ok (.goto 5, 3) := by decide +kernel
theorem dX11_hash_33 : decode cX11_hash 33 = .ok (.bipush 32, 2) := by decide +kernel
theorem dX11_hash_35 : decode cX11_hash 35 = .ok (.if_icmp .lt 11, 3) := by decide +kernel
theorem dX11_hash_38 : decode cX11_hash 38 = .ok (.new 142, 3) := by decide +kernel
theorem dX11_hash_41 : decode cX11_hash 41 = .ok (.dup, 1) := by decide +kernel
theorem dX11_hash_42 : decode cX11_hash 42 = .ok (.invokespecial 144, 3) := by decide +kernel
theorem dX11_hash_45 : decode cX11_hash 45 = .ok (.athrow, 1) := by decide +kernel
theorem dX11_hash_46 : decode cX11_hash 46 = .ok (.aload_n 0, 1) := by decide +kernel
theorem dX11_hash_47 : decode cX11_hash 47 = .ok (.getfield 105, 3) := by decide +kernel
theorem dX11_hash_50 : decode cX11_hash 50 = .ok (.iload_n 1, 1) := by decide +kernel
theorem dX11_hash_51 : decode cX11_hash 51 = .ok (.if_icmp .eq 30, 3) := by decide +kernel
theorem dX11_hash_54 : decode cX11_hash 54 = .ok (.aload_n 0, 1) := by decide +kernel
theorem dX11_hash_55 : decode cX11_hash 55 = .ok (.getfield 53, 3) := by decide +kernel
theorem dX11_hash_58 : decode cX11_hash 58 = .ok (.iload_n 1, 1) := by decide +kernel
theorem dX11_hash_59 : decode cX11_hash 59 = .ok (.iconst 1, 1) := by decide +kernel
theorem dX11_hash_60 : decode cX11_hash 60 = .ok (.if_icmp .ne 7, 3) := by decide +kernel
theorem dX11_hash_63 : decode cX11_hash 63 = .ok (.iconst 2, 1) := by decide +kernel
theorem dX11_hash_64 : decode cX11_hash 64 = .ok (.goto 5, 3) := by decide +kernel
theorem dX11_hash_67 : decode cX11_hash 67 = .ok (.bipush 8, 2) := by decide +kernel
theorem dX11_hash_69 : decode cX11_hash 69 = .ok (.aload_n 0, 1) := by decide +kernel
theorem dX11_hash_70 : decode cX11_hash 70 = .ok (.getfield 18, 3) := by decide +kernel
theorem dX11_hash_73 : decode cX11_hash 73 = .ok (.invokevirtual 228, 3) := by decide +kernel
theorem dX11_hash_76 : decode cX11_hash 76 = .ok (.aload_n 0, 1) := by decide +kernel
theorem dX11_hash_77 : decode cX11_hash 77 = .ok (.iload_n 1, 1) := by decide +kernel
theorem dX11_hash_78 : decode cX11_hash 78 = .ok (.putfield 105, 3) := by decide +kernel
theorem dX11_hash_81 : decode cX11_hash 81 = .ok (.aload_n 0, 1) := by decide +kernel
theorem dX11_hash_82 : decode cX11_hash 82 = .ok (.getfield 53, 3) := by decide +kernel
theorem dX11_hash_85 : decode cX11_hash 85 = .ok (.iload_n 2, 1) := by decide +kernel
theorem dX11_hash_86 : decode cX11_hash 86 = .ok (.invokevirtual 231, 3) := by decide +kernel
theorem dX11_hash_89 : decode cX11_hash 89 = .ok (.ireturn, 1) := by decide +kernel
theorem dX11_isTime_0 : decode cX11_isTime 0 = .ok (.lload_n 0, 1) := by decide +kernel
theorem dX11_isTime_1 : decode cX11_isTime 1 = .ok (.lconst 0, 1) := by decide +kernel
theorem dX11_isTime_2 : decode cX11_isTime 2 = .ok (.lcmp, 1) := by decide +kernel
theorem dX11_isTime_3 : decode cX11_isTime 3 = .ok (.ifCond .lt 15, 3) := by decide +kernel
theorem dX11_isTime_6 : decode cX11_isTime 6 = .ok (.lload_n 0, 1) := by decide +kernel
theorem dX11_isTime_7 : decode cX11_isTime 7 = .ok (.ldc2_w 232, 3) := by decide +kernel
theorem dX11_isTime_10 : decode cX11_isTime 10 = .ok (.lcmp, 1) := by decide +kernel
theorem dX11_isTime_11 : decode cX11_isTime 11 = .ok (.ifCond .gt 7, 3) := by decide +kernel
theorem dX11_isTime_14 : decode cX11_isTime 14 = .ok (.iconst 1, 1) := by decide +kernel
theorem dX11_isTime_15 : decode cX11_isTime 15 = .ok (.goto 4, 3) := by decide +kernel
theorem dX11_isTime_18 : decode cX11_isTime 18 = .ok (.iconst 0, 1) := by decide +kernel
theorem dX11_isTime_19 : decode cX11_isTime 19 = .ok (.ireturn, 1) := by decide +kernel
theorem dX11_found_0 : decode cX11_found 0 = .ok (.iload_n 1, 1) := by decide +kernel
theorem dX11_found_1 : decode cX11_found 1 = .ok (.ifCond .lt 17, 3) := by decide +kernel
theorem dX11_found_4 : decode cX11_found 4 = .ok (.iload_n 1, 1) := by decide +kernel
theorem dX11_found_5 : decode cX11_found 5 = .ok (.aload_n 0, 1) := by decide +kernel
theorem dX11_found_6 : decode cX11_found 6 = .ok (.getfield 60, 3) := by decide +kernel
theorem dX11_found_9 : decode cX11_found 9 = .ok (.getfield 130, 3) := by decide +kernel
theorem dX11_found_12 : decode cX11_found 12 = .ok (.invokevirtual 134, 3) := by decide +kernel
theorem dX11_found_15 : decode cX11_found 15 = .ok (.if_icmp .lt 5, 3) := by decide +kernel
theorem dX11_found_18 : decode cX11_found 18 = .ok (.aconst_null, 1) := by decide +kernel
theorem dX11_found_19 : decode cX11_found 19 = .ok (.areturn, 1) := by decide +kernel
theorem dX11_found_20 : decode cX11_found 20 = .ok (.aload_n 0, 1) := by decide +kernel
theorem dX11_found_21 : decode cX11_found 21 = .ok (.getfield 60, 3) := by decide +kernel
theorem dX11_found_24 : decode cX11_found 24 = .ok (.getfield 130, 3) := by decide +kernel
theorem dX11_found_27 : decode cX11_found 27 = .ok (.iload_n 1, 1) := by decide +kernel
theorem dX11_found_28 : decode cX11_found 28 = .ok (.invokevirtual 195, 3) := by decide +kernel
theorem dX11_found_31 : decode cX11_found 31 = .ok (.checkcast 146, 3) := by decide +kernel
theorem dX11_found_34 : decode cX11_found 34 = .ok (.astore_n 3, 1) := by decide +kernel
theorem dX11_found_35 : decode cX11_found 35 = .ok (.iload_n 2, 1) := by decide +kernel
theorem dX11_found_36 : decode cX11_found 36 = .ok (.iconst (-1), 1) := by decide +kernel
theorem dX11_found_37 : decode cX11_found 37 = .ok (.if_icmp .ne 5, 3) := by decide +kernel
theorem dX11_found_40 : decode cX11_found 40 = .ok (.aload_n 3, 1) := by decide +kernel
theorem dX11_found_41 : decode cX11_found 41 = .ok (.areturn, 1) := by decide +kernel
theorem dX11_found_42 : decode cX11_found 42 = .ok (.iload_n 2, 1) := by decide +kernel
theorem dX11_found_43 : decode cX11_found 43 = .ok (.ifCond .lt 28, 3) := by decide +kernel
theorem dX11_found_46 : decode cX11_found 46 = .ok (.iload_n 2, 1) := by decide +kernel
theorem dX11_found_47 : decode cX11_found 47 = .ok (.aload_n 3, 1) := by decide +kernel
theorem dX11_found_48 : decode cX11_found 48 = .ok (.getfield 157, 3) := by decide +kernel
theorem dX11_found_51 : decode cX11_found 51 = .ok (.invokevirtual 134, 3) := by decide +kernel
theorem dX11_found_54 : decode cX11_found 54 = .ok (.if_icmp .ge 17, 3) := by decide +kernel
theorem dX11_found_57 : decode cX11_found 57 = .ok (.aload_n 3, 1) := by decide +kernel
theorem dX11_found_58 : decode cX11_found 58 = .ok (.getfield 157, 3) := by decide +kernel
theorem dX11_found_61 : decode cX11_found 61 = .ok (.iload_n 2, 1) := by decide +kernel
theorem dX11_found_62 : decode cX11_found 62 = .ok (.invokevirtual 195, 3) := by decide +kernel
theorem dX11_found_65 : decode cX11_found 65 = .ok (.checkcast 146, 3) := by decide +kernel
theorem dX11_found_68 : decode cX11_found 68 = .ok (.goto 4, 3) := by decide +kernel
theorem dX11_found_71 : decode cX11_found 71 = .ok (.aconst_null, 1) := by decide +kernel
theorem dX11_found_72 : decode cX11_found 72 = .ok (.areturn, 1) := by decide +kernel
theorem dX11_isInSigns_0 : decode cX11_isInSigns 0 = .ok (.aload_n 0, 1) := by decide +kernel
theorem dX11_isInSigns_1 : decode cX11_isInSigns 1 = .ok (.getfield 14, 3) := by decide +kernel
theorem dX11_isInSigns_4 : decode cX11_isInSigns 4 = .ok (.getfield 86, 3) := by decide +kernel
theorem dX11_isInSigns_7 : decode cX11_isInSigns 7 = .ok (.ifCond .le 21, 3) := by decide +kernel
theorem dX11_isInSigns_10 : decode cX11_isInSigns 10 = .ok (.aload_n 0, 1) := by decide +kernel
theorem dX11_isInSigns_11 : decode cX11_isInSigns 11 = .ok (.getfield 14, 3) := by decide +kernel
theorem dX11_isInSigns_14 : decode cX11_isInSigns 14 = .ok (.iconst 0, 1) := by decide +kernel
theorem dX11_isInSigns_15 : decode cX11_isInSigns 15 = .ok (.invokevirtual 211, 3) := by decide +kernel
theorem dX11_isInSigns_18 : decode cX11_isInSigns 18 = .ok (.sipush 128, 3) := by decide +kernel
theorem dX11_isInSigns_21 : decode cX11_isInSigns 21 = .ok (.if_icmp .ge 7, 3) := by decide +kernel
theorem dX11_isInSigns_24 : decode cX11_isInSigns 24 = .ok (.iconst 1, 1) := by decide +kernel
theorem dX11_isInSigns_25 : decode cX11_isInSigns 25 = .ok (.goto 4, 3) := by decide +kernel
theorem dX11_isInSigns_28 : decode cX11_isInSigns 28 = .ok (.iconst 0, 1) := by decide +kernel
theorem dX11_isInSigns_29 : decode cX11_isInSigns 29 = .ok (.ireturn, 1) := by decide +kernel
theorem dX11_openKeys_0 : decode cX11_openKeys 0 = .ok (.aload_n 0, 1) := by decide +kernel
theorem dX11_openKeys_1 : decode cX11_openKeys 1 = .ok (.getfield 39, 3) := by decide +kernel
theorem dX11_openKeys_4 : decode cX11_openKeys 4 = .ok (.aload_n 0, 1) := by decide +kernel
theorem dX11_openKeys_5 : decode cX11_openKeys 5 = .ok (.getfield 14, 3) := by decide +kernel
theorem dX11_openKeys_8 : decode cX11_openKeys 8 = .ok (.invokevirtual 234, 3) := by decide +kernel
theorem dX11_openKeys_11 : decode cX11_openKeys 11 = .ok (.aload_n 0, 1) := by decide +kernel
theorem dX11_openKeys_12 : decode cX11_openKeys 12 = .ok (.invokevirtual 238, 3) := by decide +kernel
theorem dX11_openKeys_15 : decode cX11_openKeys 15 = .ok (.ifCond .eq 10, 3) := by decide +kernel
theorem dX11_openKeys_18 : decode cX11_openKeys 18 = .ok (.aload_n 0, 1) := by decide +kernel
theorem dX11_openKeys_19 : decode cX11_openKeys 19 = .ok (.invokevirtual 242, 3) := by decide +kernel
theorem dX11_openKeys_22 : decode cX11_openKeys 22 = .ok (.goto 4, 3) := by decide +kernel
theorem dX11_openKeys_25 : decode cX11_openKeys 25 = .ok (.iconst 0, 1) := by decide +kernel
theorem dX11_openKeys_26 : decode cX11_openKeys 26 = .ok (.ireturn, 1) := by decide +kernel
theorem dX11_openLooked_0 : decode cX11_openLooked 0 = .ok (.aload_n 0, 1) := by decide +kernel
theorem dX11_openLooked_1 : decode cX11_openLooked 1 = .ok (.getfield 32, 3) := by decide +kernel
theorem dX11_openLooked_4 : decode cX11_openLooked 4 = .ok (.aload_n 0, 1) := by decide +kernel
theorem dX11_openLooked_5 : decode cX11_openLooked 5 = .ok (.getfield 18, 3) := by decide +kernel
theorem dX11_openLooked_8 : decode cX11_openLooked 8 = .ok (.getfield 261, 3) := by decide +kernel
theorem dX11_openLooked_11 : decode cX11_openLooked 11 = .ok (.aload_n 0, 1) := by decide +kernel
theorem dX11_openLooked_12 : decode cX11_openLooked 12 = .ok (.getfield 18, 3) := by decide +kernel
theorem dX11_openLooked_15 : decode cX11_openLooked 15 = .ok (.getfield 264, 3) := by decide +kernel
theorem dX11_openLooked_18 : decode cX11_openLooked 18 = .ok (.aload_n 0, 1) := by decide +kernel
theorem dX11_openLooked_19 : decode cX11_openLooked 19 = .ok (.getfield 18, 3) := by decide +kernel
theorem dX11_openLooked_22 : decode cX11_openLooked 22 = .ok (.getfield 86, 3) := by decide +kernel
theorem dX11_openLooked_25 : decode cX11_openLooked 25 = .ok (.invokevirtual 267, 3) := by decide +kernel
theorem dX11_openLooked_28 : decode cX11_openLooked 28 = .ok (.aload_n 0, 1) := by decide +kernel
theorem dX11_openLooked_29 : decode cX11_openLooked 29 = .ok (.getfield 39, 3) := by decide +kernel
theorem dX11_openLooked_32 : decode cX11_openLooked 32 = .ok (.aload_n 0, 1) := by decide +kernel
theorem dX11_openLooked_33 : decode cX11_openLooked 33 = .ok (.getfield 14, 3) := by decide +kernel
theorem dX11_openLooked_36 : decode cX11_openLooked 36 = .ok (.invokevirtual 234, 3) := by decide +kernel
theorem dX11_openLooked_39 : decode cX11_openLooked 39 = .ok (.aload_n 0, 1) := by decide +kernel
theorem dX11_openLooked_40 : decode cX11_openLooked 40 = .ok (.invokevirtual 238, 3) := by decide +kernel
theorem dX11_openLooked_43 : decode cX11_openLooked 43 = .ok (.ifCond .ne 8, 3) := by decide +kernel
theorem dX11_openLooked_46 : decode cX11_openLooked 46 = .ok (.aload_n 0, 1) := by decide +kernel
theorem dX11_openLooked_47 : decode cX11_openLooked 47 = .ok (.invokevirtual 270, 3) := by decide +kernel
theorem dX11_openLooked_50 : decode cX11_openLooked 50 = .ok (.ireturn, 1) := by decide +kernel
theorem dX11_openLooked_51 : decode cX11_openLooked 51 = .ok (.aload_n 0, 1) := by decide +kernel
theorem dX11_openLooked_52 : decode cX11_openLooked 52 = .ok (.getfield 46, 3) := by decide +kernel
theorem dX11_openLooked_55 : decode cX11_openLooked 55 = .ok (.aload_n 0, 1) := by decide +kernel
theorem dX11_openLooked_56 : decode cX11_openLooked 56 = .ok (.getfield 14, 3) := by decide +kernel
theorem dX11_openLooked_59 : decode cX11_openLooked 59 = .ok (.invokevirtual 245, 3) := by decide +kernel
theorem dX11_openLooked_62 : decode cX11_openLooked 62 = .ok (.aload_n 0, 1) := by decide +kernel
theorem dX11_openLooked_63 : decode cX11_openLooked 63 = .ok (.getfield 46, 3) := by decide +kernel
theorem dX11_openLooked_66 : decode cX11_openLooked 66 = .ok (.invokevirtual 246, 3) := by decide +kernel
theorem dX11_openLooked_69 : decode cX11_openLooked 69 = .ok (.pop, 1) := by decide +kernel
theorem dX11_openLooked_70 : decode cX11_openLooked 70 = .ok (.aload_n 0, 1) := by decide +kernel
theorem dX11_openLooked_71 : decode cX11_openLooked 71 = .ok (.getfield 46, 3) := by decide +kernel
theorem dX11_openLooked_74 : decode cX11_openLooked 74 = .ok (.ldc_w 273, 3) := by decide +kernel
theorem dX11_openLooked_77 : decode cX11_openLooked 77 = .ok (.ldc_w 275, 3) := by decide +kernel
theorem dX11_openLooked_80 : decode cX11_openLooked 80 = .ok (.invokevirtual 277, 3) := by decide +kernel
theorem dX11_openLooked_83 : decode cX11_openLooked 83 = .ok (.ifCond .eq 8, 3) := by decide +kernel
theorem dX11_openLooked_86 : decode cX11_openLooked 86 = .ok (.aload_n 0, 1) := by decide +kernel
theorem dX11_openLooked_87 : decode cX11_openLooked 87 = .ok (.invokevirtual 281, 3) := by decide +kernel
theorem dX11_openLooked_90 : decode cX11_openLooked 90 = .ok (.ireturn, 1) := by decide +kernel
theorem dX11_openLooked_91 : decode cX11_openLooked 91 = .ok (.aload_n 0, 1) := by decide +kernel
theorem dX11_openLooked_92 : decode cX11_openLooked 92 = .ok (.invokevirtual 242, 3) := by decide +kernel
theorem dX11_openLooked_95 : decode cX11_openLooked 95 = .ok (.istore_n 1, 1) := by decide +kernel
theorem dX11_openLooked_96 : decode cX11_openLooked 96 = .ok (.iload_n 1, 1) := by decide +kernel
theorem dX11_openLooked_97 : decode cX11_openLooked 97 = .ok (.ifCond .ge 7, 3) := by decide +kernel
theorem dX11_openLooked_100 : decode cX11_openLooked 100 = .ok (.iload_n 1, 1) := by decide +kernel
theorem dX11_openLooked_101 : decode cX11_openLooked 101 = .ok (.goto 7, 3) := by decide +kernel
theorem dX11_openLooked_104 : decode cX11_openLooked 104 = .ok (.aload_n 0, 1) := by decide +kernel
theorem dX11_openLooked_105 : decode cX11_openLooked 105 = .ok (.invokevirtual 270, 3) := by decide +kernel
theorem dX11_openLooked_108 : decode cX11_openLooked 108 = .ok (.ireturn, 1) := by decide +kernel
theorem dX11_readSealed_0 : decode cX11_readSealed 0 = .ok (.aload_n 0, 1) := by decide +kernel
theorem dX11_readSealed_1 : decode cX11_readSealed 1 = .ok (.getfield 39, 3) := by decide +kernel
theorem dX11_readSealed_4 : decode cX11_readSealed 4 = .ok (.invokevirtual 288, 3) := by decide +kernel
theorem dX11_readSealed_7 : decode cX11_readSealed 7 = .ok (.ifCond .ne 11, 3) := by decide +kernel
theorem dX11_readSealed_10 : decode cX11_readSealed 10 = .ok (.aload_n 0, 1) := by decide +kernel
theorem dX11_readSealed_11 : decode cX11_readSealed 11 = .ok (.getfield 39, 3) := by decide +kernel
theorem dX11_readSealed_14 : decode cX11_readSealed 14 = .ok (.invokevirtual 299, 3) := by decide +kernel
theorem dX11_readSealed_17 : decode cX11_readSealed 17 = .ok (.ireturn, 1) := by decide +kernel
theorem dX11_readSealed_18 : decode cX11_readSealed 18 = .ok (.aload_n 0, 1) := by decide +kernel
theorem dX11_readSealed_19 : decode cX11_readSealed 19 = .ok (.getfield 39, 3) := by decide +kernel
theorem dX11_readSealed_22 : decode cX11_readSealed 22 = .ok (.getfield 300, 3) := by decide +kernel
theorem dX11_readSealed_25 : decode cX11_readSealed 25 = .ok (.iconst 4, 1) := by decide +kernel
theorem dX11_readSealed_26 : decode cX11_readSealed 26 = .ok (.if_icmp .eq 25, 3) := by decide +kernel
theorem dX11_readSealed_29 : decode cX11_readSealed 29 = .ok (.aload_n 0, 1) := by decide +kernel
theorem dX11_readSealed_30 : decode cX11_readSealed 30 = .ok (.invokevirtual 290, 3) := by decide +kernel
theorem dX11_readSealed_33 : decode cX11_readSealed 33 = .ok (.ifCond .eq 10, 3) := by decide +kernel
theorem dX11_readSealed_36 : decode cX11_readSealed 36 = .ok (.aload_n 0, 1) := by decide +kernel
theorem dX11_readSealed_37 : decode cX11_readSealed 37 = .ok (.invokevirtual 296, 3) := by decide +kernel
theorem dX11_readSealed_40 : decode cX11_readSealed 40 = .ok (.goto 10, 3) := by decide +kernel
theorem dX11_readSealed_43 : decode cX11_readSealed 43 = .ok (.aload_n 0, 1) := by decide +kernel
theorem dX11_readSealed_44 : decode cX11_readSealed 44 = .ok (.getfield 39, 3) := by decide +kernel
theorem dX11_readSealed_47 : decode cX11_readSealed 47 = .ok (.invokevirtual 299, 3) := by decide +kernel
theorem dX11_readSealed_50 : decode cX11_readSealed 50 = .ok (.ireturn, 1) := by decide +kernel
theorem dX11_readSealed_51 : decode cX11_readSealed 51 = .ok (.aload_n 0, 1) := by decide +kernel
theorem dX11_readSealed_52 : decode cX11_readSealed 52 = .ok (.getfield 39, 3) := by decide +kernel
theorem dX11_readSealed_55 : decode cX11_readSealed 55 = .ok (.getfield 303, 3) := by decide +kernel
theorem dX11_readSealed_58 : decode cX11_readSealed 58 = .ok (.astore_n 1, 1) := by decide +kernel
theorem dX11_readSealed_59 : decode cX11_readSealed 59 = .ok (.aload_n 1, 1) := by decide +kernel
theorem dX11_readSealed_60 : decode cX11_readSealed 60 = .ok (.iconst 1, 1) := by decide +kernel
theorem dX11_readSealed_61 : decode cX11_readSealed 61 = .ok (.invokevirtual 306, 3) := by decide +kernel
theorem dX11_readSealed_64 : decode cX11_readSealed 64 = .ok (.istore_n 2, 1) := by decide +kernel
theorem dX11_readSealed_65 : decode cX11_readSealed 65 = .ok (.aload_n 1, 1) := by decide +kernel
theorem dX11_readSealed_66 : decode cX11_readSealed 66 = .ok (.iconst 2, 1) := by decide +kernel
theorem dX11_readSealed_67 : decode cX11_readSealed 67 = .ok (.invokevirtual 306, 3) := by decide +kernel
theorem dX11_readSealed_70 : decode cX11_readSealed 70 = .ok (.istore_n 3, 1) := by decide +kernel
theorem dX11_readSealed_71 : decode cX11_readSealed 71 = .ok (.aload_n 1, 1) := by decide +kernel
theorem dX11_readSealed_72 : decode cX11_readSealed 72 = .ok (.getfield 307, 3) := by decide +kernel
theorem dX11_readSealed_75 : decode cX11_readSealed 75 = .ok (.bipush 13, 2) := by decide +kernel
theorem dX11_readSealed_77 : decode cX11_readSealed 77 = .ok (.if_icmp .ne 31, 3) := by decide +kernel
theorem dX11_readSealed_80 : decode cX11_readSealed 80 = .ok (.aload_n 1, 1) := by decide +kernel
theorem dX11_readSealed_81 : decode cX11_readSealed 81 = .ok (.iconst 0, 1) := by decide +kernel
theorem dX11_readSealed_82 : decode cX11_readSealed 82 = .ok (.invokevirtual 306, 3) := by decide +kernel
theorem dX11_readSealed_85 : decode cX11_readSealed 85 = .ok (.iconst 3, 1) := by decide +kernel
theorem dX11_readSealed_86 : decode cX11_readSealed 86 = .ok (.if_icmp .ne 22, 3) := by decide +kernel
theorem dX11_readSealed_89 : decode cX11_readSealed 89 = .ok (.aload_n 1, 1) := by decide +kernel
theorem dX11_readSealed_90 : decode cX11_readSealed 90 = .ok (.iconst 3, 1) := by decide +kernel
theorem dX11_readSealed_91 : decode cX11_readSealed 91 = .ok (.invokevirtual 306, 3) := by decide +kernel
theorem dX11_readSealed_94 : decode cX11_readSealed 94 = .ok (.iconst 1, 1) := by decide +kernel
theorem dX11_readSealed_95 : decode cX11_readSealed 95 = .ok (.if_icmp .ne 13, 3) := by decide +kernel
theorem dX11_readSealed_98 : decode cX11_readSealed 98 = .ok (.aload_n 1, 1) := by decide +kernel
theorem dX11_readSealed_99 : decode cX11_readSealed 99 = .ok (.bipush 12, 2) := by decide +kernel
theorem dX11_readSealed_101 : decode cX11_readSealed 101 = .ok (.invokevirtual 306, 3) := by decide +kernel
theorem dX11_readSealed_104 : decode cX11_readSealed 104 = .ok (.iconst 1, 1) := by decide +kernel
theorem dX11_readSealed_105 : decode cX11_readSealed 105 = .ok (.if_icmp .eq 11, 3) := by decide +kernel
theorem dX11_readSealed_108 : decode cX11_readSealed 108 = .ok (.aload_n 0, 1) := by decide +kernel
theorem dX11_readSealed_109 : decode cX11_readSealed 109 = .ok (.getfield 39, 3) := by decide +kernel
theorem dX11_readSealed_112 : decode cX11_readSealed 112 = .ok (.invokevirtual 299, 3) := by decide +kernel
theorem dX11_readSealed_115 : decode cX11_readSealed 115 = .ok (.ireturn, 1) := by decide +kernel
theorem dX11_readSealed_116 : decode cX11_readSealed 116 = .ok (.aload_n 0, 1) := by decide +kernel
theorem dX11_readSealed_117 : decode cX11_readSealed 117 = .ok (.getfield 39, 3) := by decide +kernel
theorem dX11_readSealed_120 : decode cX11_readSealed 120 = .ok (.invokevirtual 288, 3) := by decide +kernel
theorem dX11_readSealed_123 : decode cX11_readSealed 123 = .ok (.ifCond .eq 10, 3) := by decide +kernel
theorem dX11_readSealed_126 : decode cX11_readSealed 126 = .ok (.aload_n 0, 1) := by decide +kernel
theorem dX11_readSealed_127 : decode cX11_readSealed 127 = .ok (.invokevirtual 308, 3) := by decide +kernel
theorem dX11_readSealed_130 : decode cX11_readSealed 130 = .ok (.ifCond .ne 11, 3) := by decide +kernel
theorem dX11_readSealed_133 : decode cX11_readSealed 133 = .ok (.aload_n 0, 1) := by decide +kernel
theorem dX11_readSealed_134 : decode cX11_readSealed 134 = .ok (.getfield 39, 3) := by decide +kernel
theorem dX11_readSealed_137 : decode cX11_readSealed 137 = .ok (.invokevirtual 299, 3) := by decide +kernel
theorem dX11_readSealed_140 : decode cX11_readSealed 140 = .ok (.ireturn, 1) := by decide +kernel
theorem dX11_readSealed_141 : decode cX11_readSealed 141 = .ok (.aload_n 0, 1) := by decide +kernel
theorem dX11_readSealed_142 : decode cX11_readSealed 142 = .ok (.getfield 39, 3) := by decide +kernel
theorem dX11_readSealed_145 : decode cX11_readSealed 145 = .ok (.invokevirtual 288, 3) := by decide +kernel
theorem dX11_readSealed_148 : decode cX11_readSealed 148 = .ok (.ifCond .eq 36, 3) := by decide +kernel
theorem dX11_readSealed_151 : decode cX11_readSealed 151 = .ok (.aload_n 0, 1) := by decide +kernel
theorem dX11_readSealed_152 : decode cX11_readSealed 152 = .ok (.invokevirtual 290, 3) := by decide +kernel
theorem dX11_readSealed_155 : decode cX11_readSealed 155 = .ok (.ifCond .eq 29, 3) := by decide +kernel
theorem dX11_readSealed_158 : decode cX11_readSealed 158 = .ok (.aload_n 0, 1) := by decide +kernel
theorem dX11_readSealed_159 : decode cX11_readSealed 159 = .ok (.getfield 76, 3) := by decide +kernel
theorem dX11_readSealed_162 : decode cX11_readSealed 162 = .ok (.getfield 293, 3) := by decide +kernel
theorem dX11_readSealed_165 : decode cX11_readSealed 165 = .ok (.iload_n 2, 1) := by decide +kernel
theorem dX11_readSealed_166 : decode cX11_readSealed 166 = .ok (.if_icmp .ne 18, 3) := by decide +kernel
theorem dX11_readSealed_169 : decode cX11_readSealed 169 = .ok (.aload_n 0, 1) := by decide +kernel
theorem dX11_readSealed_170 : decode cX11_readSealed 170 = .ok (.getfield 76, 3) := by decide +kernel
theorem dX11_readSealed_173 : decode cX11_readSealed 173 = .ok (.getfield 311, 3) := by decide +kernel
theorem dX11_readSealed_176 : decode cX11_readSealed 176 = .ok (.iload_n 3, 1) := by decide +kernel
theorem dX11_readSealed_177 : decode cX11_readSealed 177 = .ok (.if_icmp .ne 7, 3) := by decide +kernel
theorem dX11_readSealed_180 : decode cX11_readSealed 180 = .ok (.iconst 1, 1) := by decide +kernel
theorem dX11_readSealed_181 : decode cX11_readSealed 181 = .ok (.goto 4, 3) := by decide +kernel
theorem dX11_readSealed_184 : decode cX11_readSealed 184 = .ok (.iconst 0, 1) := by decide +kernel
theorem dX11_readSealed_185 : decode cX11_readSealed 185 = .ok (.istore 4, 2) := by decide +kernel
theorem dX11_readSealed_187 : decode cX11_readSealed 187 = .ok (.iload 4, 2) := by decide +kernel
theorem dX11_readSealed_189 : decode cX11_readSealed 189 = .ok (.ifCond .eq 10, 3) := by decide +kernel
theorem dX11_readSealed_192 : decode cX11_readSealed 192 = .ok (.aload_n 0, 1) := by decide +kernel
theorem dX11_readSealed_193 : decode cX11_readSealed 193 = .ok (.invokevirtual 296, 3) := by decide +kernel
theorem dX11_readSealed_196 : decode cX11_readSealed 196 = .ok (.goto 10, 3) := by decide +kernel
theorem dX11_readSealed_199 : decode cX11_readSealed 199 = .ok (.aload_n 0, 1) := by decide +kernel
theorem dX11_readSealed_200 : decode cX11_readSealed 200 = .ok (.getfield 39, 3) := by decide +kernel
theorem dX11_readSealed_203 : decode cX11_readSealed 203 = .ok (.invokevirtual 299, 3) := by decide +kernel
theorem dX11_readSealed_206 : decode cX11_readSealed 206 = .ok (.ireturn, 1) := by decide +kernel
end
section
theorem dX12_init_0 : decode cX12_init 0 = .ok (.aload_n 0, 1) := by decide +kernel
theorem dX12_init_1 : decode cX12_init 1 = .ok (.invokespecial 1, 3) := by decide +kernel
theorem dX12_init_4 : decode cX12_init 4 = .ok (.aload_n 0, 1) := by decide +kernel
theorem dX12_init_5 : decode cX12_init 5 = .ok (.sipush 4096, 3) := by decide +kernel
theorem dX12_init_8 : decode cX12_init 8 = .ok (.newarray .int, 2) := by decide +kernel
theorem dX12_init_10 : decode cX12_init 10 = .ok (.putfield 7, 3) := by decide +kernel
theorem dX12_init_13 : decode cX12_init 13 = .ok (.aload_n 0, 1) := by decide +kernel
theorem dX12_init_14 : decode cX12_init 14 = .ok (.iconst 0, 1) := by decide +kernel
theorem dX12_init_15 : decode cX12_init 15 = .ok (.newarray .int, 2) := by decide +kernel
theorem dX12_init_17 : decode cX12_init 17 = .ok (.putfield 13, 3) := by decide +kernel
theorem dX12_init_20 : decode cX12_init 20 = .ok (.aload_n 0, 1) := by decide +kernel
theorem dX12_init_21 : decode cX12_init 21 = .ok (.ldc 16, 2) := by decide +kernel
theorem dX12_init_23 : decode cX12_init 23 = .ok (.newarray .int, 2) := by decide +kernel
theorem dX12_init_25 : decode cX12_init 25 = .ok (.putfield 17, 3) := by decide +kernel
theorem dX12_init_28 : decode cX12_init 28 = .ok (.aload_n 0, 1) := by decide +kernel
theorem dX12_init_29 : decode cX12_init 29 = .ok (.sipush 4700, 3) := by decide +kernel
theorem dX12_init_32 : decode cX12_init 32 = .ok (.newarray .int, 2) := by decide +kernel
theorem dX12_init_34 : decode cX12_init 34 = .ok (.putfield 20, 3) := by decide +kernel
theorem dX12_init_37 : decode cX12_init 37 = .ok (.aload_n 0, 1) := by decide +kernel
theorem dX12_init_38 : decode cX12_init 38 = .ok (.sipush 4700, 3) := by decide +kernel
theorem dX12_init_41 : decode cX12_init 41 = .ok (.anewarray 23, 3) := by decide +kernel
theorem dX12_init_44 : decode cX12_init 44 = .ok (.putfield 24, 3) := by decide +kernel
theorem dX12_init_47 : decode cX12_init 47 = .ok (.aload_n 0, 1) := by decide +kernel
theorem dX12_init_48 : decode cX12_init 48 = .ok (.sipush 4700, 3) := by decide +kernel
theorem dX12_init_51 : decode cX12_init 51 = .ok (.anewarray 23, 3) := by decide +kernel
theorem dX12_init_54 : decode cX12_init 54 = .ok (.putfield 28, 3) := by decide +kernel
theorem dX12_init_57 : decode cX12_init 57 = .ok (.aload_n 0, 1) := by decide +kernel
theorem dX12_init_58 : decode cX12_init 58 = .ok (.sipush 4700, 3) := by decide +kernel
theorem dX12_init_61 : decode cX12_init 61 = .ok (.newarray .int, 2) := by decide +kernel
theorem dX12_init_63 : decode cX12_init 63 = .ok (.putfield 31, 3) := by decide +kernel
theorem dX12_init_66 : decode cX12_init 66 = .ok (.aload_n 0, 1) := by decide +kernel
theorem dX12_init_67 : decode cX12_init 67 = .ok (.sipush 4700, 3) := by decide +kernel
theorem dX12_init_70 : decode cX12_init 70 = .ok (.anewarray 23, 3) := by decide +kernel
theorem dX12_init_73 : decode cX12_init 73 = .ok (.putfield 34, 3) := by decide +kernel
theorem dX12_init_76 : decode cX12_init 76 = .ok (.aload_n 0, 1) := by decide +kernel
theorem dX12_init_77 : decode cX12_init 77 = .ok (.sipush 4700, 3) := by decide +kernel
theorem dX12_init_80 : decode cX12_init 80 = .ok (.anewarray 23, 3) := by decide +kernel
theorem dX12_init_83 : decode cX12_init 83 = .ok (.putfield 37, 3) := by decide +kernel
theorem dX12_init_86 : decode cX12_init 86 = .ok (.aload_n 0, 1) := by decide +kernel
theorem dX12_init_87 : decode cX12_init 87 = .ok (.sipush 30000, 3) := by decide +kernel
theorem dX12_init_90 : decode cX12_init 90 = .ok (.newarray .int, 2) := by decide +kernel
theorem dX12_init_92 : decode cX12_init 92 = .ok (.putfield 40, 3) := by decide +kernel
theorem dX12_init_95 : decode cX12_init 95 = .ok (.aload_n 0, 1) := by decide +kernel
theorem dX12_init_96 : decode cX12_init 96 = .ok (.bipush 32, 2) := by decide +kernel
theorem dX12_init_98 : decode cX12_init 98 = .ok (.newarray .int, 2) := by decide +kernel
theorem dX12_init_100 : decode cX12_init 100 = .ok (.putfield 43, 3) := by decide +kernel
theorem dX12_init_103 : decode cX12_init 103 = .ok (.aload_n 0, 1) := by decide +kernel
theorem dX12_init_104 : decode cX12_init 104 = .ok (.bipush 80, 2) := by decide +kernel
theorem dX12_init_106 : decode cX12_init 106 = .ok (.newarray .int, 2) := by decide +kernel
theorem dX12_init_108 : decode cX12_init 108 = .ok (.putfield 46, 3) := by decide +kernel
theorem dX12_init_111 : decode cX12_init 111 = .ok (.aload_n 0, 1) := by decide +kernel
theorem dX12_init_112 : decode cX12_init 112 = .ok (.bipush 8, 2) := by decide +kernel
theorem dX12_init_114 : decode cX12_init 114 = .ok (.newarray .int, 2) := by decide +kernel
theorem dX12_init_116 : decode cX12_init 116 = .ok (.putfield 49, 3) := by decide +kernel
theorem dX12_init_119 : decode cX12_init 119 = .ok (.aload_n 0, 1) := by decide +kernel
theorem dX12_init_120 : decode cX12_init 120 = .ok (.bipush 8, 2) := by decide +kernel
theorem dX12_init_122 : decode cX12_init 122 = .ok (.newarray .int, 2) := by decide +kernel
theorem dX12_init_124 : decode cX12_init 124 = .ok (.putfield 52, 3) := by decide +kernel
theorem dX12_init_127 : decode cX12_init 127 = .ok (.aload_n 0, 1) := by decide +kernel
theorem dX12_init_128 : decode cX12_init 128 = .ok (.bipush 40, 2) := by decide +kernel
theorem dX12_init_130 : decode cX12_init 130 = .ok (.newarray .long, 2) := by decide +kernel
theorem dX12_init_132 : decode cX12_init 132 = .ok (.putfield 55, 3) := by decide +kernel
theorem dX12_init_135 : decode cX12_init 135 = .ok (.aload_n 0, 1) := by decide +kernel
theorem dX12_init_136 : decode cX12_init 136 = .ok (.bipush 42, 2) := by decide +kernel
theorem dX12_init_138 : decode cX12_init 138 = .ok (.newarray .long, 2) := by decide +kernel
theorem dX12_init_140 : decode cX12_init 140 = .ok (.putfield 59, 3) := by decide +kernel
theorem dX12_init_143 : decode cX12_init 143 = .ok (.aload_n 0, 1) := by decide +kernel
theorem dX12_init_144 : decode cX12_init 144 = .ok (.bipush 40, 2) := by decide +kernel
theorem dX12_init_146 : decode cX12_init 146 = .ok (.newarray .long, 2) := by decide +kernel
theorem dX12_init_148 : decode cX12_init 148 = .ok (.putfield 62, 3) := by decide +kernel
theorem dX12_init_151 : decode cX12_init 151 = .ok (.aload_n 0, 1) := by decide +kernel
theorem dX12_init_152 : decode cX12_init 152 = .ok (.bipush 40, 2) := by decide +kernel
theorem dX12_init_154 : decode cX12_init 154 = .ok (.newarray .long, 2) := by decide +kernel
theorem dX12_init_156 : decode cX12_init 156 = .ok (.putfield 65, 3) := by decide +kernel
theorem dX12_init_159 : decode cX12_init 159 = .ok (.aload_n 0, 1) := by decide +kernel
theorem dX12_init_160 : decode cX12_init 160 = .ok (.bipush 40, 2) := by decide +kernel
theorem dX12_init_162 : decode cX12_init 162 = .ok (.newarray .long, 2) := by decide +kernel
theorem dX12_init_164 : decode cX12_init 164 = .ok (.putfield 68, 3) := by decide +kernel
theorem dX12_init_167 : decode cX12_init 167 = .ok (.aload_n 0, 1) := by decide +kernel
theorem dX12_init_168 : decode cX12_init 168 = .ok (.sipush 5000, 3) := by decide +kernel
theorem dX12_init_171 : decode cX12_init 171 = .ok (.newarray .int, 2) := by decide +kernel
theorem dX12_init_173 : decode cX12_init 173 = .ok (.putfield 71, 3) := by decide +kernel
theorem dX12_init_176 : decode cX12_init 176 = .ok (.aload_n 0, 1) := by decide +kernel
theorem dX12_init_177 : decode cX12_init 177 = .ok (.iconst 3, 1) := by decide +kernel
theorem dX12_init_178 : decode cX12_init 178 = .ok (.newarray .boolean, 2) := by decide +kernel
theorem dX12_init_180 : decode cX12_init 180 = .ok (.putfield 74, 3) := by decide +kernel
theorem dX12_init_183 : decode cX12_init 183 = .ok (.return_, 1) := by decide +kernel
theorem dX12_thrown_0 : decode cX12_thrown 0 = .ok (.aload_n 0, 1) := by decide +kernel
theorem dX12_thrown_1 : decode cX12_thrown 1 = .ok (.getfield 78, 3) := by decide +kernel
theorem dX12_thrown_4 : decode cX12_thrown 4 = .ok (.ireturn, 1) := by decide +kernel
theorem dX12_part_0 : decode cX12_part 0 = .ok (.iload_n 2, 1) := by decide +kernel
theorem dX12_part_1 : decode cX12_part 1 = .ok (.newarray .int, 2) := by decide +kernel
theorem dX12_part_3 : decode cX12_part 3 = .ok (.astore_n 3, 1) := by decide +kernel
theorem dX12_part_4 : decode cX12_part 4 = .ok (.iconst 0, 1) := by decide +kernel
theorem dX12_part_5 : decode cX12_part 5 = .ok (.istore 4, 2) := by decide +kernel
theorem dX12_part_7 : decode cX12_part 7 = .ok (.iload 4, 2) := by decide +kernel
theorem dX12_part_9 : decode cX12_part 9 = .ok (.iload_n 2, 1) := by decide +kernel
theorem dX12_part_10 : decode cX12_part 10 = .ok (.if_icmp .ge 19, 3) := by decide +kernel
theorem dX12_part_13 : decode cX12_part 13 = .ok (.aload_n 3, 1) := by decide +kernel
theorem dX12_part_14 : decode cX12_part 14 = .ok (.iload 4, 2) := by decide +kernel
theorem dX12_part_16 : decode cX12_part 16 = .ok (.aload_n 0, 1) := by decide +kernel
theorem dX12_part_17 : decode cX12_part 17 = .ok (.iload_n 1, 1) := by decide +kernel
theorem dX12_part_18 : decode cX12_part 18 = .ok (.iload 4, 2) := by decide +kernel
theorem dX12_part_20 : decode cX12_part 20 = .ok (.iadd, 1) := by decide +kernel
theorem dX12_part_21 : decode cX12_part 21 = .ok (.iaload, 1) := by decide +kernel
theorem dX12_part_22 : decode cX12_part 22 = .ok (.iastore, 1) := by decide +kernel
theorem dX12_part_23 : decode cX12_part 23 = .ok (.iinc 4 1, 3) := by decide +kernel
theorem dX12_part_26 : decode cX12_part 26 = .ok (.goto (-19), 3) := by decide +kernel
theorem dX12_part_29 : decode cX12_part 29 = .ok (.aload_n 3, 1) := by decide +kernel
theorem dX12_part_30 : decode cX12_part 30 = .ok (.areturn, 1) := by decide +kernel
theorem dX12_number_0 : decode cX12_number 0 = .ok (.lconst 0, 1) := by decide +kernel
theorem dX12_number_1 : decode cX12_number 1 = .ok (.lstore_n 3, 1) := by decide +kernel
theorem dX12_number_2 : decode cX12_number 2 = .ok (.iconst 0, 1) := by decide +kernel
theorem dX12_number_3 : decode cX12_number 3 = .ok (.istore 5, 2) := by decide +kernel
theorem dX12_number_5 : decode cX12_number 5 = .ok (.iload 5, 2) := by decide +kernel
theorem dX12_number_7 : decode cX12_number 7 = .ok (.iload_n 2, 1) := by decide +kernel
theorem dX12_number_8 : decode cX12_number 8 = .ok (.if_icmp .ge 23, 3) := by decide +kernel
theorem dX12_number_11 : decode cX12_number 11 = .ok (.lload_n 3, 1) := by decide +kernel
theorem dX12_number_12 : decode cX12_number 12 = .ok (.ldc2_w 82, 3) := by decide +kernel
theorem dX12_number_15 : decode cX12_number 15 = .ok (.lmul, 1) := by decide +kernel
theorem dX12_number_16 : decode cX12_number 16 = .ok (.aload_n 0, 1) := by decide +kernel
theorem dX12_number_17 : decode cX12_number 17 = .ok (.iload_n 1, 1) := by decide +kernel
theorem dX12_number_18 : decode cX12_number 18 = .ok (.iload 5, 2) := by decide +kernel
theorem dX12_number_20 : decode cX12_number 20 = .ok (.iadd, 1) := by decide +kernel
theorem dX12_number_21 : decode cX12_number 21 = .ok (.iaload, 1) := by decide +kernel
theorem dX12_number_22 : decode cX12_number 22 = .ok (.i2l, 1) := by decide +kernel
theorem dX12_number_23 : decode cX12_number 23 = .ok (.ladd, 1) := by decide +kernel
theorem dX12_number_24 : decode cX12_number 24 = .ok (.lstore_n 3, 1) := by decide +kernel
theorem dX12_number_25 : decode cX12_number 25 = .ok (.iinc 5 1, 3) := by decide +kernel
theorem dX12_number_28 : decode cX12_number 28 = .ok (.goto (-23), 3) := by decide +kernel
theorem dX12_number_31 : decode cX12_number 31 = .ok (.lload_n 3, 1) := by decide +kernel
theorem dX12_number_32 : decode cX12_number 32 = .ok (.lreturn, 1) := by decide +kernel
theorem dX12_add_0 : decode cX12_add 0 = .ok (.aload_n 0, 1) := by decide +kernel
theorem dX12_add_1 : decode cX12_add 1 = .ok (.iconst 0, 1) := by decide +kernel
theorem dX12_add_2 : decode cX12_add 2 = .ok (.putfield 78, 3) := by decide +kernel
theorem dX12_add_5 : decode cX12_add 5 = .ok (.iload_n 3, 1) := by decide +kernel
theorem dX12_add_6 : decode cX12_add 6 = .ok (.iconst 1, 1) := by decide +kernel
theorem dX12_add_7 : decode cX12_add 7 = .ok (.if_icmp .lt 21, 3) := by decide +kernel
theorem dX12_add_10 : decode cX12_add 10 = .ok (.iload_n 3, 1) := by decide +kernel
theorem dX12_add_11 : decode cX12_add 11 = .ok (.bipush 8, 2) := by decide +kernel
theorem dX12_add_13 : decode cX12_add 13 = .ok (.if_icmp .gt 15, 3) := by decide +kernel
theorem dX12_add_16 : decode cX12_add 16 = .ok (.aload_n 0, 1) := by decide +kernel
theorem dX12_add_17 : decode cX12_add 17 = .ok (.getfield 84, 3) := by decide +kernel
theorem dX12_add_20 : decode cX12_add 20 = .ok (.iload_n 3, 1) := by decide +kernel
theorem dX12_add_21 : decode cX12_add 21 = .ok (.iadd, 1) := by decide +kernel
theorem dX12_add_22 : decode cX12_add 22 = .ok (.sipush 4096, 3) := by decide +kernel
theorem dX12_add_25 : decode cX12_add 25 = .ok (.if_icmp .le 5, 3) := by decide +kernel
theorem dX12_add_28 : decode cX12_add 28 = .ok (.iconst 0, 1) := by decide +kernel
theorem dX12_add_29 : decode cX12_add 29 = .ok (.ireturn, 1) := by decide +kernel
theorem dX12_add_30 : decode cX12_add 30 = .ok (.iconst 0, 1) := by decide +kernel
theorem dX12_add_31 : decode cX12_add 31 = .ok (.istore 4, 2) := by decide +kernel
theorem dX12_add_33 : decode cX12_add 33 = .ok (.iload 4, 2) := by decide +kernel
theorem dX12_add_35 : decode cX12_add 35 = .ok (.iload_n 3, 1) := by decide +kernel
theorem dX12_add_36 : decode cX12_add 36 = .ok (.if_icmp .ge 40, 3) := by decide +kernel
theorem dX12_add_39 : decode cX12_add 39 = .ok (.aload_n 0, 1) := by decide +kernel
theorem dX12_add_40 : decode cX12_add 40 = .ok (.getfield 7, 3) := by decide +kernel
theorem dX12_add_43 : decode cX12_add 43 = .ok (.aload_n 0, 1) := by decide +kernel
theorem dX12_add_44 : decode cX12_add 44 = .ok (.getfield 84, 3) := by decide +kernel
theorem dX12_add_47 : decode cX12_add 47 = .ok (.lload_n 1, 1) := by decide +kernel
theorem dX12_add_48 : decode cX12_add 48 = .ok (.bipush 8, 2) := by decide +kernel
theorem dX12_add_50 : decode cX12_add 50 = .ok (.iload 4, 2) := by decide +kernel
theorem dX12_add_52 : decode cX12_add 52 = .ok (.imul, 1) := by decide +kernel
theorem dX12_add_53 : decode cX12_add 53 = .ok (.lshr, 1) := by decide +kernel
theorem dX12_add_54 : decode cX12_add 54 = .ok (.ldc2_w 87, 3) := by decide +kernel
theorem dX12_add_57 : decode cX12_add 57 = .ok (.land, 1) := by decide +kernel
theorem dX12_add_58 : decode cX12_add 58 = .ok (.l2i, 1) := by decide +kernel
theorem dX12_add_59 : decode cX12_add 59 = .ok (.iastore, 1) := by decide +kernel
theorem dX12_add_60 : decode cX12_add 60 = .ok (.aload_n 0, 1) := by decide +kernel
theorem dX12_add_61 : decode cX12_add 61 = .ok (.dup, 1) := by decide +kernel
theorem dX12_add_62 : decode cX12_add 62 = .ok (.getfield 84, 3) := by decide +kernel
theorem dX12_add_65 : decode cX12_add 65 = .ok (.iconst 1, 1) := by decide +kernel
theorem dX12_add_66 : decode cX12_add 66 = .ok (.iadd, 1) := by decide +kernel
theorem dX12_add_67 : decode cX12_add 67 = .ok (.putfield 84, 3) := by decide +kernel
theorem dX12_add_70 : decode cX12_add 70 = .ok (.iinc 4 1, 3) := by decide +kernel
theorem dX12_add_73 : decode cX12_add 73 = .ok (.goto (-40), 3) := by decide +kernel
theorem dX12_add_76 : decode cX12_add 76 = .ok (.iconst 1, 1) := by decide +kernel
theorem dX12_add_77 : decode cX12_add 77 = .ok (.ireturn, 1) := by decide +kernel
theorem dX12_taken_0 : decode cX12_taken 0 = .ok (.aload_n 0, 1) := by decide +kernel
theorem dX12_taken_1 : decode cX12_taken 1 = .ok (.getfield 7, 3) := by decide +kernel
theorem dX12_taken_4 : decode cX12_taken 4 = .ok (.iconst 0, 1) := by decide +kernel
theorem dX12_taken_5 : decode cX12_taken 5 = .ok (.aload_n 0, 1) := by decide +kernel
theorem dX12_taken_6 : decode cX12_taken 6 = .ok (.getfield 84, 3) := by decide +kernel
theorem dX12_taken_9 : decode cX12_taken 9 = .ok (.invokestatic 89, 3) := by decide +kernel
theorem dX12_taken_12 : decode cX12_taken 12 = .ok (.astore_n 1, 1) := by decide +kernel
theorem dX12_taken_13 : decode cX12_taken 13 = .ok (.aload_n 0, 1) := by decide +kernel
theorem dX12_taken_14 : decode cX12_taken 14 = .ok (.iconst 0, 1) := by decide +kernel
theorem dX12_taken_15 : decode cX12_taken 15 = .ok (.putfield 84, 3) := by decide +kernel
theorem dX12_taken_18 : decode cX12_taken 18 = .ok (.aload_n 1, 1) := by decide +kernel
theorem dX12_taken_19 : decode cX12_taken 19 = .ok (.areturn, 1) := by decide +kernel
theorem dX12_say_0 : decode cX12_say 0 = .ok (.aload_n 0, 1) := by decide +kernel
theorem dX12_say_1 : decode cX12_say 1 = .ok (.getfield 40, 3) := by decide +kernel
theorem dX12_say_4 : decode cX12_say 4 = .ok (.aload_n 0, 1) := by decide +kernel
theorem dX12_say_5 : decode cX12_say 5 = .ok (.getfield 93, 3) := by decide +kernel
theorem dX12_say_8 : decode cX12_say 8 = .ok (.iload_n 1, 1) := by decide +kernel
theorem dX12_say_9 : decode cX12_say 9 = .ok (.sipush 255, 3) := by decide +kernel
theorem dX12_say_12 : decode cX12_say 12 = .ok (.iand, 1) := by decide +kernel
theorem dX12_say_13 : decode cX12_say 13 = .ok (.iastore, 1) := by decide +kernel
theorem dX12_say_14 : decode cX12_say 14 = .ok (.aload_n 0, 1) := by decide +kernel
theorem dX12_say_15 : decode cX12_say 15 = .ok (.dup, 1) := by decide +kernel
theorem dX12_say_16 : decode cX12_say 16 = .ok (.getfield 93, 3) := by decide +kernel
theorem dX12_say_19 : decode cX12_say 19 = .ok (.iconst 1, 1) := by decide +kernel
theorem dX12_say_20 : decode cX12_say 20 = .ok (.iadd, 1) := by decide +kernel
theorem dX12_say_21 : decode cX12_say 21 = .ok (.putfield 93, 3) := by decide +kernel
theorem dX12_say_24 : decode cX12_say 24 = .ok (.return_, 1) := by decide +kernel
theorem dX12_sayRow_0 : decode cX12_sayRow 0 = .ok (.iload_n 2, 1) := by decide +kernel
theorem dX12_sayRow_1 : decode cX12_sayRow 1 = .ok (.istore 4, 2) := by decide +kernel
theorem dX12_sayRow_3 : decode cX12_sayRow 3 = .ok (.iload 4, 2) := by decide +kernel
theorem dX12_sayRow_5 : decode cX12_sayRow 5 = .ok (.iload_n 3, 1) := by decide +kernel
theorem dX12_sayRow_6 : decode cX12_sayRow 6 = .ok (.if_icmp .ge 17, 3) := by decide +kernel
theorem dX12_sayRow_9 : decode cX12_sayRow 9 = .ok (.aload_n 0, 1) := by decide +kernel
theorem dX12_sayRow_10 : decode cX12_sayRow 10 = .ok (.aload_n 1, 1) := by decide +kernel
theorem dX12_sayRow_11 : decode cX12_sayRow 11 = .ok (.iload 4, 2) := by decide +kernel
theorem dX12_sayRow_13 : decode cX12_sayRow 13 = .ok (.iaload, 1) := by decide +kernel
theorem dX12_sayRow_14 : decode cX12_sayRow 14 = .ok (.invokevirtual 96, 3) := by decide +kernel
theorem dX12_sayRow_17 : decode cX12_sayRow 17 = .ok (.iinc 4 1, 3) := by decide +kernel
theorem dX12_sayRow_20 : decode cX12_sayRow 20 = .ok (.goto (-17), 3) := by decide +kernel
theorem dX12_sayRow_23 : decode cX12_sayRow 23 = .ok (.return_, 1) := by decide +kernel
theorem dX12_sayNumber_0 : decode cX12_sayNumber 0 = .ok (.iload_n 3, 1) := by decide +kernel
theorem dX12_sayNumber_1 : decode cX12_sayNumber 1 = .ok (.iconst 1, 1) := by decide +kernel
theorem dX12_sayNumber_2 : decode cX12_sayNumber 2 = .ok (.isub, 1) := by decide +kernel
theorem dX12_sayNumber_3 : decode cX12_sayNumber 3 = .ok (.istore 4, 2) := by decide +kernel
theorem dX12_sayNumber_5 : decode cX12_sayNumber 5 = .ok (.iload 4, 2) := by decide +kernel
theorem dX12_sayNumber_7 : decode cX12_sayNumber 7 = .ok (.ifCond .lt 25, 3) := by decide +kernel
theorem dX12_sayNumber_10 : decode cX12_sayNumber 10 = .ok (.aload_n 0, 1) := by decide +kernel
theorem dX12_sayNumber_11 : decode cX12_sayNumber 11 = .ok (.lload_n 1, 1) := by decide +kernel
theorem dX12_sayNumber_12 : decode cX12_sayNumber 12 = .ok (.bipush 8, 2) := by decide +kernel
theorem dX12_sayNumber_14 : decode cX12_sayNumber 14 = .ok (.iload 4, 2) := by decide +kernel
theorem dX12_sayNumber_16 : decode cX12_sayNumber 16 = .ok (.imul, 1) := by decide +kernel
theorem dX12_sayNumber_17 : decode cX12_sayNumber 17 = .ok (.lshr, 1) := by decide +kernel
theorem dX12_sayNumber_18 : decode cX12_sayNumber 18 = .ok (.ldc2_w 87, 3) := by decide +kernel
theorem dX12_sayNumber_21 : decode cX12_sayNumber 21 = .ok (.land, 1) := by decide +kernel
theorem dX12_sayNumber_22 : decode cX12_sayNumber 22 = .ok (.l2i, 1) := by decide +kernel
theorem dX12_sayNumber_23 : decode cX12_sayNumber 23 = .ok (.invokevirtual 96, 3) := by decide +kernel
theorem dX12_sayNumber_26 : decode cX12_sayNumber 26 = .ok (.iinc 4 (-1), 3) := by decide +kernel
theorem dX12_sayNumber_29 : decode cX12_sayNumber 29 = .ok (.goto (-24), 3) := by decide +kernel
theorem dX12_sayNumber_32 : decode cX12_sayNumber 32 = .ok (.return_, 1) := by decide +kernel
theorem dX12_left_0 : decode cX12_left 0 = .ok (.iload_n 0, 1) := by decide +kernel
theorem dX12_left_1 : decode cX12_left 1 = .ok (.iload_n 1, 1) := by decide +kernel
theorem dX12_left_2 : decode cX12_left 2 = .ok (.ishl, 1) := by decide +kernel
theorem dX12_left_3 : decode cX12_left 3 = .ok (.iload_n 0, 1) := by decide +kernel
theorem dX12_left_4 : decode cX12_left 4 = .ok (.bipush 32, 2) := by decide +kernel
theorem dX12_left_6 : decode cX12_left 6 = .ok (.iload_n 1, 1) := by decide +kernel
theorem dX12_left_7 : decode cX12_left 7 = .ok (.isub, 1) := by decide +kernel
theorem dX12_left_8 : decode cX12_left 8 = .ok (.iushr, 1) := by decide +kernel
theorem dX12_left_9 : decode cX12_left 9 = .ok (.ior, 1) := by decide +kernel
theorem dX12_left_10 : decode cX12_left 10 = .ok (.ireturn, 1) := by decide +kernel
theorem dX12_close_0 : decode cX12_close 0 = .ok (.ldc2_w 100, 3) := by decide +kernel
theorem dX12_close_3 : decode cX12_close 3 = .ok (.aload_n 0, 1) := by decide +kernel
theorem dX12_close_4 : decode cX12_close 4 = .ok (.getfield 93, 3) := by decide +kernel
theorem dX12_close_7 : decode cX12_close 7 = .ok (.i2l, 1) := by decide +kernel
theorem dX12_close_8 : decode cX12_close 8 = .ok (.lmul, 1) := by decide +kernel
theorem dX12_close_9 : decode cX12_close 9 = .ok (.lstore_n 1, 1) := by decide +kernel
theorem dX12_close_10 : decode cX12_close 10 = .ok (.aload_n 0, 1) := by decide +kernel
theorem dX12_close_11 : decode cX12_close 11 = .ok (.sipush 128, 3) := by decide +kernel
theorem dX12_close_14 : decode cX12_close 14 = .ok (.invokevirtual 96, 3) := by decide +kernel
theorem dX12_close_17 : decode cX12_close 17 = .ok (.aload_n 0, 1) := by decide +kernel
theorem dX12_close_18 : decode cX12_close 18 = .ok (.getfield 93, 3) := by decide +kernel
theorem dX12_close_21 : decode cX12_close 21 = .ok (.bipush 64, 2) := by decide +kernel
theorem dX12_close_23 : decode cX12_close 23 = .ok (.irem, 1) := by decide +kernel
theorem dX12_close_24 : decode cX12_close 24 = .ok (.bipush 56, 2) := by decide +kernel
theorem dX12_close_26 : decode cX12_close 26 = .ok (.if_icmp .eq 11, 3) := by decide +kernel
theorem dX12_close_29 : decode cX12_close 29 = .ok (.aload_n 0, 1) := by decide +kernel
theorem dX12_close_30 : decode cX12_close 30 = .ok (.iconst 0, 1) := by decide +kernel
theorem dX12_close_31 : decode cX12_close 31 = .ok (.invokevirtual 96, 3) := by decide +kernel
theorem dX12_close_34 : decode cX12_close 34 = .ok (.goto (-17), 3) := by decide +kernel
theorem dX12_close_37 : decode cX12_close 37 = .ok (.aload_n 0, 1) := by decide +kernel
theorem dX12_close_38 : decode cX12_close 38 = .ok (.lload_n 1, 1) := by decide +kernel
theorem dX12_close_39 : decode cX12_close 39 = .ok (.bipush 8, 2) := by decide +kernel
theorem dX12_close_41 : decode cX12_close 41 = .ok (.invokevirtual 102, 3) := by decide +kernel
theorem dX12_close_44 : decode cX12_close 44 = .ok (.aload_n 0, 1) := by decide +kernel
theorem dX12_close_45 : decode cX12_close 45 = .ok (.getfield 93, 3) := by decide +kernel
theorem dX12_close_48 : decode cX12_close 48 = .ok (.bipush 64, 2) := by decide +kernel
theorem dX12_close_50 : decode cX12_close 50 = .ok (.idiv, 1) := by decide +kernel
theorem dX12_close_51 : decode cX12_close 51 = .ok (.ireturn, 1) := by decide +kernel
theorem dX12_keep_0 : decode cX12_keep 0 = .ok (.iconst 0, 1) := by decide +kernel
theorem dX12_keep_1 : decode cX12_keep 1 = .ok (.istore_n 3, 1) := by decide +kernel
theorem dX12_keep_2 : decode cX12_keep 2 = .ok (.iload_n 3, 1) := by decide +kernel
theorem dX12_keep_3 : decode cX12_keep 3 = .ok (.iconst 4, 1) := by decide +kernel
theorem dX12_keep_4 : decode cX12_keep 4 = .ok (.if_icmp .ge 32, 3) := by decide +kernel
theorem dX12_keep_7 : decode cX12_keep 7 = .ok (.aload_n 0, 1) := by decide +kernel
theorem dX12_keep_8 : decode cX12_keep 8 = .ok (.getfield 43, 3) := by decide +kernel
theorem dX12_keep_11 : decode cX12_keep 11 = .ok (.iconst 4, 1) := by decide +kernel
theorem dX12_keep_12 : decode cX12_keep 12 = .ok (.iload_n 1, 1) := by decide +kernel
theorem dX12_keep_13 : decode cX12_keep 13 = .ok (.imul, 1) := by decide +kernel
theorem dX12_keep_14 : decode cX12_keep 14 = .ok (.iload_n 3, 1) := by decide +kernel
theorem dX12_keep_15 : decode cX12_keep 15 = .ok (.iadd, 1) := by decide +kernel
theorem dX12_keep_16 : decode cX12_keep 16 = .ok (.iload_n 2, 1) := by decide +kernel
theorem dX12_keep_17 : decode cX12_keep 17 = .ok (.bipush 24, 2) := by decide +kernel
theorem dX12_keep_19 : decode cX12_keep 19 = .ok (.bipush 8, 2) := by decide +kernel
theorem dX12_keep_21 : decode cX12_keep 21 = .ok (.iload_n 3, 1) := by decide +kernel
theorem dX12_keep_22 : decode cX12_keep 22 = .ok (.imul, 1) := by decide +kernel
theorem dX12_keep_23 : decode cX12_keep 23 = .ok (.isub, 1) := by decide +kernel
theorem dX12_keep_24 : decode cX12_keep 24 = .ok (.iushr, 1) := by decide +kernel
theorem dX12_keep_25 : decode cX12_keep 25 = .ok (.sipush 255, 3) := by decide +kernel
theorem dX12_keep_28 : decode cX12_keep 28 = .ok (.iand, 1) := by decide +kernel
theorem dX12_keep_29 : decode cX12_keep 29 = .ok (.iastore, 1) := by decide +kernel
theorem dX12_keep_30 : decode cX12_keep 30 = .ok (.iinc 3 1, 3) := by decide +kernel
theorem dX12_keep_33 : decode cX12_keep 33 = .ok (.goto (-31), 3) := by decide +kernel
theorem dX12_keep_36 : decode cX12_keep 36 = .ok (.return_, 1) := by decide +kernel
theorem dX12_firstHash_0 : decode cX12_firstHash 0 = .ok (.aload_n 0, 1) := by decide +kernel
theorem dX12_firstHash_1 : decode cX12_firstHash 1 = .ok (.invokevirtual 106, 3) := by decide +kernel
theorem dX12_firstHash_4 : decode cX12_firstHash 4 = .ok (.istore_n 1, 1) := by decide +kernel
theorem dX12_firstHash_5 : decode cX12_firstHash 5 = .ok (.ldc 110, 2) := by decide +kernel
theorem dX12_firstHash_7 : decode cX12_firstHash 7 = .ok (.istore_n 2, 1) := by decide +kernel
theorem dX12_firstHash_8 : decode cX12_firstHash 8 = .ok (.ldc 111, 2) := by decide +kernel
theorem dX12_firstHash_10 : decode cX12_firstHash 10 = .ok (.istore_n 3, 1) := by decide +kernel
theorem dX12_firstHash_11 : decode cX12_firstHash 11 = .ok (.ldc 112, 2) := by decide +kernel
theorem dX12_firstHash_13 : decode cX12_firstHash 13 = .ok (.istore 4, 2) := by decide +kernel
theorem dX12_firstHash_15 : decode cX12_firstHash 15 = .ok (.ldc 113, 2) := by decide +kernel
theorem dX12_firstHash_17 : decode cX12_firstHash 17 = .ok (.istore 5, 2) := by decide +kernel
theorem dX12_firstHash_19 : decode cX12_firstHash 19 = .ok (.ldc 114, 2) := by decide +kernel
theorem dX12_firstHash_21 : decode cX12_firstHash 21 = .ok (.istore 6, 2) := by decide +kernel
theorem dX12_firstHash_23 : decode cX12_firstHash 23 = .ok (.iconst 0, 1) := by decide +kernel
theorem dX12_firstHash_24 : decode cX12_firstHash 24 = .ok (.istore 7, 2) := by decide +kernel
theorem dX12_firstHash_26 : decode cX12_firstHash 26 = .ok (.iload 7, 2) := by decide +kernel
theorem dX12_firstHash_28 : decode cX12_firstHash 28 = .ok (.iload_n 1, 1) := by decide +kernel
theorem dX12_firstHash_29 : decode cX12_firstHash 29 = .ok (.if_icmp .ge 319, 3) := by decide +kernel
theorem dX12_firstHash_32 : decode cX12_firstHash 32 = .ok (.iload_n 2, 1) := by decide +kernel
theorem dX12_firstHash_33 : decode cX12_firstHash 33 = .ok (.istore 8, 2) := by decide +kernel
theorem dX12_firstHash_35 : decode cX12_firstHash 35 = .ok (.iload_n 3, 1) := by decide +kernel
theorem dX12_firstHash_36 : decode cX12_firstHash 36 = .ok (.istore 9, 2) := by decide +kernel
theorem dX12_firstHash_38 : decode cX12_firstHash 38 = .ok (.iload 4, 2) := by decide +kernel
theorem dX12_firstHash_40 : decode cX12_firstHash 40 = .ok (.istore 10, 2) := by decide +kernel
theorem dX12_firstHash_42 : decode cX12_firstHash 42 = .ok (.iload 5, 2) := by decide +kernel
theorem dX12_firstHash_44 : decode cX12_firstHash 44 = .ok (.istore 11, 2) := by decide +kernel
theorem dX12_firstHash_46 : decode cX12_firstHash 46 = .ok (.iload 6, 2) := by decide +kernel
theorem dX12_firstHash_48 : decode cX12_firstHash 48 = .ok (.istore 12, 2) := by decide +kernel
theorem dX12_firstHash_50 : decode cX12_firstHash 50 = .ok (.iconst 0, 1) := by decide +kernel
theorem dX12_firstHash_51 : decode cX12_firstHash 51 = .ok (.istore 13, 2) := by decide +kernel
theorem dX12_firstHash_53 : decode cX12_firstHash 53 = .ok (.iload 13, 2) := by decide +kernel
theorem dX12_firstHash_55 : decode cX12_firstHash 55 = .ok (.bipush 80, 2) := by decide +kernel
theorem dX12_firstHash_57 : decode cX12_firstHash 57 = .ok (.if_icmp .ge 254, 3) := by decide +kernel
theorem dX12_firstHash_60 : decode cX12_firstHash 60 = .ok (.aload_n 0, 1) := by decide +kernel
theorem dX12_firstHash_61 : decode cX12_firstHash 61 = .ok (.getfield 46, 3) := by decide +kernel
theorem dX12_firstHash_64 : decode cX12_firstHash 64 = .ok (.iload 13, 2) := by decide +kernel
theorem dX12_firstHash_66 : decode cX12_firstHash 66 = .ok (.iload 13, 2) := by decide +kernel
theorem dX12_firstHash_68 : decode cX12_firstHash 68 = .ok (.bipush 16, 2) := by decide +kernel
theorem dX12_firstHash_70 : decode cX12_firstHash 70 = .ok (.if_icmp .ge 25, 3) := by decide +kernel
theorem dX12_firstHash_73 : decode cX12_firstHash 73 = .ok (.aload_n 0, 1) := by decide +kernel
theorem dX12_firstHash_74 : decode cX12_firstHash 74 = .ok (.getfield 40, 3) := by decide +kernel
theorem dX12_firstHash_77 : decode cX12_firstHash 77 = .ok (.bipush 64, 2) := by decide +kernel
theorem dX12_firstHash_79 : decode cX12_firstHash 79 = .ok (.iload 7, 2) := by decide +kernel
theorem dX12_firstHash_81 : decode cX12_firstHash 81 = .ok (.imul, 1) := by decide +kernel
theorem dX12_firstHash_82 : decode cX12_firstHash 82 = .ok (.iconst 4, 1) := by decide +kernel
theorem dX12_firstHash_83 : decode cX12_firstHash 83 = .ok (.iload 13, 2) := by decide +kernel
theorem dX12_firstHash_85 : decode cX12_firstHash 85 = .ok (.imul, 1) := by decide +kernel
theorem dX12_firstHash_86 : decode cX12_firstHash 86 = .ok (.iadd, 1) := by decide +kernel
theorem dX12_firstHash_87 : decode cX12_firstHash 87 = .ok (.iconst 4, 1) := by decide +kernel
theorem dX12_firstHash_88 : decode cX12_firstHash 88 = .ok (.invokestatic 115, 3) := by decide +kernel
theorem dX12_firstHash_91 : decode cX12_firstHash 91 = .ok (.l2i, 1) := by decide +kernel
theorem dX12_firstHash_92 : decode cX12_firstHash 92 = .ok (.goto 49, 3) := by decide +kernel
theorem dX12_firstHash_95 : decode cX12_firstHash 95 = .ok (.aload_n 0, 1) := by decide +kernel
theorem dX12_firstHash_96 : decode cX12_firstHash 96 = .ok (.getfield 46, 3) := by decide +kernel
theorem dX12_firstHash_99 : decode cX12_firstHash 99 = .ok (.iload 13, 2) := by decide +kernel
theorem dX12_firstHash_101 : decode cX12_firstHash 101 = .ok (.iconst 3, 1) := by decide +kernel
theorem dX12_firstHash_102 : decode cX12_firstHash 102 = .ok (.isub, 1) := by decide +kernel
theorem dX12_firstHash_103 : decode cX12_firstHash 103 = .ok (.iaload, 1) := by decide +kernel
theorem dX12_firstHash_104 : decode cX12_firstHash 104 = .ok (.aload_n 0, 1) := by decide +kernel
theorem dX12_firstHash_105 : decode cX12_firstHash 105 = .ok (.getfield 46, 3) := by decide +kernel
theorem dX12_firstHash_108 : decode cX12_firstHash 108 = .ok (.iload 13, 2) := by decide +kernel
theorem dX12_firstHash_110 : decode cX12_firstHash 110 = .ok (.bipush 8, 2) := by decide +kernel
theorem dX12_firstHash_112 : decode cX12_firstHash 112 = .ok (.isub, 1) := by decide +kernel
theorem dX12_firstHash_113 : decode cX12_firstHash 113 = .ok (.iaload, 1) := by decide +kernel
theorem dX12_firstHash_114 : decode cX12_firstHash 114 = .ok (.ixor, 1) := by decide +kernel
theorem dX12_firstHash_115 : decode cX12_firstHash 115 = .ok (.aload_n 0, 1) := by decide +kernel
theorem dX12_firstHash_116 : decode cX12_firstHash 116 = .ok (.getfield 46, 3) := by decide +kernel
theorem dX12_firstHash_119 : decode cX12_firstHash 119 = .ok (.iload 13, 2) := by decide +kernel
theorem dX12_firstHash_121 : decode cX12_firstHash 121 = .ok (.bipush 14, 2) := by decide +kernel
theorem dX12_firstHash_123 : decode cX12_firstHash 123 = .ok (.isub, 1) := by decide +kernel
theorem dX12_firstHash_124 : decode cX12_firstHash 124 = .ok (.iaload, 1) := by decide +kernel
theorem dX12_firstHash_125 : decode cX12_firstHash 125 = .ok (.ixor, 1) := by decide +kernel
theorem dX12_firstHash_126 : decode cX12_firstHash 126 = .ok (.aload_n 0, 1) := by decide +kernel
theorem dX12_firstHash_127 : decode cX12_firstHash 127 = .ok (.getfield 46, 3) := by decide +kernel
theorem dX12_firstHash_130 : decode cX12_firstHash 130 = .ok (.iload 13, 2) := by decide +kernel
theorem dX12_firstHash_132 : decode cX12_firstHash 132 = .ok (.bipush 16, 2) := by decide +kernel
theorem dX12_firstHash_134 : decode cX12_firstHash 134 = .ok (.isub, 1) := by decide +kernel
theorem dX12_firstHash_135 : decode cX12_firstHash 135 = .ok (.iaload, 1) := by decide +kernel
theorem dX12_firstHash_136 : decode cX12_firstHash 136 = .ok (.ixor, 1) := by decide +kernel
theorem dX12_firstHash_137 : decode cX12_firstHash 137 = .ok (.iconst 1, 1) := by decide +kernel
theorem dX12_firstHash_138 : decode cX12_firstHash 138 = .ok (.invokestatic 119, 3) := by decide +kernel
theorem dX12_firstHash_141 : decode cX12_firstHash 141 = .ok (.iastore, 1) := by decide +kernel
theorem dX12_firstHash_142 : decode cX12_firstHash 142 = .ok (.iload 13, 2) := by decide +kernel
theorem dX12_firstHash_144 : decode cX12_firstHash 144 = .ok (.bipush 20, 2) := by decide +kernel
theorem dX12_firstHash_146 : decode cX12_firstHash 146 = .ok (.if_icmp .ge 17, 3) := by decide +kernel
theorem dX12_firstHash_149 : decode cX12_firstHash 149 = .ok (.iload 11, 2) := by decide +kernel
theorem dX12_firstHash_151 : decode cX12_firstHash 151 = .ok (.iload 9, 2) := by decide +kernel
theorem dX12_firstHash_153 : decode cX12_firstHash 153 = .ok (.iload 10, 2) := by decide +kernel
theorem dX12_firstHash_155 : decode cX12_firstHash 155 = .ok (.iload 11, 2) := by decide +kernel
theorem dX12_firstHash_157 : decode cX12_firstHash 157 = .ok (.ixor, 1) := by decide +kernel
theorem dX12_firstHash_158 : decode cX12_firstHash 158 = .ok (.iand, 1) := by decide +kernel
theorem dX12_firstHash_159 : decode cX12_firstHash 159 = .ok (.ixor, 1) := by decide +kernel
theorem dX12_firstHash_160 : decode cX12_firstHash 160 = .ok (.goto 53, 3) := by decide +kernel
theorem dX12_firstHash_163 : decode cX12_firstHash 163 = .ok (.iload 13, 2) := by decide +kernel
theorem dX12_firstHash_165 : decode cX12_firstHash 165 = .ok (.bipush 40, 2) := by decide +kernel
theorem dX12_firstHash_167 : decode cX12_firstHash 167 = .ok (.if_icmp .ge 14, 3) := by decide +kernel
theorem dX12_firstHash_170 : decode cX12_firstHash 170 = .ok (.iload 9, 2) := by decide +kernel
theorem dX12_firstHash_172 : decode cX12_firstHash 172 = .ok (.iload 10, 2) := by decide +kernel
theorem dX12_firstHash_174 : decode cX12_firstHash 174 = .ok (.ixor, 1) := by decide +kernel
theorem dX12_firstHash_175 : decode cX12_firstHash 175 = .ok (.iload 11, 2) := by decide +kernel
theorem dX12_firstHash_177 : decode cX12_firstHash 177 = .ok (.ixor, 1) := by decide +kernel
theorem dX12_firstHash_178 : decode cX12_firstHash 178 = .ok (.goto 35, 3) := by decide +kernel
theorem dX12_firstHash_181 : decode cX12_firstHash 181 = .ok (.iload 13, 2) := by decide +kernel
theorem dX12_firstHash_183 : decode cX12_firstHash 183 = .ok (.bipush 60, 2) := by decide +kernel
theorem dX12_firstHash_185 : decode cX12_firstHash 185 = .ok (.if_icmp .ge 20, 3) := by decide +kernel
theorem dX12_firstHash_188 : decode cX12_firstHash 188 = .ok (.iload 9, 2) := by decide +kernel
theorem dX12_firstHash_190 : decode cX12_firstHash 190 = .ok (.iload 10, 2) := by decide +kernel
theorem dX12_firstHash_192 : decode cX12_firstHash 192 = .ok (.iand, 1) := by decide +kernel
theorem dX12_firstHash_193 : decode cX12_firstHash 193 = .ok (.iload 11, 2) := by decide +kernel
theorem dX12_firstHash_195 : decode cX12_firstHash 195 = .ok (.iload 9, 2) := by decide +kernel
theorem dX12_firstHash_197 : decode cX12_firstHash 197 = .ok (.iload 10, 2) := by decide +kernel
theorem dX12_firstHash_199 : decode cX12_firstHash 199 = .ok (.ior, 1) := by decide +kernel
theorem dX12_firstHash_200 : decode cX12_firstHash 200 = .ok (.iand, 1) := by decide +kernel
theorem dX12_firstHash_201 : decode cX12_firstHash 201 = .ok (.ior, 1) := by decide +kernel
theorem dX12_firstHash_202 : decode cX12_firstHash 202 = .ok (.goto 11, 3) := by decide +kernel
theorem dX12_firstHash_205 : decode cX12_firstHash 205 = .ok (.iload 9, 2) := by decide +kernel
theorem dX12_firstHash_207 : decode cX12_firstHash 207 = .ok (.iload 10, 2) := by decide +kernel
theorem dX12_firstHash_209 : decode cX12_firstHash 209 = .ok (.ixor, 1) := by decide +kernel
theorem dX12_firstHash_210 : decode cX12_firstHash 210 = .ok (.iload 11, 2) := by decide +kernel
theorem dX12_firstHash_212 : decode cX12_firstHash 212 = .ok (.ixor, 1) := by decide +kernel
theorem dX12_firstHash_213 : decode cX12_firstHash 213 = .ok (.istore 14, 2) := by decide +kernel
theorem dX12_firstHash_215 : decode cX12_firstHash 215 = .ok (.iload 13, 2) := by decide +kernel
theorem dX12_firstHash_217 : decode cX12_firstHash 217 = .ok (.bipush 20, 2) := by decide +kernel
theorem dX12_firstHash_219 : decode cX12_firstHash 219 = .ok (.if_icmp .ge 8, 3) := by decide +kernel
theorem dX12_firstHash_222 : decode cX12_firstHash 222 = .ok (.ldc 123, 2) := by decide +kernel
theorem dX12_firstHash_224 : decode cX12_firstHash 224 = .ok (.goto 29, 3) := by decide +kernel
theorem dX12_firstHash_227 : decode cX12_firstHash 227 = .ok (.iload 13, 2) := by decide +kernel
theorem dX12_firstHash_229 : decode cX12_firstHash 229 = .ok (.bipush 40, 2) := by decide +kernel
theorem dX12_firstHash_231 : decode cX12_firstHash 231 = .ok (.if_icmp .ge 8, 3) := by decide +kernel
theorem dX12_firstHash_234 : decode cX12_firstHash 234 = .ok (.ldc 124, 2) := by decide +kernel
theorem dX12_firstHash_236 : decode cX12_firstHash 236 = .ok (.goto 17, 3) := by decide +kernel
theorem dX12_firstHash_239 : decode cX12_firstHash 239 = .ok (.iload 13, 2) := by decide +kernel
theorem dX12_firstHash_241 : decode cX12_firstHash 241 = .ok (.bipush 60, 2) := by decide +kernel
theorem dX12_firstHash_243 : decode cX12_firstHash 243 = .ok (.if_icmp .ge 8, 3) := by decide +kernel
theorem dX12_firstHash_246 : decode cX12_firstHash 246 = .ok (.ldc 125, 2) := by decide +kernel
theorem dX12_firstHash_248 : decode cX12_firstHash 248 = .ok (.goto 5, 3) := by decide +kernel
theorem dX12_firstHash_251 : decode cX12_firstHash 251 = .ok (.ldc 126, 2) := by decide +kernel
theorem dX12_firstHash_253 : decode cX12_firstHash 253 = .ok (.istore 15, 2) := by decide +kernel
theorem dX12_firstHash_255 : decode cX12_firstHash 255 = .ok (.iload 8, 2) := by decide +kernel
theorem dX12_firstHash_257 : decode cX12_firstHash 257 = .ok (.iconst 5, 1) := by decide +kernel
theorem dX12_firstHash_258 : decode cX12_firstHash 258 = .ok (.invokestatic 119, 3) := by decide +kernel
theorem dX12_firstHash_261 : decode cX12_firstHash 261 = .ok (.iload 14, 2) := by decide +kernel
theorem dX12_firstHash_263 : decode cX12_firstHash 263 = .ok (.iadd, 1) := by decide +kernel
theorem dX12_firstHash_264 : decode cX12_firstHash 264 = .ok (.iload 12, 2) := by decide +kernel
theorem dX12_firstHash_266 : decode cX12_firstHash 266 = .ok (.iadd, 1) := by decide +kernel
theorem dX12_firstHash_267 : decode cX12_firstHash 267 = .ok (.iload 15, 2) := by decide +kernel
theorem dX12_firstHash_269 : decode cX12_firstHash 269 = .ok (.iadd, 1) := by decide +kernel
theorem dX12_firstHash_270 : decode cX12_firstHash 270 = .ok (.aload_n 0, 1) := by decide +kernel
theorem dX12_firstHash_271 : decode cX12_firstHash 271 = .ok (.getfield 46, 3) := by decide +kernel
theorem dX12_firstHash_274 : decode cX12_firstHash 274 = .ok (.iload 13, 2) := by decide +kernel
theorem dX12_firstHash_276 : decode cX12_firstHash 276 = .ok (.iaload, 1) := by decide +kernel
theorem dX12_firstHash_277 : decode cX12_firstHash 277 = .ok (.iadd, 1) := by decide +kernel
theorem dX12_firstHash_278 : decode cX12_firstHash 278 = .ok (.istore 16, 2) := by decide +kernel
theorem dX12_firstHash_280 : decode cX12_firstHash 280 = .ok (.iload 11, 2) := by decide +kernel
theorem dX12_firstHash_282 : decode cX12_firstHash 282 = .ok (.istore 12, 2) := by decide +kernel
theorem dX12_firstHash_284 : decode cX12_firstHash 284 = .ok (.iload 10, 2) := by decide +kernel
theorem dX12_firstHash_286 : decode cX12_firstHash 286 = .ok (.istore 11, 2) := by decide +kernel
theorem dX12_firstHash_288 : decode cX12_firstHash 288 = .ok (.iload 9, 2) := by decide +kernel
theorem dX12_firstHash_290 : decode cX12_firstHash 290 = .ok (.bipush 30, 2) := by decide +kernel
theorem dX12_firstHash_292 : decode cX12_firstHash 292 = .ok (.invokestatic 119, 3) := by decide +kernel
theorem dX12_firstHash_295 : decode cX12_firstHash 295 = .ok (.istore 10, 2) := by decide +kernel
theorem dX12_firstHash_297 : decode cX12_firstHash 297 = .ok (.iload 8, 2) := by decide +kernel
theorem dX12_firstHash_299 : decode cX12_firstHash 299 = .ok (.istore 9, 2) := by decide +kernel
theorem dX12_firstHash_301 : decode cX12_firstHash 301 = .ok (.iload 16, 2) := by decide +kernel
theorem dX12_firstHash_303 : decode cX12_firstHash 303 = .ok (.istore 8, 2) := by decide +kernel
theorem dX12_firstHash_305 : decode cX12_firstHash 305 = .ok (.iinc 13 1, 3) := by decide +kernel
theorem dX12_firstHash_308 : decode cX12_firstHash 308 = .ok (.goto (-255), 3) := by decide +kernel
theorem dX12_firstHash_311 : decode cX12_firstHash 311 = .ok (.iload_n 2, 1) := by decide +kernel
theorem dX12_firstHash_312 : decode cX12_firstHash 312 = .ok (.iload 8, 2) := by decide +kernel
theorem dX12_firstHash_314 : decode cX12_firstHash 314 = .ok (.iadd, 1) := by decide +kernel
theorem dX12_firstHash_315 : decode cX12_firstHash 315 = .ok (.istore_n 2, 1) := by decide +kernel
theorem dX12_firstHash_316 : decode cX12_firstHash 316 = .ok (.iload_n 3, 1) := by decide +kernel
theorem dX12_firstHash_317 : decode cX12_firstHash 317 = .ok (.iload 9, 2) := by decide +kernel
theorem dX12_firstHash_319 : decode cX12_firstHash 319 = .ok (.iadd, 1) := by decide +kernel
theorem dX12_firstHash_320 : decode cX12_firstHash 320 = .ok (.istore_n 3, 1) := by decide +kernel
theorem dX12_firstHash_321 : decode cX12_firstHash 321 = .ok (.iload 4, 2) := by decide +kernel
theorem dX12_firstHash_323 : decode cX12_firstHash 323 = .ok (.iload 10, 2) := by decide +kernel
theorem dX12_firstHash_325 : decode cX12_firstHash 325 = .ok (.iadd, 1) := by decide +kernel
theorem dX12_firstHash_326 : decode cX12_firstHash 326 = .ok (.istore 4, 2) := by decide +kernel
theorem dX12_firstHash_328 : decode cX12_firstHash 328 = .ok (.iload 5, 2) := by decide +kernel
theorem dX12_firstHash_330 : decode cX12_firstHash 330 = .ok (.iload 11, 2) := by decide +kernel
theorem dX12_firstHash_332 : decode cX12_firstHash 332 = .ok (.iadd, 1) := by decide +kernel
theorem dX12_firstHash_333 : decode cX12_firstHash 333 = .ok (.istore 5, 2) := by decide +kernel
theorem dX12_firstHash_335 : decode cX12_firstHash 335 = .ok (.iload 6, 2) := by decide +kernel
theorem dX12_firstHash_337 : decode cX12_firstHash 337 = .ok (.iload 12, 2) := by decide +kernel
theorem dX12_firstHash_339 : decode cX12_firstHash 339 = .ok (.iadd, 1) := by decide +kernel
theorem dX12_firstHash_340 : decode cX12_firstHash 340 = .ok (.istore 6, 2) := by decide +kernel
theorem dX12_firstHash_342 : decode cX12_firstHash 342 = .ok (.iinc 7 1, 3) := by decide +kernel
theorem dX12_firstHash_345 : decode cX12_firstHash 345 = .ok (.goto (-319), 3) := by decide +kernel
theorem dX12_firstHash_348 : decode cX12_firstHash 348 = .ok (.aload_n 0, 1) := by decide +kernel
theorem dX12_firstHash_349 : decode cX12_firstHash 349 = .ok (.iconst 0, 1) := by decide +kernel
theorem dX12_firstHash_350 : decode cX12_firstHash 350 = .ok (.iload_n 2, 1) := by decide +kernel
theorem dX12_firstHash_351 : decode cX12_firstHash 351 = .ok (.invokevirtual 127, 3) := by decide +kernel
theorem dX12_firstHash_354 : decode cX12_firstHash 354 = .ok (.aload_n 0, 1) := by decide +kernel
theorem dX12_firstHash_355 : decode cX12_firstHash 355 = .ok (.iconst 1, 1) := by decide +kernel
theorem dX12_firstHash_356 : decode cX12_firstHash 356 = .ok (.iload_n 3, 1) := by decide +kernel
theorem dX12_firstHash_357 : decode cX12_firstHash 357 = .ok (.invokevirtual 127, 3) := by decide +kernel
theorem dX12_firstHash_360 : decode cX12_firstHash 360 = .ok (.aload_n 0, 1) := by decide +kernel
theorem dX12_firstHash_361 : decode cX12_firstHash 361 = .ok (.iconst 2, 1) := by decide +kernel
theorem dX12_firstHash_362 : decode cX12_firstHash 362 = .ok (.iload 4, 2) := by decide +kernel
theorem dX12_firstHash_364 : decode cX12_firstHash 364 = .ok (.invokevirtual 127, 3) := by decide +kernel
theorem dX12_firstHash_367 : decode cX12_firstHash 367 = .ok (.aload_n 0, 1) := by decide +kernel
theorem dX12_firstHash_368 : decode cX12_firstHash 368 = .ok (.iconst 3, 1) := by decide +kernel
theorem dX12_firstHash_369 : decode cX12_firstHash 369 = .ok (.iload 5, 2) := by decide +kernel
theorem dX12_firstHash_371 : decode cX12_firstHash 371 = .ok (.invokevirtual 127, 3) := by decide +kernel
theorem dX12_firstHash_374 : decode cX12_firstHash 374 = .ok (.aload_n 0, 1) := by decide +kernel
theorem dX12_firstHash_375 : decode cX12_firstHash 375 = .ok (.iconst 4, 1) := by decide +kernel
theorem dX12_firstHash_376 : decode cX12_firstHash 376 = .ok (.iload 6, 2) := by decide +kernel
theorem dX12_firstHash_378 : decode cX12_firstHash 378 = .ok (.invokevirtual 127, 3) := by decide +kernel
theorem dX12_firstHash_381 : decode cX12_firstHash 381 = .ok (.return_, 1) := by decide +kernel
theorem dX12_secondHash_0 : decode cX12_secondHash 0 = .ok (.aload_n 0, 1) := by decide +kernel
theorem dX12_secondHash_1 : decode cX12_secondHash 1 = .ok (.invokevirtual 106, 3) := by decide +kernel
theorem dX12_secondHash_4 : decode cX12_secondHash 4 = .ok (.istore_n 1, 1) := by decide +kernel
theorem dX12_secondHash_5 : decode cX12_secondHash 5 = .ok (.aload_n 0, 1) := by decide +kernel
theorem dX12_secondHash_6 : decode cX12_secondHash 6 = .ok (.getfield 49, 3) := by decide +kernel
theorem dX12_secondHash_9 : decode cX12_secondHash 9 = .ok (.iconst 0, 1) := by decide +kernel
theorem dX12_secondHash_10 : decode cX12_secondHash 10 = .ok (.ldc 131, 2) := by decide +kernel
theorem dX12_secondHash_12 : decode cX12_secondHash 12 = .ok (.iastore, 1) := by decide +kernel
theorem dX12_secondHash_13 : decode cX12_secondHash 13 = .ok (.aload_n 0, 1) := by decide +kernel
theorem dX12_secondHash_14 : decode cX12_secondHash 14 = .ok (.getfield 49, 3) := by decide +kernel
theorem dX12_secondHash_17 : decode cX12_secondHash 17 = .ok (.iconst 1, 1) := by decide +kernel
theorem dX12_secondHash_18 : decode cX12_secondHash 18 = .ok (.ldc 132, 2) := by decide +kernel
theorem dX12_secondHash_20 : decode cX12_secondHash 20 = .ok (.iastore, 1) := by decide +kernel
theorem dX12_secondHash_21 : decode cX12_secondHash 21 = .ok (.aload_n 0, 1) := by decide +kernel
theorem dX12_secondHash_22 : decode cX12_secondHash 22 = .ok (.getfield 49, 3) := by decide +kernel
theorem dX12_secondHash_25 : decode cX12_secondHash 25 = .ok (.iconst 2, 1) := by decide +kernel
theorem dX12_secondHash_26 : decode cX12_secondHash 26 = .ok (.ldc 133, 2) := by decide +kernel
theorem dX12_secondHash_28 : decode cX12_secondHash 28 = .ok (.iastore, 1) := by decide +kernel
theorem dX12_secondHash_29 : decode cX12_secondHash 29 = .ok (.aload_n 0, 1) := by decide +kernel
theorem dX12_secondHash_30 : decode cX12_secondHash 30 = .ok (.getfield 49, 3) := by decide +kernel
theorem dX12_secondHash_33 : decode cX12_secondHash 33 = .ok (.iconst 3, 1) := by decide +kernel
theorem dX12_secondHash_34 : decode cX12_secondHash 34 = .ok (.ldc 134, 2) := by decide +kernel
theorem dX12_secondHash_36 : decode cX12_secondHash 36 = .ok (.iastore, 1) := by decide +kernel
theorem dX12_secondHash_37 : decode cX12_secondHash 37 = .ok (.aload_n 0, 1) := by decide +kernel
theorem dX12_secondHash_38 : decode cX12_secondHash 38 = .ok (.getfield 49, 3) := by decide +kernel
theorem dX12_secondHash_41 : decode cX12_secondHash 41 = .ok (.iconst 4, 1) := by decide +kernel
theorem dX12_secondHash_42 : decode cX12_secondHash 42 = .ok (.ldc 135, 2) := by decide +kernel
theorem dX12_secondHash_44 : decode cX12_secondHash 44 = .ok (.iastore, 1) := by decide +kernel
theorem dX12_secondHash_45 : decode cX12_secondHash 45 = .ok (.aload_n 0, 1) := by decide +kernel
theorem dX12_secondHash_46 : decode cX12_secondHash 46 = .ok (.getfield 49, 3) := by decide +kernel
theorem dX12_secondHash_49 : decode cX12_secondHash 49 = .ok (.iconst 5, 1) := by decide +kernel
theorem dX12_secondHash_50 : decode cX12_secondHash 50 = .ok (.ldc 136, 2) := by decide +kernel
theorem dX12_secondHash_52 : decode cX12_secondHash 52 = .ok (.iastore, 1) := by decide +kernel
theorem dX12_secondHash_53 : decode cX12_secondHash 53 = .ok (.aload_n 0, 1) := by decide +kernel
theorem dX12_secondHash_54 : decode cX12_secondHash 54 = .ok (.getfield 49, 3) := by decide +kernel
theorem dX12_secondHash_57 : decode cX12_secondHash 57 = .ok (.bipush 6, 2) := by decide +kernel
theorem dX12_secondHash_59 : decode cX12_secondHash 59 = .ok (.ldc 137, 2) := by decide +kernel
theorem dX12_secondHash_61 : decode cX12_secondHash 61 = .ok (.iastore, 1) := by decide +kernel
theorem dX12_secondHash_62 : decode cX12_secondHash 62 = .ok (.aload_n 0, 1) := by decide +kernel
theorem dX12_secondHash_63 : decode cX12_secondHash 63 = .ok (.getfield 49, 3) := by decide +kernel
theorem dX12_secondHash_66 : decode cX12_secondHash 66 = .ok (.bipush 7, 2) := by decide +kernel
theorem dX12_secondHash_68 : decode cX12_secondHash 68 = .ok (.ldc 138, 2) := by decide +kernel
theorem dX12_secondHash_70 : decode cX12_secondHash 70 = .ok (.iastore, 1) := by decide +kernel
theorem dX12_secondHash_71 : decode cX12_secondHash 71 = .ok (.iconst 0, 1) := by decide +kernel
theorem dX12_secondHash_72 : decode cX12_secondHash 72 = .ok (.istore_n 2, 1) := by decide +kernel
theorem dX12_secondHash_73 : decode cX12_secondHash 73 = .ok (.iload_n 2, 1) := by decide +kernel
theorem dX12_secondHash_74 : decode cX12_secondHash 74 = .ok (.iload_n 1, 1) := by decide +kernel
theorem dX12_secondHash_75 : decode cX12_secondHash 75 = .ok (.if_icmp .ge 423, 3) := by decide +kernel
theorem dX12_secondHash_78 : decode cX12_secondHash 78 = .ok (.iconst 0, 1) := by decide +kernel
theorem dX12_secondHash_79 : decode cX12_secondHash 79 = .ok (.istore_n 3, 1) := by decide +kernel
theorem dX12_secondHash_80 : decode cX12_secondHash 80 = .ok (.iload_n 3, 1) := by decide +kernel
theorem dX12_secondHash_81 : decode cX12_secondHash 81 = .ok (.bipush 8, 2) := by decide +kernel
theorem dX12_secondHash_83 : decode cX12_secondHash 83 = .ok (.if_icmp .ge 21, 3) := by decide +kernel
theorem dX12_secondHash_86 : decode cX12_secondHash 86 = .ok (.aload_n 0, 1) := by decide +kernel
theorem dX12_secondHash_87 : decode cX12_secondHash 87 = .ok (.getfield 52, 3) := by decide +kernel
theorem dX12_secondHash_90 : decode cX12_secondHash 90 = .ok (.iload_n 3, 1) := by decide +kernel
theorem dX12_secondHash_91 : decode cX12_secondHash 91 = .ok (.aload_n 0, 1) := by decide +kernel
theorem dX12_secondHash_92 : decode cX12_secondHash 92 = .ok (.getfield 49, 3) := by decide +kernel
theorem dX12_secondHash_95 : decode cX12_secondHash 95 = .ok (.iload_n 3, 1) := by decide +kernel
theorem dX12_secondHash_96 : decode cX12_secondHash 96 = .ok (.iaload, 1) := by decide +kernel
theorem dX12_secondHash_97 : decode cX12_secondHash 97 = .ok (.iastore, 1) := by decide +kernel
theorem dX12_secondHash_98 : decode cX12_secondHash 98 = .ok (.iinc 3 1, 3) := by decide +kernel
theorem dX12_secondHash_101 : decode cX12_secondHash 101 = .ok (.goto (-21), 3) := by decide +kernel
theorem dX12_secondHash_104 : decode cX12_secondHash 104 = .ok (.iconst 0, 1) := by decide +kernel
theorem dX12_secondHash_105 : decode cX12_secondHash 105 = .ok (.istore_n 3, 1) := by decide +kernel
theorem dX12_secondHash_106 : decode cX12_secondHash 106 = .ok (.iload_n 3, 1) := by decide +kernel
theorem dX12_secondHash_107 : decode cX12_secondHash 107 = .ok (.bipush 64, 2) := by decide +kernel
theorem dX12_secondHash_109 : decode cX12_secondHash 109 = .ok (.if_icmp .ge 354, 3) := by decide +kernel
theorem dX12_secondHash_112 : decode cX12_secondHash 112 = .ok (.iload_n 3, 1) := by decide +kernel
theorem dX12_secondHash_113 : decode cX12_secondHash 113 = .ok (.bipush 16, 2) := by decide +kernel
theorem dX12_secondHash_115 : decode cX12_secondHash 115 = .ok (.if_icmp .ge 29, 3) := by decide +kernel
theorem dX12_secondHash_118 : decode cX12_secondHash 118 = .ok (.aload_n 0, 1) := by decide +kernel
theorem dX12_secondHash_119 : decode cX12_secondHash 119 = .ok (.getfield 46, 3) := by decide +kernel
theorem dX12_secondHash_122 : decode cX12_secondHash 122 = .ok (.iload_n 3, 1) := by decide +kernel
theorem dX12_secondHash_123 : decode cX12_secondHash 123 = .ok (.aload_n 0, 1) := by decide +kernel
theorem dX12_secondHash_124 : decode cX12_secondHash 124 = .ok (.getfield 40, 3) := by decide +kernel
theorem dX12_secondHash_127 : decode cX12_secondHash 127 = .ok (.bipush 64, 2) := by decide +kernel
theorem dX12_secondHash_129 : decode cX12_secondHash 129 = .ok (.iload_n 2, 1) := by decide +kernel
theorem dX12_secondHash_130 : decode cX12_secondHash 130 = .ok (.imul, 1) := by decide +kernel
theorem dX12_secondHash_131 : decode cX12_secondHash 131 = .ok (.iconst 4, 1) := by decide +kernel
theorem dX12_secondHash_132 : decode cX12_secondHash 132 = .ok (.iload_n 3, 1) := by decide +kernel
theorem dX12_secondHash_133 : decode cX12_secondHash 133 = .ok (.imul, 1) := by decide +kernel
theorem dX12_secondHash_134 : decode cX12_secondHash 134 = .ok (.iadd, 1) := by decide +kernel
theorem dX12_secondHash_135 : decode cX12_secondHash 135 = .ok (.iconst 4, 1) := by decide +kernel
theorem dX12_secondHash_136 : decode cX12_secondHash 136 = .ok (.invokestatic 115, 3) := by decide +kernel
theorem dX12_secondHash_139 : decode cX12_secondHash 139 = .ok (.l2i, 1) := by decide +kernel
theorem dX12_secondHash_140 : decode cX12_secondHash 140 = .ok (.iastore, 1) := by decide +kernel
theorem dX12_secondHash_141 : decode cX12_secondHash 141 = .ok (.goto 92, 3) := by decide +kernel
theorem dX12_secondHash_144 : decode cX12_secondHash 144 = .ok (.aload_n 0, 1) := by decide +kernel
theorem dX12_secondHash_145 : decode cX12_secondHash 145 = .ok (.getfield 46, 3) := by decide +kernel
theorem dX12_secondHash_148 : decode cX12_secondHash 148 = .ok (.iload_n 3, 1) := by decide +kernel
theorem dX12_secondHash_149 : decode cX12_secondHash 149 = .ok (.bipush 15, 2) := by decide +kernel
theorem dX12_secondHash_151 : decode cX12_secondHash 151 = .ok (.isub, 1) := by decide +kernel
theorem dX12_secondHash_152 : decode cX12_secondHash 152 = .ok (.iaload, 1) := by decide +kernel
theorem dX12_secondHash_153 : decode cX12_secondHash 153 = .ok (.istore 4, 2) := by decide +kernel
theorem dX12_secondHash_155 : decode cX12_secondHash 155 = .ok (.aload_n 0, 1) := by decide +kernel
theorem dX12_secondHash_156 : decode cX12_secondHash 156 = .ok (.getfield 46, 3) := by decide +kernel
theorem dX12_secondHash_159 : decode cX12_secondHash 159 = .ok (.iload_n 3, 1) := by decide +kernel
theorem dX12_secondHash_160 : decode cX12_secondHash 160 = .ok (.iconst 2, 1) := by decide +kernel
theorem dX12_secondHash_161 : decode cX12_secondHash 161 = .ok (.isub, 1) := by decide +kernel
theorem dX12_secondHash_162 : decode cX12_secondHash 162 = .ok (.iaload, 1) := by decide +kernel
theorem dX12_secondHash_163 : decode cX12_secondHash 163 = .ok (.istore 5, 2) := by decide +kernel
theorem dX12_secondHash_165 : decode cX12_secondHash 165 = .ok (.aload_n 0, 1) := by decide +kernel
theorem dX12_secondHash_166 : decode cX12_secondHash 166 = .ok (.getfield 46, 3) := by decide +kernel
theorem dX12_secondHash_169 : decode cX12_secondHash 169 = .ok (.iload_n 3, 1) := by decide +kernel
theorem dX12_secondHash_170 : decode cX12_secondHash 170 = .ok (.aload_n 0, 1) := by decide +kernel
theorem dX12_secondHash_171 : decode cX12_secondHash 171 = .ok (.getfield 46, 3) := by decide +kernel
theorem dX12_secondHash_174 : decode cX12_secondHash 174 = .ok (.iload_n 3, 1) := by decide +kernel
theorem dX12_secondHash_175 : decode cX12_secondHash 175 = .ok (.bipush 16, 2) := by decide +kernel
theorem dX12_secondHash_177 : decode cX12_secondHash 177 = .ok (.isub, 1) := by decide +kernel
theorem dX12_secondHash_178 : decode cX12_secondHash 178 = .ok (.iaload, 1) := by decide +kernel
theorem dX12_secondHash_179 : decode cX12_secondHash 179 = .ok (.aload_n 0, 1) := by decide +kernel
theorem dX12_secondHash_180 : decode cX12_secondHash 180 = .ok (.getfield 46, 3) := by decide +kernel
theorem dX12_secondHash_183 : decode cX12_secondHash 183 = .ok (.iload_n 3, 1) := by decide +kernel
theorem dX12_secondHash_184 : decode cX12_secondHash 184 = .ok (.bipush 7, 2) := by decide +kernel
theorem dX12_secondHash_186 : decode cX12_secondHash 186 = .ok (.isub, 1) := by decide +kernel
theorem dX12_secondHash_187 : decode cX12_secondHash 187 = .ok (.iaload, 1) := by decide +kernel
theorem dX12_secondHash_188 : decode cX12_secondHash 188 = .ok (.iadd, 1) := by decide +kernel
theorem dX12_secondHash_189 : decode cX12_secondHash 189 = .ok (.iload 4, 2) := by decide +kernel
theorem dX12_secondHash_191 : decode cX12_secondHash 191 = .ok (.bipush 25, 2) := by decide +kernel
theorem dX12_secondHash_193 : decode cX12_secondHash 193 = .ok (.invokestatic 119, 3) := by decide +kernel
theorem dX12_secondHash_196 : decode cX12_secondHash 196 = .ok (.iload 4, 2) := by decide +kernel
theorem dX12_secondHash_198 : decode cX12_secondHash 198 = .ok (.bipush 14, 2) := by decide +kernel
theorem dX12_secondHash_200 : decode cX12_secondHash 200 = .ok (.invokestatic 119, 3) := by decide +kernel
theorem dX12_secondHash_203 : decode cX12_secondHash 203 = .ok (.ixor, 1) := by decide +kernel
theorem dX12_secondHash_204 : decode cX12_secondHash 204 = .ok (.iload 4, 2) := by decide +kernel
theorem dX12_secondHash_206 : decode cX12_secondHash 206 = .ok (.iconst 3, 1) := by decide +kernel
theorem dX12_secondHash_207 : decode cX12_secondHash 207 = .ok (.iushr, 1) := by decide +kernel
theorem dX12_secondHash_208 : decode cX12_secondHash 208 = .ok (.ixor, 1) := by decide +kernel
theorem dX12_secondHash_209 : decode cX12_secondHash 209 = .ok (.iadd, 1) := by decide +kernel
theorem dX12_secondHash_210 : decode cX12_secondHash 210 = .ok (.iload 5, 2) := by decide +kernel
theorem dX12_secondHash_212 : decode cX12_secondHash 212 = .ok (.bipush 15, 2) := by decide +kernel
theorem dX12_secondHash_214 : decode cX12_secondHash 214 = .ok (.invokestatic 119, 3) := by decide +kernel
theorem dX12_secondHash_217 : decode cX12_secondHash 217 = .ok (.iload 5, 2) := by decide +kernel
theorem dX12_secondHash_219 : decode cX12_secondHash 219 = .ok (.bipush 13, 2) := by decide +kernel
theorem dX12_secondHash_221 : decode cX12_secondHash 221 = .ok (.invokestatic 119, 3) := by decide +kernel
theorem dX12_secondHash_224 : decode cX12_secondHash 224 = .ok (.ixor, 1) := by decide +kernel
theorem dX12_secondHash_225 : decode cX12_secondHash 225 = .ok (.iload 5, 2) := by decide +kernel
theorem dX12_secondHash_227 : decode cX12_secondHash 227 = .ok (.bipush 10, 2) := by decide +kernel
theorem dX12_secondHash_229 : decode cX12_secondHash 229 = .ok (.iushr, 1) := by decide +kernel
theorem dX12_secondHash_230 : decode cX12_secondHash 230 = .ok (.ixor, 1) := by decide +kernel
theorem dX12_secondHash_231 : decode cX12_secondHash 231 = .ok (.iadd, 1) := by decide +kernel
theorem dX12_secondHash_232 : decode cX12_secondHash 232 = .ok (.iastore, 1) := by decide +kernel
theorem dX12_secondHash_233 : decode cX12_secondHash 233 = .ok (.bipush 64, 2) := by decide +kernel
theorem dX12_secondHash_235 : decode cX12_secondHash 235 = .ok (.iload_n 3, 1) := by decide +kernel
theorem dX12_secondHash_236 : decode cX12_secondHash 236 = .ok (.isub, 1) := by decide +kernel
theorem dX12_secondHash_237 : decode cX12_secondHash 237 = .ok (.bipush 7, 2) := by decide +kernel
theorem dX12_secondHash_239 : decode cX12_secondHash 239 = .ok (.iand, 1) := by decide +kernel
theorem dX12_secondHash_240 : decode cX12_secondHash 240 = .ok (.istore 4, 2) := by decide +kernel
theorem dX12_secondHash_242 : decode cX12_secondHash 242 = .ok (.aload_n 0, 1) := by decide +kernel
theorem dX12_secondHash_243 : decode cX12_secondHash 243 = .ok (.getfield 52, 3) := by decide +kernel
theorem dX12_secondHash_246 : decode cX12_secondHash 246 = .ok (.iload 4, 2) := by decide +kernel
theorem dX12_secondHash_248 : decode cX12_secondHash 248 = .ok (.iconst 4, 1) := by decide +kernel
theorem dX12_secondHash_249 : decode cX12_secondHash 249 = .ok (.iadd, 1) := by decide +kernel
theorem dX12_secondHash_250 : decode cX12_secondHash 250 = .ok (.bipush 7, 2) := by decide +kernel
theorem dX12_secondHash_252 : decode cX12_secondHash 252 = .ok (.iand, 1) := by decide +kernel
theorem dX12_secondHash_253 : decode cX12_secondHash 253 = .ok (.iaload, 1) := by decide +kernel
theorem dX12_secondHash_254 : decode cX12_secondHash 254 = .ok (.istore 5, 2) := by decide +kernel
theorem dX12_secondHash_256 : decode cX12_secondHash 256 = .ok (.aload_n 0, 1) := by decide +kernel
theorem dX12_secondHash_257 : decode cX12_secondHash 257 = .ok (.getfield 52, 3) := by decide +kernel
theorem dX12_secondHash_260 : decode cX12_secondHash 260 = .ok (.iload 4, 2) := by decide +kernel
theorem dX12_secondHash_262 : decode cX12_secondHash 262 = .ok (.iconst 5, 1) := by decide +kernel
theorem dX12_secondHash_263 : decode cX12_secondHash 263 = .ok (.iadd, 1) := by decide +kernel
theorem dX12_secondHash_264 : decode cX12_secondHash 264 = .ok (.bipush 7, 2) := by decide +kernel
theorem dX12_secondHash_266 : decode cX12_secondHash 266 = .ok (.iand, 1) := by decide +kernel
theorem dX12_secondHash_267 : decode cX12_secondHash 267 = .ok (.iaload, 1) := by decide +kernel
theorem dX12_secondHash_268 : decode cX12_secondHash 268 = .ok (.istore 6, 2) := by decide +kernel
theorem dX12_secondHash_270 : decode cX12_secondHash 270 = .ok (.aload_n 0, 1) := by decide +kernel
theorem dX12_secondHash_271 : decode cX12_secondHash 271 = .ok (.getfield 52, 3) := by decide +kernel
theorem dX12_secondHash_274 : decode cX12_secondHash 274 = .ok (.iload 4, 2) := by decide +kernel
theorem dX12_secondHash_276 : decode cX12_secondHash 276 = .ok (.bipush 6, 2) := by decide +kernel
theorem dX12_secondHash_278 : decode cX12_secondHash 278 = .ok (.iadd, 1) := by decide +kernel
theorem dX12_secondHash_279 : decode cX12_secondHash 279 = .ok (.bipush 7, 2) := by decide +kernel
theorem dX12_secondHash_281 : decode cX12_secondHash 281 = .ok (.iand, 1) := by decide +kernel
theorem dX12_secondHash_282 : decode cX12_secondHash 282 = .ok (.iaload, 1) := by decide +kernel
theorem dX12_secondHash_283 : decode cX12_secondHash 283 = .ok (.istore 7, 2) := by decide +kernel
theorem dX12_secondHash_285 : decode cX12_secondHash 285 = .ok (.aload_n 0, 1) := by decide +kernel
theorem dX12_secondHash_286 : decode cX12_secondHash 286 = .ok (.getfield 52, 3) := by decide +kernel
theorem dX12_secondHash_289 : decode cX12_secondHash 289 = .ok (.iload 4, 2) := by decide +kernel
theorem dX12_secondHash_291 : decode cX12_secondHash 291 = .ok (.bipush 7, 2) := by decide +kernel
theorem dX12_secondHash_293 : decode cX12_secondHash 293 = .ok (.iadd, 1) := by decide +kernel
theorem dX12_secondHash_294 : decode cX12_secondHash 294 = .ok (.bipush 7, 2) := by decide +kernel
theorem dX12_secondHash_296 : decode cX12_secondHash 296 = .ok (.iand, 1) := by decide +kernel
theorem dX12_secondHash_297 : decode cX12_secondHash 297 = .ok (.iaload, 1) := by decide +kernel
theorem dX12_secondHash_298 : decode cX12_secondHash 298 = .ok (.iload 5, 2) := by decide +kernel
theorem dX12_secondHash_300 : decode cX12_secondHash 300 = .ok (.bipush 26, 2) := by decide +kernel
theorem dX12_secondHash_302 : decode cX12_secondHash 302 = .ok (.invokestatic 119, 3) := by decide +kernel
theorem dX12_secondHash_305 : decode cX12_secondHash 305 = .ok (.iload 5, 2) := by decide +kernel
theorem dX12_secondHash_307 : decode cX12_secondHash 307 = .ok (.bipush 21, 2) := by decide +kernel
theorem dX12_secondHash_309 : decode cX12_secondHash 309 = .ok (.invokestatic 119, 3) := by decide +kernel
theorem dX12_secondHash_312 : decode cX12_secondHash 312 = .ok (.ixor, 1) := by decide +kernel
theorem dX12_secondHash_313 : decode cX12_secondHash 313 = .ok (.iload 5, 2) := by decide +kernel
theorem dX12_secondHash_315 : decode cX12_secondHash 315 = .ok (.bipush 7, 2) := by decide +kernel
theorem dX12_secondHash_317 : decode cX12_secondHash 317 = .ok (.invokestatic 119, 3) := by decide +kernel
theorem dX12_secondHash_320 : decode cX12_secondHash 320 = .ok (.ixor, 1) := by decide +kernel
theorem dX12_secondHash_321 : decode cX12_secondHash 321 = .ok (.iadd, 1) := by decide +kernel
theorem dX12_secondHash_322 : decode cX12_secondHash 322 = .ok (.iload 7, 2) := by decide +kernel
theorem dX12_secondHash_324 : decode cX12_secondHash 324 = .ok (.iload 5, 2) := by decide +kernel
theorem dX12_secondHash_326 : decode cX12_secondHash 326 = .ok (.iload 6, 2) := by decide +kernel
theorem dX12_secondHash_328 : decode cX12_secondHash 328 = .ok (.iload 7, 2) := by decide +kernel
theorem dX12_secondHash_330 : decode cX12_secondHash 330 = .ok (.ixor, 1) := by decide +kernel
theorem dX12_secondHash_331 : decode cX12_secondHash 331 = .ok (.iand, 1) := by decide +kernel
theorem dX12_secondHash_332 : decode cX12_secondHash 332 = .ok (.ixor, 1) := by decide +kernel
theorem dX12_secondHash_333 : decode cX12_secondHash 333 = .ok (.iadd, 1) := by decide +kernel
theorem dX12_secondHash_334 : decode cX12_secondHash 334 = .ok (.getstatic 139, 3) := by decide +kernel
theorem dX12_secondHash_337 : decode cX12_secondHash 337 = .ok (.iload_n 3, 1) := by decide +kernel
theorem dX12_secondHash_338 : decode cX12_secondHash 338 = .ok (.iaload, 1) := by decide +kernel
theorem dX12_secondHash_339 : decode cX12_secondHash 339 = .ok (.iadd, 1) := by decide +kernel
theorem dX12_secondHash_340 : decode cX12_secondHash 340 = .ok (.aload_n 0, 1) := by decide +kernel
theorem dX12_secondHash_341 : decode cX12_secondHash 341 = .ok (.getfield 46, 3) := by decide +kernel
theorem dX12_secondHash_344 : decode cX12_secondHash 344 = .ok (.iload_n 3, 1) := by decide +kernel
theorem dX12_secondHash_345 : decode cX12_secondHash 345 = .ok (.iaload, 1) := by decide +kernel
theorem dX12_secondHash_346 : decode cX12_secondHash 346 = .ok (.iadd, 1) := by decide +kernel
theorem dX12_secondHash_347 : decode cX12_secondHash 347 = .ok (.istore 8, 2) := by decide +kernel
theorem dX12_secondHash_349 : decode cX12_secondHash 349 = .ok (.aload_n 0, 1) := by decide +kernel
theorem dX12_secondHash_350 : decode cX12_secondHash 350 = .ok (.getfield 52, 3) := by decide +kernel
theorem dX12_secondHash_353 : decode cX12_secondHash 353 = .ok (.iload 4, 2) := by decide +kernel
theorem dX12_secondHash_355 : decode cX12_secondHash 355 = .ok (.iaload, 1) := by decide +kernel
theorem dX12_secondHash_356 : decode cX12_secondHash 356 = .ok (.istore 9, 2) := by decide +kernel
theorem dX12_secondHash_358 : decode cX12_secondHash 358 = .ok (.aload_n 0, 1) := by decide +kernel
theorem dX12_secondHash_359 : decode cX12_secondHash 359 = .ok (.getfield 52, 3) := by decide +kernel
theorem dX12_secondHash_362 : decode cX12_secondHash 362 = .ok (.iload 4, 2) := by decide +kernel
theorem dX12_secondHash_364 : decode cX12_secondHash 364 = .ok (.iconst 1, 1) := by decide +kernel
theorem dX12_secondHash_365 : decode cX12_secondHash 365 = .ok (.iadd, 1) := by decide +kernel
theorem dX12_secondHash_366 : decode cX12_secondHash 366 = .ok (.bipush 7, 2) := by decide +kernel
theorem dX12_secondHash_368 : decode cX12_secondHash 368 = .ok (.iand, 1) := by decide +kernel
theorem dX12_secondHash_369 : decode cX12_secondHash 369 = .ok (.iaload, 1) := by decide +kernel
theorem dX12_secondHash_370 : decode cX12_secondHash 370 = .ok (.istore 10, 2) := by decide +kernel
theorem dX12_secondHash_372 : decode cX12_secondHash 372 = .ok (.aload_n 0, 1) := by decide +kernel
theorem dX12_secondHash_373 : decode cX12_secondHash 373 = .ok (.getfield 52, 3) := by decide +kernel
theorem dX12_secondHash_376 : decode cX12_secondHash 376 = .ok (.iload 4, 2) := by decide +kernel
theorem dX12_secondHash_378 : decode cX12_secondHash 378 = .ok (.iconst 2, 1) := by decide +kernel
theorem dX12_secondHash_379 : decode cX12_secondHash 379 = .ok (.iadd, 1) := by decide +kernel
theorem dX12_secondHash_380 : decode cX12_secondHash 380 = .ok (.bipush 7, 2) := by decide +kernel
theorem dX12_secondHash_382 : decode cX12_secondHash 382 = .ok (.iand, 1) := by decide +kernel
theorem dX12_secondHash_383 : decode cX12_secondHash 383 = .ok (.iaload, 1) := by decide +kernel
theorem dX12_secondHash_384 : decode cX12_secondHash 384 = .ok (.istore 11, 2) := by decide +kernel
theorem dX12_secondHash_386 : decode cX12_secondHash 386 = .ok (.aload_n 0, 1) := by decide +kernel
theorem dX12_secondHash_387 : decode cX12_secondHash 387 = .ok (.getfield 52, 3) := by decide +kernel
theorem dX12_secondHash_390 : decode cX12_secondHash 390 = .ok (.iload 4, 2) := by decide +kernel
theorem dX12_secondHash_392 : decode cX12_secondHash 392 = .ok (.iconst 3, 1) := by decide +kernel
theorem dX12_secondHash_393 : decode cX12_secondHash 393 = .ok (.iadd, 1) := by decide +kernel
theorem dX12_secondHash_394 : decode cX12_secondHash 394 = .ok (.bipush 7, 2) := by decide +kernel
theorem dX12_secondHash_396 : decode cX12_secondHash 396 = .ok (.iand, 1) := by decide +kernel
theorem dX12_secondHash_397 : decode cX12_secondHash 397 = .ok (.dup2, 1) := by decide +kernel
theorem dX12_secondHash_398 : decode cX12_secondHash 398 = .ok (.iaload, 1) := by decide +kernel
theorem dX12_secondHash_399 : decode cX12_secondHash 399 = .ok (.iload 8, 2) := by decide +kernel
theorem dX12_secondHash_401 : decode cX12_secondHash 401 = .ok (.iadd, 1) := by decide +kernel
theorem dX12_secondHash_402 : decode cX12_secondHash 402 = .ok (.iastore, 1) := by decide +kernel
theorem dX12_secondHash_403 : decode cX12_secondHash 403 = .ok (.aload_n 0, 1) := by decide +kernel
theorem dX12_secondHash_404 : decode cX12_secondHash 404 = .ok (.getfield 52, 3) := by decide +kernel
theorem dX12_secondHash_407 : decode cX12_secondHash 407 = .ok (.iload 4, 2) := by decide +kernel
theorem dX12_secondHash_409 : decode cX12_secondHash 409 = .ok (.bipush 7, 2) := by decide +kernel
theorem dX12_secondHash_411 : decode cX12_secondHash 411 = .ok (.iadd, 1) := by decide +kernel
theorem dX12_secondHash_412 : decode cX12_secondHash 412 = .ok (.bipush 7, 2) := by decide +kernel
theorem dX12_secondHash_414 : decode cX12_secondHash 414 = .ok (.iand, 1) := by decide +kernel
theorem dX12_secondHash_415 : decode cX12_secondHash 415 = .ok (.iload 8, 2) := by decide +kernel
theorem dX12_secondHash_417 : decode cX12_secondHash 417 = .ok (.iload 9, 2) := by decide +kernel
theorem dX12_secondHash_419 : decode cX12_secondHash 419 = .ok (.bipush 30, 2) := by decide +kernel
theorem dX12_secondHash_421 : decode cX12_secondHash 421 = .ok (.invokestatic 119, 3) := by decide +kernel
theorem dX12_secondHash_424 : decode cX12_secondHash 424 = .ok (.iload 9, 2) := by decide +kernel
theorem dX12_secondHash_426 : decode cX12_secondHash 426 = .ok (.bipush 19, 2) := by decide +kernel
theorem dX12_secondHash_428 : decode cX12_secondHash 428 = .ok (.invokestatic 119, 3) := by decide +kernel
theorem dX12_secondHash_431 : decode cX12_secondHash 431 = .ok (.ixor, 1) := by decide +kernel
theorem dX12_secondHash_432 : decode cX12_secondHash 432 = .ok (.iload 9, 2) := by decide +kernel
theorem dX12_secondHash_434 : decode cX12_secondHash 434 = .ok (.bipush 10, 2) := by decide +kernel
theorem dX12_secondHash_436 : decode cX12_secondHash 436 = .ok (.invokestatic 119, 3) := by decide +kernel
theorem dX12_secondHash_439 : decode cX12_secondHash 439 = .ok (.ixor, 1) := by decide +kernel
theorem dX12_secondHash_440 : decode cX12_secondHash 440 = .ok (.iadd, 1) := by decide +kernel
theorem dX12_secondHash_441 : decode cX12_secondHash 441 = .ok (.iload 9, 2) := by decide +kernel
theorem dX12_secondHash_443 : decode cX12_secondHash 443 = .ok (.iload 10, 2) := by decide +kernel
theorem dX12_secondHash_445 : decode cX12_secondHash 445 = .ok (.iand, 1) := by decide +kernel
theorem dX12_secondHash_446 : decode cX12_secondHash 446 = .ok (.iload 11, 2) := by decide +kernel
theorem dX12_secondHash_448 : decode cX12_secondHash 448 = .ok (.iload 9, 2) := by decide +kernel
theorem dX12_secondHash_450 : decode cX12_secondHash 450 = .ok (.iload 10, 2) := by decide +kernel
theorem dX12_secondHash_452 : decode cX12_secondHash 452 = .ok (.ior, 1) := by decide +kernel
theorem dX12_secondHash_453 : decode cX12_secondHash 453 = .ok (.iand, 1) := by decide +kernel
theorem dX12_secondHash_454 : decode cX12_secondHash 454 = .ok (.ior, 1) := by decide +kernel
theorem dX12_secondHash_455 : decode cX12_secondHash 455 = .ok (.iadd, 1) := by decide +kernel
theorem dX12_secondHash_456 : decode cX12_secondHash 456 = .ok (.iastore, 1) := by decide +kernel
theorem dX12_secondHash_457 : decode cX12_secondHash 457 = .ok (.iinc 3 1, 3) := by decide +kernel
theorem dX12_secondHash_460 : decode cX12_secondHash 460 = .ok (.goto (-354), 3) := by decide +kernel
theorem dX12_secondHash_463 : decode cX12_secondHash 463 = .ok (.iconst 0, 1) := by decide +kernel
theorem dX12_secondHash_464 : decode cX12_secondHash 464 = .ok (.istore_n 3, 1) := by decide +kernel
theorem dX12_secondHash_465 : decode cX12_secondHash 465 = .ok (.iload_n 3, 1) := by decide +kernel
theorem dX12_secondHash_466 : decode cX12_secondHash 466 = .ok (.bipush 8, 2) := by decide +kernel
theorem dX12_secondHash_468 : decode cX12_secondHash 468 = .ok (.if_icmp .ge 24, 3) := by decide +kernel
theorem dX12_secondHash_471 : decode cX12_secondHash 471 = .ok (.aload_n 0, 1) := by decide +kernel
theorem dX12_secondHash_472 : decode cX12_secondHash 472 = .ok (.getfield 49, 3) := by decide +kernel
theorem dX12_secondHash_475 : decode cX12_secondHash 475 = .ok (.iload_n 3, 1) := by decide +kernel
theorem dX12_secondHash_476 : decode cX12_secondHash 476 = .ok (.dup2, 1) := by decide +kernel
theorem dX12_secondHash_477 : decode cX12_secondHash 477 = .ok (.iaload, 1) := by decide +kernel
theorem dX12_secondHash_478 : decode cX12_secondHash 478 = .ok (.aload_n 0, 1) := by decide +kernel
theorem dX12_secondHash_479 : decode cX12_secondHash 479 = .ok (.getfield 52, 3) := by decide +kernel
theorem dX12_secondHash_482 : decode cX12_secondHash 482 = .ok (.iload_n 3, 1) := by decide +kernel
theorem dX12_secondHash_483 : decode cX12_secondHash 483 = .ok (.iaload, 1) := by decide +kernel
theorem dX12_secondHash_484 : decode cX12_secondHash 484 = .ok (.iadd, 1) := by decide +kernel
theorem dX12_secondHash_485 : decode cX12_secondHash 485 = .ok (.iastore, 1) := by decide +kernel
theorem dX12_secondHash_486 : decode cX12_secondHash 486 = .ok (.iinc 3 1, 3) := by decide +kernel
theorem dX12_secondHash_489 : decode cX12_secondHash 489 = .ok (.goto (-24), 3) := by decide +kernel
theorem dX12_secondHash_492 : decode cX12_secondHash 492 = .ok (.iinc 2 1, 3) := by decide +kernel
theorem dX12_secondHash_495 : decode cX12_secondHash 495 = .ok (.goto (-422), 3) := by decide +kernel
theorem dX12_secondHash_498 : decode cX12_secondHash 498 = .ok (.iconst 0, 1) := by decide +kernel
theorem dX12_secondHash_499 : decode cX12_secondHash 499 = .ok (.istore_n 2, 1) := by decide +kernel
theorem dX12_secondHash_500 : decode cX12_secondHash 500 = .ok (.iload_n 2, 1) := by decide +kernel
theorem dX12_secondHash_501 : decode cX12_secondHash 501 = .ok (.bipush 8, 2) := by decide +kernel
theorem dX12_secondHash_503 : decode cX12_secondHash 503 = .ok (.if_icmp .ge 20, 3) := by decide +kernel
theorem dX12_secondHash_506 : decode cX12_secondHash 506 = .ok (.aload_n 0, 1) := by decide +kernel
theorem dX12_secondHash_507 : decode cX12_secondHash 507 = .ok (.iload_n 2, 1) := by decide +kernel
theorem dX12_secondHash_508 : decode cX12_secondHash 508 = .ok (.aload_n 0, 1) := by decide +kernel
theorem dX12_secondHash_509 : decode cX12_secondHash 509 = .ok (.getfield 49, 3) := by decide +kernel
theorem dX12_secondHash_512 : decode cX12_secondHash 512 = .ok (.iload_n 2, 1) := by decide +kernel
theorem dX12_secondHash_513 : decode cX12_secondHash 513 = .ok (.iaload, 1) := by decide +kernel
theorem dX12_secondHash_514 : decode cX12_secondHash 514 = .ok (.invokevirtual 127, 3) := by decide +kernel
theorem dX12_secondHash_517 : decode cX12_secondHash 517 = .ok (.iinc 2 1, 3) := by decide +kernel
theorem dX12_secondHash_520 : decode cX12_secondHash 520 = .ok (.goto (-20), 3) := by decide +kernel
theorem dX12_secondHash_523 : decode cX12_secondHash 523 = .ok (.return_, 1) := by decide +kernel
theorem dX12_hashOf_0 : decode cX12_hashOf 0 = .ok (.iload_n 1, 1) := by decide +kernel
theorem dX12_hashOf_1 : decode cX12_hashOf 1 = .ok (.iconst 2, 1) := by decide +kernel
theorem dX12_hashOf_2 : decode cX12_hashOf 2 = .ok (.if_icmp .ne 10, 3) := by decide +kernel
theorem dX12_hashOf_5 : decode cX12_hashOf 5 = .ok (.aload_n 0, 1) := by decide +kernel
theorem dX12_hashOf_6 : decode cX12_hashOf 6 = .ok (.invokevirtual 142, 3) := by decide +kernel
theorem dX12_hashOf_9 : decode cX12_hashOf 9 = .ok (.bipush 20, 2) := by decide +kernel
theorem dX12_hashOf_11 : decode cX12_hashOf 11 = .ok (.ireturn, 1) := by decide +kernel
theorem dX12_hashOf_12 : decode cX12_hashOf 12 = .ok (.aload_n 0, 1) := by decide +kernel
theorem dX12_hashOf_13 : decode cX12_hashOf 13 = .ok (.invokevirtual 145, 3) := by decide +kernel
theorem dX12_hashOf_16 : decode cX12_hashOf 16 = .ok (.bipush 32, 2) := by decide +kernel
theorem dX12_hashOf_18 : decode cX12_hashOf 18 = .ok (.ireturn, 1) := by decide +kernel
theorem dX12_fail_0 : decode cX12_fail 0 = .ok (.aload_n 0, 1) := by decide +kernel
theorem dX12_fail_1 : decode cX12_fail 1 = .ok (.aload_n 0, 1) := by decide +kernel
theorem dX12_fail_2 : decode cX12_fail 2 = .ok (.getfield 178, 3) := by decide +kernel
theorem dX12_fail_5 : decode cX12_fail 5 = .ok (.ifCond .ne 7, 3) := by decide +kernel
theorem dX12_fail_8 : decode cX12_fail 8 = .ok (.iload_n 1, 1) := by decide +kernel
theorem dX12_fail_9 : decode cX12_fail 9 = .ok (.goto 7, 3) := by decide +kernel
theorem dX12_fail_12 : decode cX12_fail 12 = .ok (.aload_n 0, 1) := by decide +kernel
theorem dX12_fail_13 : decode cX12_fail 13 = .ok (.getfield 178, 3) := by decide +kernel
theorem dX12_fail_16 : decode cX12_fail 16 = .ok (.putfield 178, 3) := by decide +kernel
theorem dX12_fail_19 : decode cX12_fail 19 = .ok (.return_, 1) := by decide +kernel
theorem dX12_label_0 : decode cX12_label 0 = .ok (.iload_n 0, 1) := by decide +kernel
theorem dX12_label_1 : decode cX12_label 1 = .ok (.ifCond .ne 8, 3) := by decide +kernel
theorem dX12_label_4 : decode cX12_label 4 = .ok (.ldc 204, 2) := by decide +kernel
theorem dX12_label_6 : decode cX12_label 6 = .ok (.goto 15, 3) := by decide +kernel
theorem dX12_label_9 : decode cX12_label 9 = .ok (.iload_n 0, 1) := by decide +kernel
theorem dX12_label_10 : decode cX12_label 10 = .ok (.iconst 1, 1) := by decide +kernel
theorem dX12_label_11 : decode cX12_label 11 = .ok (.if_icmp .ne 8, 3) := by decide +kernel
theorem dX12_label_14 : decode cX12_label 14 = .ok (.ldc 206, 2) := by decide +kernel
theorem dX12_label_16 : decode cX12_label 16 = .ok (.goto 5, 3) := by decide +kernel
theorem dX12_label_19 : decode cX12_label 19 = .ok (.ldc 208, 2) := by decide +kernel
theorem dX12_label_21 : decode cX12_label 21 = .ok (.areturn, 1) := by decide +kernel
theorem dX12_signOf_0 : decode cX12_signOf 0 = .ok (.iload_n 0, 1) := by decide +kernel
theorem dX12_signOf_1 : decode cX12_signOf 1 = .ok (.bipush 26, 2) := by decide +kernel
theorem dX12_signOf_3 : decode cX12_signOf 3 = .ok (.if_icmp .ge 10, 3) := by decide +kernel
theorem dX12_signOf_6 : decode cX12_signOf 6 = .ok (.bipush 65, 2) := by decide +kernel
theorem dX12_signOf_8 : decode cX12_signOf 8 = .ok (.iload_n 0, 1) := by decide +kernel
theorem dX12_signOf_9 : decode cX12_signOf 9 = .ok (.iadd, 1) := by decide +kernel
theorem dX12_signOf_10 : decode cX12_signOf 10 = .ok (.goto 41, 3) := by decide +kernel
theorem dX12_signOf_13 : decode cX12_signOf 13 = .ok (.iload_n 0, 1) := by decide +kernel
theorem dX12_signOf_14 : decode cX12_signOf 14 = .ok (.bipush 52, 2) := by decide +kernel
theorem dX12_signOf_16 : decode cX12_signOf 16 = .ok (.if_icmp .ge 10, 3) := by decide +kernel
theorem dX12_signOf_19 : decode cX12_signOf 19 = .ok (.bipush 71, 2) := by decide +kernel
theorem dX12_signOf_21 : decode cX12_signOf 21 = .ok (.iload_n 0, 1) := by decide +kernel
theorem dX12_signOf_22 : decode cX12_signOf 22 = .ok (.iadd, 1) := by decide +kernel
theorem dX12_signOf_23 : decode cX12_signOf 23 = .ok (.goto 28, 3) := by decide +kernel
theorem dX12_signOf_26 : decode cX12_signOf 26 = .ok (.iload_n 0, 1) := by decide +kernel
theorem dX12_signOf_27 : decode cX12_signOf 27 = .ok (.bipush 62, 2) := by decide +kernel
theorem dX12_signOf_29 : decode cX12_signOf 29 = .ok (.if_icmp .ge 9, 3) := by decide +kernel
theorem dX12_signOf_32 : decode cX12_signOf 32 = .ok (.iload_n 0, 1) := by decide +kernel
theorem dX12_signOf_33 : decode cX12_signOf 33 = .ok (.iconst 4, 1) := by decide +kernel
theorem dX12_signOf_34 : decode cX12_signOf 34 = .ok (.isub, 1) := by decide +kernel
theorem dX12_signOf_35 : decode cX12_signOf 35 = .ok (.goto 16, 3) := by decide +kernel
theorem dX12_signOf_38 : decode cX12_signOf 38 = .ok (.iload_n 0, 1) := by decide +kernel
theorem dX12_signOf_39 : decode cX12_signOf 39 = .ok (.bipush 62, 2) := by decide +kernel
theorem dX12_signOf_41 : decode cX12_signOf 41 = .ok (.if_icmp .ne 8, 3) := by decide +kernel
theorem dX12_signOf_44 : decode cX12_signOf 44 = .ok (.bipush 43, 2) := by decide +kernel
theorem dX12_signOf_46 : decode cX12_signOf 46 = .ok (.goto 5, 3) := by decide +kernel
theorem dX12_signOf_49 : decode cX12_signOf 49 = .ok (.bipush 47, 2) := by decide +kernel
theorem dX12_signOf_51 : decode cX12_signOf 51 = .ok (.ireturn, 1) := by decide +kernel
theorem dX12_sumOf_0 : decode cX12_sumOf 0 = .ok (.ldc 222, 2) := by decide +kernel
theorem dX12_sumOf_2 : decode cX12_sumOf 2 = .ok (.istore_n 2, 1) := by decide +kernel
theorem dX12_sumOf_3 : decode cX12_sumOf 3 = .ok (.iconst 0, 1) := by decide +kernel
theorem dX12_sumOf_4 : decode cX12_sumOf 4 = .ok (.istore_n 3, 1) := by decide +kernel
theorem dX12_sumOf_5 : decode cX12_sumOf 5 = .ok (.iload_n 3, 1) := by decide +kernel
theorem dX12_sumOf_6 : decode cX12_sumOf 6 = .ok (.iload_n 1, 1) := by decide +kernel
theorem dX12_sumOf_7 : decode cX12_sumOf 7 = .ok (.if_icmp .ge 53, 3) := by decide +kernel
theorem dX12_sumOf_10 : decode cX12_sumOf 10 = .ok (.iload_n 2, 1) := by decide +kernel
theorem dX12_sumOf_11 : decode cX12_sumOf 11 = .ok (.aload_n 0, 1) := by decide +kernel
theorem dX12_sumOf_12 : decode cX12_sumOf 12 = .ok (.iload_n 3, 1) := by decide +kernel
theorem dX12_sumOf_13 : decode cX12_sumOf 13 = .ok (.iaload, 1) := by decide +kernel
theorem dX12_sumOf_14 : decode cX12_sumOf 14 = .ok (.ldc 223, 2) := by decide +kernel
theorem dX12_sumOf_16 : decode cX12_sumOf 16 = .ok (.imul, 1) := by decide +kernel
theorem dX12_sumOf_17 : decode cX12_sumOf 17 = .ok (.ixor, 1) := by decide +kernel
theorem dX12_sumOf_18 : decode cX12_sumOf 18 = .ok (.istore_n 2, 1) := by decide +kernel
theorem dX12_sumOf_19 : decode cX12_sumOf 19 = .ok (.iconst 0, 1) := by decide +kernel
theorem dX12_sumOf_20 : decode cX12_sumOf 20 = .ok (.istore 4, 2) := by decide +kernel
theorem dX12_sumOf_22 : decode cX12_sumOf 22 = .ok (.iload 4, 2) := by decide +kernel
theorem dX12_sumOf_24 : decode cX12_sumOf 24 = .ok (.bipush 8, 2) := by decide +kernel
theorem dX12_sumOf_26 : decode cX12_sumOf 26 = .ok (.if_icmp .ge 28, 3) := by decide +kernel
theorem dX12_sumOf_29 : decode cX12_sumOf 29 = .ok (.iconst 2, 1) := by decide +kernel
theorem dX12_sumOf_30 : decode cX12_sumOf 30 = .ok (.iload_n 2, 1) := by decide +kernel
theorem dX12_sumOf_31 : decode cX12_sumOf 31 = .ok (.imul, 1) := by decide +kernel
theorem dX12_sumOf_32 : decode cX12_sumOf 32 = .ok (.istore_n 2, 1) := by decide +kernel
theorem dX12_sumOf_33 : decode cX12_sumOf 33 = .ok (.iload_n 2, 1) := by decide +kernel
theorem dX12_sumOf_34 : decode cX12_sumOf 34 = .ok (.ldc 224, 2) := by decide +kernel
theorem dX12_sumOf_36 : decode cX12_sumOf 36 = .ok (.if_icmp .lt 10, 3) := by decide +kernel
theorem dX12_sumOf_39 : decode cX12_sumOf 39 = .ok (.iload_n 2, 1) := by decide +kernel
theorem dX12_sumOf_40 : decode cX12_sumOf 40 = .ok (.ldc 225, 2) := by decide +kernel
theorem dX12_sumOf_42 : decode cX12_sumOf 42 = .ok (.ixor, 1) := by decide +kernel
theorem dX12_sumOf_43 : decode cX12_sumOf 43 = .ok (.goto 4, 3) := by decide +kernel
theorem dX12_sumOf_46 : decode cX12_sumOf 46 = .ok (.iload_n 2, 1) := by decide +kernel
theorem dX12_sumOf_47 : decode cX12_sumOf 47 = .ok (.istore_n 2, 1) := by decide +kernel
theorem dX12_sumOf_48 : decode cX12_sumOf 48 = .ok (.iinc 4 1, 3) := by decide +kernel
theorem dX12_sumOf_51 : decode cX12_sumOf 51 = .ok (.goto (-29), 3) := by decide +kernel
theorem dX12_sumOf_54 : decode cX12_sumOf 54 = .ok (.iinc 3 1, 3) := by decide +kernel
theorem dX12_sumOf_57 : decode cX12_sumOf 57 = .ok (.goto (-52), 3) := by decide +kernel
theorem dX12_sumOf_60 : decode cX12_sumOf 60 = .ok (.iload_n 2, 1) := by decide +kernel
theorem dX12_sumOf_61 : decode cX12_sumOf 61 = .ok (.ireturn, 1) := by decide +kernel
theorem dX12_open_0 : decode cX12_open 0 = .ok (.aload_n 0, 1) := by decide +kernel
theorem dX12_open_1 : decode cX12_open 1 = .ok (.aload_n 1, 1) := by decide +kernel
theorem dX12_open_2 : decode cX12_open 2 = .ok (.putfield 272, 3) := by decide +kernel
theorem dX12_open_5 : decode cX12_open 5 = .ok (.aload_n 0, 1) := by decide +kernel
theorem dX12_open_6 : decode cX12_open 6 = .ok (.iconst 0, 1) := by decide +kernel
theorem dX12_open_7 : decode cX12_open 7 = .ok (.putfield 275, 3) := by decide +kernel
theorem dX12_open_10 : decode cX12_open 10 = .ok (.aload_n 0, 1) := by decide +kernel
theorem dX12_open_11 : decode cX12_open 11 = .ok (.iconst 0, 1) := by decide +kernel
theorem dX12_open_12 : decode cX12_open 12 = .ok (.putfield 269, 3) := by decide +kernel
theorem dX12_open_15 : decode cX12_open 15 = .ok (.return_, 1) := by decide +kernel
theorem dX12_readKeys_0 : decode cX12_readKeys 0 = .ok (.iconst (-1), 1) := by decide +kernel
theorem dX12_readKeys_1 : decode cX12_readKeys 1 = .ok (.istore_n 1, 1) := by decide +kernel
theorem dX12_readKeys_2 : decode cX12_readKeys 2 = .ok (.iconst (-1), 1) := by decide +kernel
theorem dX12_readKeys_3 : decode cX12_readKeys 3 = .ok (.istore_n 2, 1) := by decide +kernel
theorem dX12_readKeys_4 : decode cX12_readKeys 4 = .ok (.iconst 0, 1) := by decide +kernel
theorem dX12_readKeys_5 : decode cX12_readKeys 5 = .ok (.istore_n 3, 1) := by decide +kernel
theorem dX12_readKeys_6 : decode cX12_readKeys 6 = .ok (.aload_n 0, 1) := by decide +kernel
theorem dX12_readKeys_7 : decode cX12_readKeys 7 = .ok (.getfield 178, 3) := by decide +kernel
theorem dX12_readKeys_10 : decode cX12_readKeys 10 = .ok (.ifCond .ne 262, 3) := by decide +kernel
theorem dX12_readKeys_13 : decode cX12_readKeys 13 = .ok (.aload_n 0, 1) := by decide +kernel
theorem dX12_readKeys_14 : decode cX12_readKeys 14 = .ok (.getfield 275, 3) := by decide +kernel
theorem dX12_readKeys_17 : decode cX12_readKeys 17 = .ok (.aload_n 0, 1) := by decide +kernel
theorem dX12_readKeys_18 : decode cX12_readKeys 18 = .ok (.getfield 272, 3) := by decide +kernel
theorem dX12_readKeys_21 : decode cX12_readKeys 21 = .ok (.arraylength, 1) := by decide +kernel
theorem dX12_readKeys_22 : decode cX12_readKeys 22 = .ok (.if_icmp .ge 250, 3) := by decide +kernel
theorem dX12_readKeys_25 : decode cX12_readKeys 25 = .ok (.aload_n 0, 1) := by decide +kernel
theorem dX12_readKeys_26 : decode cX12_readKeys 26 = .ok (.invokevirtual 450, 3) := by decide +kernel
theorem dX12_readKeys_29 : decode cX12_readKeys 29 = .ok (.ifCond .eq 243, 3) := by decide +kernel
theorem dX12_readKeys_32 : decode cX12_readKeys 32 = .ok (.aload_n 0, 1) := by decide +kernel
theorem dX12_readKeys_33 : decode cX12_readKeys 33 = .ok (.getfield 290, 3) := by decide +kernel
theorem dX12_readKeys_36 : decode cX12_readKeys 36 = .ok (.bipush 10, 2) := by decide +kernel
theorem dX12_readKeys_38 : decode cX12_readKeys 38 = .ok (.if_icmp .eq 30, 3) := by decide +kernel
theorem dX12_readKeys_41 : decode cX12_readKeys 41 = .ok (.aload_n 0, 1) := by decide +kernel
theorem dX12_readKeys_42 : decode cX12_readKeys 42 = .ok (.getfield 290, 3) := by decide +kernel
theorem dX12_readKeys_45 : decode cX12_readKeys 45 = .ok (.bipush 12, 2) := by decide +kernel
theorem dX12_readKeys_47 : decode cX12_readKeys 47 = .ok (.if_icmp .eq 21, 3) := by decide +kernel
theorem dX12_readKeys_50 : decode cX12_readKeys 50 = .ok (.aload_n 0, 1) := by decide +kernel
theorem dX12_readKeys_51 : decode cX12_readKeys 51 = .ok (.getfield 290, 3) := by decide +kernel
theorem dX12_readKeys_54 : decode cX12_readKeys 54 = .ok (.bipush 17, 2) := by decide +kernel
theorem dX12_readKeys_56 : decode cX12_readKeys 56 = .ok (.if_icmp .eq 12, 3) := by decide +kernel
theorem dX12_readKeys_59 : decode cX12_readKeys 59 = .ok (.aload_n 0, 1) := by decide +kernel
theorem dX12_readKeys_60 : decode cX12_readKeys 60 = .ok (.getfield 290, 3) := by decide +kernel
theorem dX12_readKeys_63 : decode cX12_readKeys 63 = .ok (.bipush 40, 2) := by decide +kernel
theorem dX12_readKeys_65 : decode cX12_readKeys 65 = .ok (.if_icmp .lt 7, 3) := by decide +kernel
theorem dX12_readKeys_68 : decode cX12_readKeys 68 = .ok (.iconst 1, 1) := by decide +kernel
theorem dX12_readKeys_69 : decode cX12_readKeys 69 = .ok (.goto 4, 3) := by decide +kernel
theorem dX12_readKeys_72 : decode cX12_readKeys 72 = .ok (.iconst 0, 1) := by decide +kernel
theorem dX12_readKeys_73 : decode cX12_readKeys 73 = .ok (.istore 4, 2) := by decide +kernel
theorem dX12_readKeys_75 : decode cX12_readKeys 75 = .ok (.iload 4, 2) := by decide +kernel
theorem dX12_readKeys_77 : decode cX12_readKeys 77 = .ok (.ifCond .ne 192, 3) := by decide +kernel
theorem dX12_readKeys_80 : decode cX12_readKeys 80 = .ok (.aload_n 0, 1) := by decide +kernel
theorem dX12_readKeys_81 : decode cX12_readKeys 81 = .ok (.getfield 290, 3) := by decide +kernel
theorem dX12_readKeys_84 : decode cX12_readKeys 84 = .ok (.invokestatic 453, 3) := by decide +kernel
theorem dX12_readKeys_87 : decode cX12_readKeys 87 = .ok (.istore 5, 2) := by decide +kernel
theorem dX12_readKeys_89 : decode cX12_readKeys 89 = .ok (.aload_n 0, 1) := by decide +kernel
theorem dX12_readKeys_90 : decode cX12_readKeys 90 = .ok (.getfield 290, 3) := by decide +kernel
theorem dX12_readKeys_93 : decode cX12_readKeys 93 = .ok (.invokestatic 456, 3) := by decide +kernel
theorem dX12_readKeys_96 : decode cX12_readKeys 96 = .ok (.istore 6, 2) := by decide +kernel
theorem dX12_readKeys_98 : decode cX12_readKeys 98 = .ok (.iload 5, 2) := by decide +kernel
theorem dX12_readKeys_100 : decode cX12_readKeys 100 = .ok (.ifCond .ne 30, 3) := by decide +kernel
theorem dX12_readKeys_103 : decode cX12_readKeys 103 = .ok (.iload_n 1, 1) := by decide +kernel
theorem dX12_readKeys_104 : decode cX12_readKeys 104 = .ok (.iconst (-1), 1) := by decide +kernel
theorem dX12_readKeys_105 : decode cX12_readKeys 105 = .ok (.if_icmp .eq 29, 3) := by decide +kernel
theorem dX12_readKeys_108 : decode cX12_readKeys 108 = .ok (.iload 6, 2) := by decide +kernel
theorem dX12_readKeys_110 : decode cX12_readKeys 110 = .ok (.ifCond .ne 20, 3) := by decide +kernel
theorem dX12_readKeys_113 : decode cX12_readKeys 113 = .ok (.aload_n 0, 1) := by decide +kernel
theorem dX12_readKeys_114 : decode cX12_readKeys 114 = .ok (.getfield 290, 3) := by decide +kernel
theorem dX12_readKeys_117 : decode cX12_readKeys 117 = .ok (.iconst 2, 1) := by decide +kernel
theorem dX12_readKeys_118 : decode cX12_readKeys 118 = .ok (.if_icmp .eq 12, 3) := by decide +kernel
theorem dX12_readKeys_121 : decode cX12_readKeys 121 = .ok (.aload_n 0, 1) := by decide +kernel
theorem dX12_readKeys_122 : decode cX12_readKeys 122 = .ok (.getfield 290, 3) := by decide +kernel
theorem dX12_readKeys_125 : decode cX12_readKeys 125 = .ok (.bipush 13, 2) := by decide +kernel
theorem dX12_readKeys_127 : decode cX12_readKeys 127 = .ok (.if_icmp .ne 7, 3) := by decide +kernel
theorem dX12_readKeys_130 : decode cX12_readKeys 130 = .ok (.iconst 1, 1) := by decide +kernel
theorem dX12_readKeys_131 : decode cX12_readKeys 131 = .ok (.goto 4, 3) := by decide +kernel
theorem dX12_readKeys_134 : decode cX12_readKeys 134 = .ok (.iconst 0, 1) := by decide +kernel
theorem dX12_readKeys_135 : decode cX12_readKeys 135 = .ok (.istore 7, 2) := by decide +kernel
theorem dX12_readKeys_137 : decode cX12_readKeys 137 = .ok (.iload 7, 2) := by decide +kernel
theorem dX12_readKeys_139 : decode cX12_readKeys 139 = .ok (.ifCond .eq 46, 3) := by decide +kernel
theorem dX12_readKeys_142 : decode cX12_readKeys 142 = .ok (.iload 5, 2) := by decide +kernel
theorem dX12_readKeys_144 : decode cX12_readKeys 144 = .ok (.ifCond .ne 8, 3) := by decide +kernel
theorem dX12_readKeys_147 : decode cX12_readKeys 147 = .ok (.iload 6, 2) := by decide +kernel
theorem dX12_readKeys_149 : decode cX12_readKeys 149 = .ok (.ifCond .eq 45, 3) := by decide +kernel
theorem dX12_readKeys_152 : decode cX12_readKeys 152 = .ok (.aload_n 0, 1) := by decide +kernel
theorem dX12_readKeys_153 : decode cX12_readKeys 153 = .ok (.aload_n 0, 1) := by decide +kernel
theorem dX12_readKeys_154 : decode cX12_readKeys 154 = .ok (.getfield 299, 3) := by decide +kernel
theorem dX12_readKeys_157 : decode cX12_readKeys 157 = .ok (.aload_n 0, 1) := by decide +kernel
theorem dX12_readKeys_158 : decode cX12_readKeys 158 = .ok (.getfield 290, 3) := by decide +kernel
theorem dX12_readKeys_161 : decode cX12_readKeys 161 = .ok (.iconst 5, 1) := by decide +kernel
theorem dX12_readKeys_162 : decode cX12_readKeys 162 = .ok (.if_icmp .eq 12, 3) := by decide +kernel
theorem dX12_readKeys_165 : decode cX12_readKeys 165 = .ok (.aload_n 0, 1) := by decide +kernel
theorem dX12_readKeys_166 : decode cX12_readKeys 166 = .ok (.getfield 290, 3) := by decide +kernel
theorem dX12_readKeys_169 : decode cX12_readKeys 169 = .ok (.bipush 7, 2) := by decide +kernel
theorem dX12_readKeys_171 : decode cX12_readKeys 171 = .ok (.if_icmp .ne 7, 3) := by decide +kernel
theorem dX12_readKeys_174 : decode cX12_readKeys 174 = .ok (.iconst 1, 1) := by decide +kernel
theorem dX12_readKeys_175 : decode cX12_readKeys 175 = .ok (.goto 4, 3) := by decide +kernel
theorem dX12_readKeys_178 : decode cX12_readKeys 178 = .ok (.iconst 0, 1) := by decide +kernel
theorem dX12_readKeys_179 : decode cX12_readKeys 179 = .ok (.invokevirtual 409, 3) := by decide +kernel
theorem dX12_readKeys_182 : decode cX12_readKeys 182 = .ok (.ifCond .ne 12, 3) := by decide +kernel
theorem dX12_readKeys_185 : decode cX12_readKeys 185 = .ok (.aload_n 0, 1) := by decide +kernel
theorem dX12_readKeys_186 : decode cX12_readKeys 186 = .ok (.invokevirtual 278, 3) := by decide +kernel
theorem dX12_readKeys_189 : decode cX12_readKeys 189 = .ok (.istore 8, 2) := by decide +kernel
theorem dX12_readKeys_191 : decode cX12_readKeys 191 = .ok (.goto 78, 3) := by decide +kernel
theorem dX12_readKeys_194 : decode cX12_readKeys 194 = .ok (.iload 5, 2) := by decide +kernel
theorem dX12_readKeys_196 : decode cX12_readKeys 196 = .ok (.ifCond .eq 25, 3) := by decide +kernel
theorem dX12_readKeys_199 : decode cX12_readKeys 199 = .ok (.aload_n 0, 1) := by decide +kernel
theorem dX12_readKeys_200 : decode cX12_readKeys 200 = .ok (.iconst 0, 1) := by decide +kernel
theorem dX12_readKeys_201 : decode cX12_readKeys 201 = .ok (.aload_n 0, 1) := by decide +kernel
theorem dX12_readKeys_202 : decode cX12_readKeys 202 = .ok (.getfield 428, 3) := by decide +kernel
theorem dX12_readKeys_205 : decode cX12_readKeys 205 = .ok (.bipush 6, 2) := by decide +kernel
theorem dX12_readKeys_207 : decode cX12_readKeys 207 = .ok (.bipush 16, 2) := by decide +kernel
theorem dX12_readKeys_209 : decode cX12_readKeys 209 = .ok (.invokevirtual 459, 3) := by decide +kernel
theorem dX12_readKeys_212 : decode cX12_readKeys 212 = .ok (.istore_n 1, 1) := by decide +kernel
theorem dX12_readKeys_213 : decode cX12_readKeys 213 = .ok (.iload_n 1, 1) := by decide +kernel
theorem dX12_readKeys_214 : decode cX12_readKeys 214 = .ok (.istore_n 2, 1) := by decide +kernel
theorem dX12_readKeys_215 : decode cX12_readKeys 215 = .ok (.iinc 3 1, 3) := by decide +kernel
theorem dX12_readKeys_218 : decode cX12_readKeys 218 = .ok (.goto 51, 3) := by decide +kernel
theorem dX12_readKeys_221 : decode cX12_readKeys 221 = .ok (.iload 6, 2) := by decide +kernel
theorem dX12_readKeys_223 : decode cX12_readKeys 223 = .ok (.ifCond .eq 23, 3) := by decide +kernel
theorem dX12_readKeys_226 : decode cX12_readKeys 226 = .ok (.aload_n 0, 1) := by decide +kernel
theorem dX12_readKeys_227 : decode cX12_readKeys 227 = .ok (.iload_n 1, 1) := by decide +kernel
theorem dX12_readKeys_228 : decode cX12_readKeys 228 = .ok (.iconst 1, 1) := by decide +kernel
theorem dX12_readKeys_229 : decode cX12_readKeys 229 = .ok (.iadd, 1) := by decide +kernel
theorem dX12_readKeys_230 : decode cX12_readKeys 230 = .ok (.aload_n 0, 1) := by decide +kernel
theorem dX12_readKeys_231 : decode cX12_readKeys 231 = .ok (.iload_n 1, 1) := by decide +kernel
theorem dX12_readKeys_232 : decode cX12_readKeys 232 = .ok (.invokevirtual 447, 3) := by decide +kernel
theorem dX12_readKeys_235 : decode cX12_readKeys 235 = .ok (.bipush 14, 2) := by decide +kernel
theorem dX12_readKeys_237 : decode cX12_readKeys 237 = .ok (.bipush 8, 2) := by decide +kernel
theorem dX12_readKeys_239 : decode cX12_readKeys 239 = .ok (.invokevirtual 459, 3) := by decide +kernel
theorem dX12_readKeys_242 : decode cX12_readKeys 242 = .ok (.istore_n 2, 1) := by decide +kernel
theorem dX12_readKeys_243 : decode cX12_readKeys 243 = .ok (.goto 26, 3) := by decide +kernel
theorem dX12_readKeys_246 : decode cX12_readKeys 246 = .ok (.aload_n 0, 1) := by decide +kernel
theorem dX12_readKeys_247 : decode cX12_readKeys 247 = .ok (.getfield 290, 3) := by decide +kernel
theorem dX12_readKeys_250 : decode cX12_readKeys 250 = .ok (.bipush 13, 2) := by decide +kernel
theorem dX12_readKeys_252 : decode cX12_readKeys 252 = .ok (.if_icmp .ne 12, 3) := by decide +kernel
theorem dX12_readKeys_255 : decode cX12_readKeys 255 = .ok (.aload_n 0, 1) := by decide +kernel
theorem dX12_readKeys_256 : decode cX12_readKeys 256 = .ok (.iload_n 1, 1) := by decide +kernel
theorem dX12_readKeys_257 : decode cX12_readKeys 257 = .ok (.invokevirtual 463, 3) := by decide +kernel
theorem dX12_readKeys_260 : decode cX12_readKeys 260 = .ok (.istore_n 2, 1) := by decide +kernel
theorem dX12_readKeys_261 : decode cX12_readKeys 261 = .ok (.goto 8, 3) := by decide +kernel
theorem dX12_readKeys_264 : decode cX12_readKeys 264 = .ok (.aload_n 0, 1) := by decide +kernel
theorem dX12_readKeys_265 : decode cX12_readKeys 265 = .ok (.iload_n 2, 1) := by decide +kernel
theorem dX12_readKeys_266 : decode cX12_readKeys 266 = .ok (.invokevirtual 466, 3) := by decide +kernel
theorem dX12_readKeys_269 : decode cX12_readKeys 269 = .ok (.goto (-263), 3) := by decide +kernel
theorem dX12_readKeys_272 : decode cX12_readKeys 272 = .ok (.aload_n 0, 1) := by decide +kernel
theorem dX12_readKeys_273 : decode cX12_readKeys 273 = .ok (.getfield 178, 3) := by decide +kernel
theorem dX12_readKeys_276 : decode cX12_readKeys 276 = .ok (.ifCond .ne 18, 3) := by decide +kernel
theorem dX12_readKeys_279 : decode cX12_readKeys 279 = .ok (.iload_n 3, 1) := by decide +kernel
theorem dX12_readKeys_280 : decode cX12_readKeys 280 = .ok (.ifCond .ne 14, 3) := by decide +kernel
theorem dX12_readKeys_283 : decode cX12_readKeys 283 = .ok (.aload_n 0, 1) := by decide +kernel
theorem dX12_readKeys_284 : decode cX12_readKeys 284 = .ok (.iconst (-1), 1) := by decide +kernel
theorem dX12_readKeys_285 : decode cX12_readKeys 285 = .ok (.aload_n 0, 1) := by decide +kernel
theorem dX12_readKeys_286 : decode cX12_readKeys 286 = .ok (.getfield 272, 3) := by decide +kernel
theorem dX12_readKeys_289 : decode cX12_readKeys 289 = .ok (.arraylength, 1) := by decide +kernel
theorem dX12_readKeys_290 : decode cX12_readKeys 290 = .ok (.isub, 1) := by decide +kernel
theorem dX12_readKeys_291 : decode cX12_readKeys 291 = .ok (.invokevirtual 182, 3) := by decide +kernel
theorem dX12_readKeys_294 : decode cX12_readKeys 294 = .ok (.iload_n 3, 1) := by decide +kernel
theorem dX12_readKeys_295 : decode cX12_readKeys 295 = .ok (.ireturn, 1) := by decide +kernel
theorem dX12_join_0 : decode cX12_join 0 = .ok (.aload_n 0, 1) := by decide +kernel
theorem dX12_join_1 : decode cX12_join 1 = .ok (.iconst 0, 1) := by decide +kernel
theorem dX12_join_2 : decode cX12_join 2 = .ok (.putfield 78, 3) := by decide +kernel
theorem dX12_join_5 : decode cX12_join 5 = .ok (.aload_n 0, 1) := by decide +kernel
theorem dX12_join_6 : decode cX12_join 6 = .ok (.iconst 0, 1) := by decide +kernel
theorem dX12_join_7 : decode cX12_join 7 = .ok (.putfield 178, 3) := by decide +kernel
theorem dX12_join_10 : decode cX12_join 10 = .ok (.aload_n 0, 1) := by decide +kernel
theorem dX12_join_11 : decode cX12_join 11 = .ok (.aload_n 0, 1) := by decide +kernel
theorem dX12_join_12 : decode cX12_join 12 = .ok (.getfield 485, 3) := by decide +kernel
theorem dX12_join_15 : decode cX12_join 15 = .ok (.putfield 428, 3) := by decide +kernel
theorem dX12_join_18 : decode cX12_join 18 = .ok (.iconst 0, 1) := by decide +kernel
theorem dX12_join_19 : decode cX12_join 19 = .ok (.istore_n 1, 1) := by decide +kernel
theorem dX12_join_20 : decode cX12_join 20 = .ok (.iload_n 1, 1) := by decide +kernel
theorem dX12_join_21 : decode cX12_join 21 = .ok (.aload_n 0, 1) := by decide +kernel
theorem dX12_join_22 : decode cX12_join 22 = .ok (.getfield 485, 3) := by decide +kernel
theorem dX12_join_25 : decode cX12_join 25 = .ok (.if_icmp .ge 45, 3) := by decide +kernel
theorem dX12_join_28 : decode cX12_join 28 = .ok (.aload_n 0, 1) := by decide +kernel
theorem dX12_join_29 : decode cX12_join 29 = .ok (.getfield 31, 3) := by decide +kernel
theorem dX12_join_32 : decode cX12_join 32 = .ok (.iload_n 1, 1) := by decide +kernel
theorem dX12_join_33 : decode cX12_join 33 = .ok (.aload_n 0, 1) := by decide +kernel
theorem dX12_join_34 : decode cX12_join 34 = .ok (.getfield 20, 3) := by decide +kernel
theorem dX12_join_37 : decode cX12_join 37 = .ok (.iload_n 1, 1) := by decide +kernel
theorem dX12_join_38 : decode cX12_join 38 = .ok (.iaload, 1) := by decide +kernel
theorem dX12_join_39 : decode cX12_join 39 = .ok (.iastore, 1) := by decide +kernel
theorem dX12_join_40 : decode cX12_join 40 = .ok (.aload_n 0, 1) := by decide +kernel
theorem dX12_join_41 : decode cX12_join 41 = .ok (.getfield 34, 3) := by decide +kernel
theorem dX12_join_44 : decode cX12_join 44 = .ok (.iload_n 1, 1) := by decide +kernel
theorem dX12_join_45 : decode cX12_join 45 = .ok (.aload_n 0, 1) := by decide +kernel
theorem dX12_join_46 : decode cX12_join 46 = .ok (.getfield 24, 3) := by decide +kernel
theorem dX12_join_49 : decode cX12_join 49 = .ok (.iload_n 1, 1) := by decide +kernel
theorem dX12_join_50 : decode cX12_join 50 = .ok (.aaload, 1) := by decide +kernel
theorem dX12_join_51 : decode cX12_join 51 = .ok (.aastore, 1) := by decide +kernel
theorem dX12_join_52 : decode cX12_join 52 = .ok (.aload_n 0, 1) := by decide +kernel
theorem dX12_join_53 : decode cX12_join 53 = .ok (.getfield 37, 3) := by decide +kernel
theorem dX12_join_56 : decode cX12_join 56 = .ok (.iload_n 1, 1) := by decide +kernel
theorem dX12_join_57 : decode cX12_join 57 = .ok (.aload_n 0, 1) := by decide +kernel
theorem dX12_join_58 : decode cX12_join 58 = .ok (.getfield 28, 3) := by decide +kernel
theorem dX12_join_61 : decode cX12_join 61 = .ok (.iload_n 1, 1) := by decide +kernel
theorem dX12_join_62 : decode cX12_join 62 = .ok (.aaload, 1) := by decide +kernel
theorem dX12_join_63 : decode cX12_join 63 = .ok (.aastore, 1) := by decide +kernel
theorem dX12_join_64 : decode cX12_join 64 = .ok (.iinc 1 1, 3) := by decide +kernel
theorem dX12_join_67 : decode cX12_join 67 = .ok (.goto (-47), 3) := by decide +kernel
theorem dX12_join_70 : decode cX12_join 70 = .ok (.aload_n 0, 1) := by decide +kernel
theorem dX12_join_71 : decode cX12_join 71 = .ok (.invokevirtual 488, 3) := by decide +kernel
theorem dX12_join_74 : decode cX12_join 74 = .ok (.astore_n 1, 1) := by decide +kernel
theorem dX12_join_75 : decode cX12_join 75 = .ok (.aload_n 1, 1) := by decide +kernel
theorem dX12_join_76 : decode cX12_join 76 = .ok (.arraylength, 1) := by decide +kernel
theorem dX12_join_77 : decode cX12_join 77 = .ok (.ifCond .le 33, 3) := by decide +kernel
theorem dX12_join_80 : decode cX12_join 80 = .ok (.aload_n 1, 1) := by decide +kernel
theorem dX12_join_81 : decode cX12_join 81 = .ok (.iconst 0, 1) := by decide +kernel
theorem dX12_join_82 : decode cX12_join 82 = .ok (.iaload, 1) := by decide +kernel
theorem dX12_join_83 : decode cX12_join 83 = .ok (.sipush 128, 3) := by decide +kernel
theorem dX12_join_86 : decode cX12_join 86 = .ok (.if_icmp .ge 24, 3) := by decide +kernel
theorem dX12_join_89 : decode cX12_join 89 = .ok (.aload_n 0, 1) := by decide +kernel
theorem dX12_join_90 : decode cX12_join 90 = .ok (.aload_n 1, 1) := by decide +kernel
theorem dX12_join_91 : decode cX12_join 91 = .ok (.invokevirtual 491, 3) := by decide +kernel
theorem dX12_join_94 : decode cX12_join 94 = .ok (.aload_n 0, 1) := by decide +kernel
theorem dX12_join_95 : decode cX12_join 95 = .ok (.getfield 178, 3) := by decide +kernel
theorem dX12_join_98 : decode cX12_join 98 = .ok (.ifCond .ne 10, 3) := by decide +kernel
theorem dX12_join_101 : decode cX12_join 101 = .ok (.aload_n 0, 1) := by decide +kernel
theorem dX12_join_102 : decode cX12_join 102 = .ok (.invokevirtual 494, 3) := by decide +kernel
theorem dX12_join_105 : decode cX12_join 105 = .ok (.goto 4, 3) := by decide +kernel
theorem dX12_join_108 : decode cX12_join 108 = .ok (.aload_n 1, 1) := by decide +kernel
theorem dX12_join_109 : decode cX12_join 109 = .ok (.astore_n 1, 1) := by decide +kernel
theorem dX12_join_110 : decode cX12_join 110 = .ok (.iconst 0, 1) := by decide +kernel
theorem dX12_join_111 : decode cX12_join 111 = .ok (.istore_n 2, 1) := by decide +kernel
theorem dX12_join_112 : decode cX12_join 112 = .ok (.aload_n 0, 1) := by decide +kernel
theorem dX12_join_113 : decode cX12_join 113 = .ok (.getfield 178, 3) := by decide +kernel
theorem dX12_join_116 : decode cX12_join 116 = .ok (.ifCond .ne 13, 3) := by decide +kernel
theorem dX12_join_119 : decode cX12_join 119 = .ok (.aload_n 0, 1) := by decide +kernel
theorem dX12_join_120 : decode cX12_join 120 = .ok (.aload_n 1, 1) := by decide +kernel
theorem dX12_join_121 : decode cX12_join 121 = .ok (.invokevirtual 497, 3) := by decide +kernel
theorem dX12_join_124 : decode cX12_join 124 = .ok (.aload_n 0, 1) := by decide +kernel
theorem dX12_join_125 : decode cX12_join 125 = .ok (.invokevirtual 500, 3) := by decide +kernel
theorem dX12_join_128 : decode cX12_join 128 = .ok (.istore_n 2, 1) := by decide +kernel
theorem dX12_join_129 : decode cX12_join 129 = .ok (.aload_n 0, 1) := by decide +kernel
theorem dX12_join_130 : decode cX12_join 130 = .ok (.getfield 178, 3) := by decide +kernel
theorem dX12_join_133 : decode cX12_join 133 = .ok (.ifCond .eq 8, 3) := by decide +kernel
theorem dX12_join_136 : decode cX12_join 136 = .ok (.aload_n 0, 1) := by decide +kernel
theorem dX12_join_137 : decode cX12_join 137 = .ok (.getfield 178, 3) := by decide +kernel
theorem dX12_join_140 : decode cX12_join 140 = .ok (.ireturn, 1) := by decide +kernel
theorem dX12_join_141 : decode cX12_join 141 = .ok (.aload_n 0, 1) := by decide +kernel
theorem dX12_join_142 : decode cX12_join 142 = .ok (.getfield 20, 3) := by decide +kernel
theorem dX12_join_145 : decode cX12_join 145 = .ok (.astore_n 3, 1) := by decide +kernel
theorem dX12_join_146 : decode cX12_join 146 = .ok (.aload_n 0, 1) := by decide +kernel
theorem dX12_join_147 : decode cX12_join 147 = .ok (.getfield 24, 3) := by decide +kernel
theorem dX12_join_150 : decode cX12_join 150 = .ok (.astore 4, 2) := by decide +kernel
theorem dX12_join_152 : decode cX12_join 152 = .ok (.aload_n 0, 1) := by decide +kernel
theorem dX12_join_153 : decode cX12_join 153 = .ok (.getfield 28, 3) := by decide +kernel
theorem dX12_join_156 : decode cX12_join 156 = .ok (.astore 5, 2) := by decide +kernel
theorem dX12_join_158 : decode cX12_join 158 = .ok (.aload_n 0, 1) := by decide +kernel
theorem dX12_join_159 : decode cX12_join 159 = .ok (.aload_n 0, 1) := by decide +kernel
theorem dX12_join_160 : decode cX12_join 160 = .ok (.getfield 31, 3) := by decide +kernel
theorem dX12_join_163 : decode cX12_join 163 = .ok (.putfield 20, 3) := by decide +kernel
theorem dX12_join_166 : decode cX12_join 166 = .ok (.aload_n 0, 1) := by decide +kernel
theorem dX12_join_167 : decode cX12_join 167 = .ok (.aload_n 0, 1) := by decide +kernel
theorem dX12_join_168 : decode cX12_join 168 = .ok (.getfield 34, 3) := by decide +kernel
theorem dX12_join_171 : decode cX12_join 171 = .ok (.putfield 24, 3) := by decide +kernel
theorem dX12_join_174 : decode cX12_join 174 = .ok (.aload_n 0, 1) := by decide +kernel
theorem dX12_join_175 : decode cX12_join 175 = .ok (.aload_n 0, 1) := by decide +kernel
theorem dX12_join_176 : decode cX12_join 176 = .ok (.getfield 37, 3) := by decide +kernel
theorem dX12_join_179 : decode cX12_join 179 = .ok (.putfield 28, 3) := by decide +kernel
theorem dX12_join_182 : decode cX12_join 182 = .ok (.aload_n 0, 1) := by decide +kernel
theorem dX12_join_183 : decode cX12_join 183 = .ok (.aload_n 0, 1) := by decide +kernel
theorem dX12_join_184 : decode cX12_join 184 = .ok (.getfield 428, 3) := by decide +kernel
theorem dX12_join_187 : decode cX12_join 187 = .ok (.putfield 485, 3) := by decide +kernel
theorem dX12_join_190 : decode cX12_join 190 = .ok (.aload_n 0, 1) := by decide +kernel
theorem dX12_join_191 : decode cX12_join 191 = .ok (.aload_n 3, 1) := by decide +kernel
theorem dX12_join_192 : decode cX12_join 192 = .ok (.putfield 31, 3) := by decide +kernel
theorem dX12_join_195 : decode cX12_join 195 = .ok (.aload_n 0, 1) := by decide +kernel
theorem dX12_join_196 : decode cX12_join 196 = .ok (.aload 4, 2) := by decide +kernel
theorem dX12_join_198 : decode cX12_join 198 = .ok (.putfield 34, 3) := by decide +kernel
theorem dX12_join_201 : decode cX12_join 201 = .ok (.aload_n 0, 1) := by decide +kernel
theorem dX12_join_202 : decode cX12_join 202 = .ok (.aload 5, 2) := by decide +kernel
theorem dX12_join_204 : decode cX12_join 204 = .ok (.putfield 37, 3) := by decide +kernel
theorem dX12_join_207 : decode cX12_join 207 = .ok (.iload_n 2, 1) := by decide +kernel
theorem dX12_join_208 : decode cX12_join 208 = .ok (.ireturn, 1) := by decide +kernel
theorem dX12_placeOf_0 : decode cX12_placeOf 0 = .ok (.iconst (-1), 1) := by decide +kernel
theorem dX12_placeOf_1 : decode cX12_placeOf 1 = .ok (.istore_n 2, 1) := by decide +kernel
theorem dX12_placeOf_2 : decode cX12_placeOf 2 = .ok (.iconst 0, 1) := by decide +kernel
theorem dX12_placeOf_3 : decode cX12_placeOf 3 = .ok (.istore_n 3, 1) := by decide +kernel
theorem dX12_placeOf_4 : decode cX12_placeOf 4 = .ok (.iload_n 3, 1) := by decide +kernel
theorem dX12_placeOf_5 : decode cX12_placeOf 5 = .ok (.aload_n 0, 1) := by decide +kernel
theorem dX12_placeOf_6 : decode cX12_placeOf 6 = .ok (.getfield 485, 3) := by decide +kernel
theorem dX12_placeOf_9 : decode cX12_placeOf 9 = .ok (.if_icmp .ge 39, 3) := by decide +kernel
theorem dX12_placeOf_12 : decode cX12_placeOf 12 = .ok (.aload_n 0, 1) := by decide +kernel
theorem dX12_placeOf_13 : decode cX12_placeOf 13 = .ok (.getfield 20, 3) := by decide +kernel
theorem dX12_placeOf_16 : decode cX12_placeOf 16 = .ok (.iload_n 3, 1) := by decide +kernel
theorem dX12_placeOf_17 : decode cX12_placeOf 17 = .ok (.iaload, 1) := by decide +kernel
theorem dX12_placeOf_18 : decode cX12_placeOf 18 = .ok (.bipush 6, 2) := by decide +kernel
theorem dX12_placeOf_20 : decode cX12_placeOf 20 = .ok (.if_icmp .ne 9, 3) := by decide +kernel
theorem dX12_placeOf_23 : decode cX12_placeOf 23 = .ok (.iload_n 2, 1) := by decide +kernel
theorem dX12_placeOf_24 : decode cX12_placeOf 24 = .ok (.iconst 1, 1) := by decide +kernel
theorem dX12_placeOf_25 : decode cX12_placeOf 25 = .ok (.iadd, 1) := by decide +kernel
theorem dX12_placeOf_26 : decode cX12_placeOf 26 = .ok (.goto 4, 3) := by decide +kernel
theorem dX12_placeOf_29 : decode cX12_placeOf 29 = .ok (.iload_n 2, 1) := by decide +kernel
theorem dX12_placeOf_30 : decode cX12_placeOf 30 = .ok (.istore_n 2, 1) := by decide +kernel
theorem dX12_placeOf_31 : decode cX12_placeOf 31 = .ok (.iload_n 2, 1) := by decide +kernel
theorem dX12_placeOf_32 : decode cX12_placeOf 32 = .ok (.iload_n 1, 1) := by decide +kernel
theorem dX12_placeOf_33 : decode cX12_placeOf 33 = .ok (.if_icmp .ne 9, 3) := by decide +kernel
theorem dX12_placeOf_36 : decode cX12_placeOf 36 = .ok (.iload_n 1, 1) := by decide +kernel
theorem dX12_placeOf_37 : decode cX12_placeOf 37 = .ok (.ifCond .lt 5, 3) := by decide +kernel
theorem dX12_placeOf_40 : decode cX12_placeOf 40 = .ok (.iload_n 3, 1) := by decide +kernel
theorem dX12_placeOf_41 : decode cX12_placeOf 41 = .ok (.ireturn, 1) := by decide +kernel
theorem dX12_placeOf_42 : decode cX12_placeOf 42 = .ok (.iinc 3 1, 3) := by decide +kernel
theorem dX12_placeOf_45 : decode cX12_placeOf 45 = .ok (.goto (-41), 3) := by decide +kernel
theorem dX12_placeOf_48 : decode cX12_placeOf 48 = .ok (.iconst (-1), 1) := by decide +kernel
theorem dX12_placeOf_49 : decode cX12_placeOf 49 = .ok (.ireturn, 1) := by decide +kernel
theorem dX12_document_0 : decode cX12_document 0 = .ok (.aload_n 0, 1) := by decide +kernel
theorem dX12_document_1 : decode cX12_document 1 = .ok (.iconst 0, 1) := by decide +kernel
theorem dX12_document_2 : decode cX12_document 2 = .ok (.putfield 78, 3) := by decide +kernel
theorem dX12_document_5 : decode cX12_document 5 = .ok (.aload_n 0, 1) := by decide +kernel
theorem dX12_document_6 : decode cX12_document 6 = .ok (.aload_n 0, 1) := by decide +kernel
theorem dX12_document_7 : decode cX12_document 7 = .ok (.invokevirtual 488, 3) := by decide +kernel
theorem dX12_document_10 : decode cX12_document 10 = .ok (.putfield 13, 3) := by decide +kernel
theorem dX12_document_13 : decode cX12_document 13 = .ok (.aload_n 0, 1) := by decide +kernel
theorem dX12_document_14 : decode cX12_document 14 = .ok (.getfield 13, 3) := by decide +kernel
theorem dX12_document_17 : decode cX12_document 17 = .ok (.arraylength, 1) := by decide +kernel
theorem dX12_document_18 : decode cX12_document 18 = .ok (.ireturn, 1) := by decide +kernel
theorem dX12_readCase_0 : decode cX12_readCase 0 = .ok (.aload_n 1, 1) := by decide +kernel
theorem dX12_readCase_1 : decode cX12_readCase 1 = .ok (.arraylength, 1) := by decide +kernel
theorem dX12_readCase_2 : decode cX12_readCase 2 = .ok (.ifCond .ne 9, 3) := by decide +kernel
theorem dX12_readCase_5 : decode cX12_readCase 5 = .ok (.aload_n 0, 1) := by decide +kernel
theorem dX12_readCase_6 : decode cX12_readCase 6 = .ok (.iconst (-1), 1) := by decide +kernel
theorem dX12_readCase_7 : decode cX12_readCase 7 = .ok (.invokevirtual 182, 3) := by decide +kernel
theorem dX12_readCase_10 : decode cX12_readCase 10 = .ok (.return_, 1) := by decide +kernel
theorem dX12_readCase_11 : decode cX12_readCase 11 = .ok (.aload_n 1, 1) := by decide +kernel
theorem dX12_readCase_12 : decode cX12_readCase 12 = .ok (.iconst 0, 1) := by decide +kernel
theorem dX12_readCase_13 : decode cX12_readCase 13 = .ok (.iaload, 1) := by decide +kernel
theorem dX12_readCase_14 : decode cX12_readCase 14 = .ok (.bipush 127, 2) := by decide +kernel
theorem dX12_readCase_16 : decode cX12_readCase 16 = .ok (.if_icmp .le 9, 3) := by decide +kernel
theorem dX12_readCase_19 : decode cX12_readCase 19 = .ok (.aload_n 0, 1) := by decide +kernel
theorem dX12_readCase_20 : decode cX12_readCase 20 = .ok (.aload_n 1, 1) := by decide +kernel
theorem dX12_readCase_21 : decode cX12_readCase 21 = .ok (.invokevirtual 565, 3) := by decide +kernel
theorem dX12_readCase_24 : decode cX12_readCase 24 = .ok (.return_, 1) := by decide +kernel
theorem dX12_readCase_25 : decode cX12_readCase 25 = .ok (.aload_n 0, 1) := by decide +kernel
theorem dX12_readCase_26 : decode cX12_readCase 26 = .ok (.aload_n 1, 1) := by decide +kernel
theorem dX12_readCase_27 : decode cX12_readCase 27 = .ok (.invokevirtual 491, 3) := by decide +kernel
theorem dX12_readCase_30 : decode cX12_readCase 30 = .ok (.aload_n 0, 1) := by decide +kernel
theorem dX12_readCase_31 : decode cX12_readCase 31 = .ok (.getfield 178, 3) := by decide +kernel
theorem dX12_readCase_34 : decode cX12_readCase 34 = .ok (.ifCond .eq 4, 3) := by decide +kernel
theorem dX12_readCase_37 : decode cX12_readCase 37 = .ok (.return_, 1) := by decide +kernel
theorem dX12_readCase_38 : decode cX12_readCase 38 = .ok (.aload_n 0, 1) := by decide +kernel
theorem dX12_readCase_39 : decode cX12_readCase 39 = .ok (.ldc_w 568, 3) := by decide +kernel
theorem dX12_readCase_42 : decode cX12_readCase 42 = .ok (.invokevirtual 255, 3) := by decide +kernel
theorem dX12_readCase_45 : decode cX12_readCase 45 = .ok (.ifCond .eq 8, 3) := by decide +kernel
theorem dX12_readCase_48 : decode cX12_readCase 48 = .ok (.aload_n 0, 1) := by decide +kernel
theorem dX12_readCase_49 : decode cX12_readCase 49 = .ok (.invokevirtual 570, 3) := by decide +kernel
theorem dX12_readCase_52 : decode cX12_readCase 52 = .ok (.return_, 1) := by decide +kernel
theorem dX12_readCase_53 : decode cX12_readCase 53 = .ok (.aload_n 0, 1) := by decide +kernel
theorem dX12_readCase_54 : decode cX12_readCase 54 = .ok (.invokevirtual 494, 3) := by decide +kernel
theorem dX12_readCase_57 : decode cX12_readCase 57 = .ok (.astore_n 2, 1) := by decide +kernel
theorem dX12_readCase_58 : decode cX12_readCase 58 = .ok (.aload_n 0, 1) := by decide +kernel
theorem dX12_readCase_59 : decode cX12_readCase 59 = .ok (.getfield 178, 3) := by decide +kernel
theorem dX12_readCase_62 : decode cX12_readCase 62 = .ok (.ifCond .ne 13, 3) := by decide +kernel
theorem dX12_readCase_65 : decode cX12_readCase 65 = .ok (.aload_n 2, 1) := by decide +kernel
theorem dX12_readCase_66 : decode cX12_readCase 66 = .ok (.arraylength, 1) := by decide +kernel
theorem dX12_readCase_67 : decode cX12_readCase 67 = .ok (.ifCond .ne 8, 3) := by decide +kernel
theorem dX12_readCase_70 : decode cX12_readCase 70 = .ok (.aload_n 0, 1) := by decide +kernel
theorem dX12_readCase_71 : decode cX12_readCase 71 = .ok (.iconst (-1), 1) := by decide +kernel
theorem dX12_readCase_72 : decode cX12_readCase 72 = .ok (.invokevirtual 182, 3) := by decide +kernel
theorem dX12_readCase_75 : decode cX12_readCase 75 = .ok (.aload_n 0, 1) := by decide +kernel
theorem dX12_readCase_76 : decode cX12_readCase 76 = .ok (.getfield 178, 3) := by decide +kernel
theorem dX12_readCase_79 : decode cX12_readCase 79 = .ok (.ifCond .ne 8, 3) := by decide +kernel
theorem dX12_readCase_82 : decode cX12_readCase 82 = .ok (.aload_n 0, 1) := by decide +kernel
theorem dX12_readCase_83 : decode cX12_readCase 83 = .ok (.aload_n 2, 1) := by decide +kernel
theorem dX12_readCase_84 : decode cX12_readCase 84 = .ok (.invokevirtual 565, 3) := by decide +kernel
theorem dX12_readCase_87 : decode cX12_readCase 87 = .ok (.return_, 1) := by decide +kernel
theorem dX12_isTime_0 : decode cX12_isTime 0 = .ok (.lload_n 0, 1) := by decide +kernel
theorem dX12_isTime_1 : decode cX12_isTime 1 = .ok (.lconst 0, 1) := by decide +kernel
theorem dX12_isTime_2 : decode cX12_isTime 2 = .ok (.lcmp, 1) := by decide +kernel
theorem dX12_isTime_3 : decode cX12_isTime 3 = .ok (.ifCond .lt 15, 3) := by decide +kernel
theorem dX12_isTime_6 : decode cX12_isTime 6 = .ok (.lload_n 0, 1) := by decide +kernel
theorem dX12_isTime_7 : decode cX12_isTime 7 = .ok (.ldc2_w 151, 3) := by decide +kernel
theorem dX12_isTime_10 : decode cX12_isTime 10 = .ok (.lcmp, 1) := by decide +kernel
theorem dX12_isTime_11 : decode cX12_isTime 11 = .ok (.ifCond .gt 7, 3) := by decide +kernel
theorem dX12_isTime_14 : decode cX12_isTime 14 = .ok (.iconst 1, 1) := by decide +kernel
theorem dX12_isTime_15 : decode cX12_isTime 15 = .ok (.goto 4, 3) := by decide +kernel
theorem dX12_isTime_18 : decode cX12_isTime 18 = .ok (.iconst 0, 1) := by decide +kernel
theorem dX12_isTime_19 : decode cX12_isTime 19 = .ok (.ireturn, 1) := by decide +kernel
theorem dX12_look_0 : decode cX12_look 0 = .ok (.aload_n 0, 1) := by decide +kernel
theorem dX12_look_1 : decode cX12_look 1 = .ok (.lload_n 1, 1) := by decide +kernel
theorem dX12_look_2 : decode cX12_look 2 = .ok (.invokestatic 573, 3) := by decide +kernel
theorem dX12_look_5 : decode cX12_look 5 = .ok (.ifCond .eq 7, 3) := by decide +kernel
theorem dX12_look_8 : decode cX12_look 8 = .ok (.iconst 0, 1) := by decide +kernel
theorem dX12_look_9 : decode cX12_look 9 = .ok (.goto 4, 3) := by decide +kernel
theorem dX12_look_12 : decode cX12_look 12 = .ok (.iconst 1, 1) := by decide +kernel
theorem dX12_look_13 : decode cX12_look 13 = .ok (.putfield 78, 3) := by decide +kernel
theorem dX12_look_16 : decode cX12_look 16 = .ok (.aload_n 0, 1) := by decide +kernel
theorem dX12_look_17 : decode cX12_look 17 = .ok (.getfield 78, 3) := by decide +kernel
theorem dX12_look_20 : decode cX12_look 20 = .ok (.ifCond .le 5, 3) := by decide +kernel
theorem dX12_look_23 : decode cX12_look 23 = .ok (.iconst 0, 1) := by decide +kernel
theorem dX12_look_24 : decode cX12_look 24 = .ok (.ireturn, 1) := by decide +kernel
theorem dX12_look_25 : decode cX12_look 25 = .ok (.aload_n 0, 1) := by decide +kernel
theorem dX12_look_26 : decode cX12_look 26 = .ok (.iconst 0, 1) := by decide +kernel
theorem dX12_look_27 : decode cX12_look 27 = .ok (.putfield 178, 3) := by decide +kernel
theorem dX12_look_30 : decode cX12_look 30 = .ok (.aload_n 0, 1) := by decide +kernel
theorem dX12_look_31 : decode cX12_look 31 = .ok (.aload_n 0, 1) := by decide +kernel
theorem dX12_look_32 : decode cX12_look 32 = .ok (.invokevirtual 488, 3) := by decide +kernel
theorem dX12_look_35 : decode cX12_look 35 = .ok (.invokevirtual 576, 3) := by decide +kernel
theorem dX12_look_38 : decode cX12_look 38 = .ok (.aload_n 0, 1) := by decide +kernel
theorem dX12_look_39 : decode cX12_look 39 = .ok (.getfield 178, 3) := by decide +kernel
theorem dX12_look_42 : decode cX12_look 42 = .ok (.ifCond .eq 8, 3) := by decide +kernel
theorem dX12_look_45 : decode cX12_look 45 = .ok (.aload_n 0, 1) := by decide +kernel
theorem dX12_look_46 : decode cX12_look 46 = .ok (.getfield 178, 3) := by decide +kernel
theorem dX12_look_49 : decode cX12_look 49 = .ok (.ireturn, 1) := by decide +kernel
theorem dX12_look_50 : decode cX12_look 50 = .ok (.aload_n 0, 1) := by decide +kernel
theorem dX12_look_51 : decode cX12_look 51 = .ok (.aload_n 0, 1) := by decide +kernel
theorem dX12_look_52 : decode cX12_look 52 = .ok (.getfield 551, 3) := by decide +kernel
theorem dX12_look_55 : decode cX12_look 55 = .ok (.invokevirtual 479, 3) := by decide +kernel
theorem dX12_look_58 : decode cX12_look 58 = .ok (.istore_n 3, 1) := by decide +kernel
theorem dX12_look_59 : decode cX12_look 59 = .ok (.aload_n 0, 1) := by decide +kernel
theorem dX12_look_60 : decode cX12_look 60 = .ok (.getfield 381, 3) := by decide +kernel
theorem dX12_look_63 : decode cX12_look 63 = .ok (.ifCond .ne 17, 3) := by decide +kernel
theorem dX12_look_66 : decode cX12_look 66 = .ok (.aload_n 0, 1) := by decide +kernel
theorem dX12_look_67 : decode cX12_look 67 = .ok (.getfield 369, 3) := by decide +kernel
theorem dX12_look_70 : decode cX12_look 70 = .ok (.ifnonnull 12, 3) := by decide +kernel
theorem dX12_look_73 : decode cX12_look 73 = .ok (.aload_n 0, 1) := by decide +kernel
theorem dX12_look_74 : decode cX12_look 74 = .ok (.getfield 366, 3) := by decide +kernel
theorem dX12_look_77 : decode cX12_look 77 = .ok (.ifnonnull 5, 3) := by decide +kernel
theorem dX12_look_80 : decode cX12_look 80 = .ok (.iconst 1, 1) := by decide +kernel
theorem dX12_look_81 : decode cX12_look 81 = .ok (.ireturn, 1) := by decide +kernel
theorem dX12_look_82 : decode cX12_look 82 = .ok (.iconst (-1), 1) := by decide +kernel
theorem dX12_look_83 : decode cX12_look 83 = .ok (.istore 4, 2) := by decide +kernel
theorem dX12_look_85 : decode cX12_look 85 = .ok (.iconst (-1), 1) := by decide +kernel
theorem dX12_look_86 : decode cX12_look 86 = .ok (.istore 5, 2) := by decide +kernel
theorem dX12_look_88 : decode cX12_look 88 = .ok (.iconst (-1), 1) := by decide +kernel
theorem dX12_look_89 : decode cX12_look 89 = .ok (.istore 6, 2) := by decide +kernel
theorem dX12_look_91 : decode cX12_look 91 = .ok (.iconst 0, 1) := by decide +kernel
theorem dX12_look_92 : decode cX12_look 92 = .ok (.istore 7, 2) := by decide +kernel
theorem dX12_look_94 : decode cX12_look 94 = .ok (.iload 7, 2) := by decide +kernel
theorem dX12_look_96 : decode cX12_look 96 = .ok (.aload_n 0, 1) := by decide +kernel
theorem dX12_look_97 : decode cX12_look 97 = .ok (.getfield 485, 3) := by decide +kernel
theorem dX12_look_100 : decode cX12_look 100 = .ok (.if_icmp .ge 82, 3) := by decide +kernel
theorem dX12_look_103 : decode cX12_look 103 = .ok (.iload 5, 2) := by decide +kernel
theorem dX12_look_105 : decode cX12_look 105 = .ok (.iconst (-1), 1) := by decide +kernel
theorem dX12_look_106 : decode cX12_look 106 = .ok (.if_icmp .ne 76, 3) := by decide +kernel
theorem dX12_look_109 : decode cX12_look 109 = .ok (.aload_n 0, 1) := by decide +kernel
theorem dX12_look_110 : decode cX12_look 110 = .ok (.getfield 20, 3) := by decide +kernel
theorem dX12_look_113 : decode cX12_look 113 = .ok (.iload 7, 2) := by decide +kernel
theorem dX12_look_115 : decode cX12_look 115 = .ok (.iaload, 1) := by decide +kernel
theorem dX12_look_116 : decode cX12_look 116 = .ok (.bipush 6, 2) := by decide +kernel
theorem dX12_look_118 : decode cX12_look 118 = .ok (.if_icmp .ne 8, 3) := by decide +kernel
theorem dX12_look_121 : decode cX12_look 121 = .ok (.iload 7, 2) := by decide +kernel
theorem dX12_look_123 : decode cX12_look 123 = .ok (.goto 5, 3) := by decide +kernel
theorem dX12_look_126 : decode cX12_look 126 = .ok (.iload 6, 2) := by decide +kernel
theorem dX12_look_128 : decode cX12_look 128 = .ok (.istore 6, 2) := by decide +kernel
theorem dX12_look_130 : decode cX12_look 130 = .ok (.aload_n 0, 1) := by decide +kernel
theorem dX12_look_131 : decode cX12_look 131 = .ok (.getfield 20, 3) := by decide +kernel
theorem dX12_look_134 : decode cX12_look 134 = .ok (.iload 7, 2) := by decide +kernel
theorem dX12_look_136 : decode cX12_look 136 = .ok (.iaload, 1) := by decide +kernel
theorem dX12_look_137 : decode cX12_look 137 = .ok (.bipush 6, 2) := by decide +kernel
theorem dX12_look_139 : decode cX12_look 139 = .ok (.if_icmp .eq 15, 3) := by decide +kernel
theorem dX12_look_142 : decode cX12_look 142 = .ok (.aload_n 0, 1) := by decide +kernel
theorem dX12_look_143 : decode cX12_look 143 = .ok (.getfield 20, 3) := by decide +kernel
theorem dX12_look_146 : decode cX12_look 146 = .ok (.iload 7, 2) := by decide +kernel
theorem dX12_look_148 : decode cX12_look 148 = .ok (.iaload, 1) := by decide +kernel
theorem dX12_look_149 : decode cX12_look 149 = .ok (.bipush 14, 2) := by decide +kernel
theorem dX12_look_151 : decode cX12_look 151 = .ok (.if_icmp .ne 25, 3) := by decide +kernel
theorem dX12_look_154 : decode cX12_look 154 = .ok (.aload_n 0, 1) := by decide +kernel
theorem dX12_look_155 : decode cX12_look 155 = .ok (.aload_n 0, 1) := by decide +kernel
theorem dX12_look_156 : decode cX12_look 156 = .ok (.getfield 24, 3) := by decide +kernel
theorem dX12_look_159 : decode cX12_look 159 = .ok (.iload 7, 2) := by decide +kernel
theorem dX12_look_161 : decode cX12_look 161 = .ok (.aaload, 1) := by decide +kernel
theorem dX12_look_162 : decode cX12_look 162 = .ok (.invokevirtual 579, 3) := by decide +kernel
theorem dX12_look_165 : decode cX12_look 165 = .ok (.ifCond .eq 11, 3) := by decide +kernel
theorem dX12_look_168 : decode cX12_look 168 = .ok (.iload 6, 2) := by decide +kernel
theorem dX12_look_170 : decode cX12_look 170 = .ok (.istore 4, 2) := by decide +kernel
theorem dX12_look_172 : decode cX12_look 172 = .ok (.iload 7, 2) := by decide +kernel
theorem dX12_look_174 : decode cX12_look 174 = .ok (.istore 5, 2) := by decide +kernel
theorem dX12_look_176 : decode cX12_look 176 = .ok (.iinc 7 1, 3) := by decide +kernel
theorem dX12_look_179 : decode cX12_look 179 = .ok (.goto (-85), 3) := by decide +kernel
theorem dX12_look_182 : decode cX12_look 182 = .ok (.iload 5, 2) := by decide +kernel
theorem dX12_look_184 : decode cX12_look 184 = .ok (.iconst (-1), 1) := by decide +kernel
theorem dX12_look_185 : decode cX12_look 185 = .ok (.if_icmp .ne 5, 3) := by decide +kernel
theorem dX12_look_188 : decode cX12_look 188 = .ok (.iconst 2, 1) := by decide +kernel
theorem dX12_look_189 : decode cX12_look 189 = .ok (.ireturn, 1) := by decide +kernel
theorem dX12_look_190 : decode cX12_look 190 = .ok (.aload_n 0, 1) := by decide +kernel
theorem dX12_look_191 : decode cX12_look 191 = .ok (.getfield 353, 3) := by decide +kernel
theorem dX12_look_194 : decode cX12_look 194 = .ok (.lstore 7, 2) := by decide +kernel
theorem dX12_look_196 : decode cX12_look 196 = .ok (.aload_n 0, 1) := by decide +kernel
theorem dX12_look_197 : decode cX12_look 197 = .ok (.lload_n 1, 1) := by decide +kernel
theorem dX12_look_198 : decode cX12_look 198 = .ok (.invokevirtual 509, 3) := by decide +kernel
theorem dX12_look_201 : decode cX12_look 201 = .ok (.istore 9, 2) := by decide +kernel
theorem dX12_look_203 : decode cX12_look 203 = .ok (.aload_n 0, 1) := by decide +kernel
theorem dX12_look_204 : decode cX12_look 204 = .ok (.iconst 0, 1) := by decide +kernel
theorem dX12_look_205 : decode cX12_look 205 = .ok (.putfield 93, 3) := by decide +kernel
theorem dX12_look_208 : decode cX12_look 208 = .ok (.aload_n 0, 1) := by decide +kernel
theorem dX12_look_209 : decode cX12_look 209 = .ok (.aload_n 0, 1) := by decide +kernel
theorem dX12_look_210 : decode cX12_look 210 = .ok (.getfield 554, 3) := by decide +kernel
theorem dX12_look_213 : decode cX12_look 213 = .ok (.aload_n 0, 1) := by decide +kernel
theorem dX12_look_214 : decode cX12_look 214 = .ok (.getfield 390, 3) := by decide +kernel
theorem dX12_look_217 : decode cX12_look 217 = .ok (.iconst 1, 1) := by decide +kernel
theorem dX12_look_218 : decode cX12_look 218 = .ok (.if_icmp .ne 7, 3) := by decide +kernel
theorem dX12_look_221 : decode cX12_look 221 = .ok (.iconst 1, 1) := by decide +kernel
theorem dX12_look_222 : decode cX12_look 222 = .ok (.goto 4, 3) := by decide +kernel
theorem dX12_look_225 : decode cX12_look 225 = .ok (.iconst 0, 1) := by decide +kernel
theorem dX12_look_226 : decode cX12_look 226 = .ok (.invokevirtual 582, 3) := by decide +kernel
theorem dX12_look_229 : decode cX12_look 229 = .ok (.aload_n 0, 1) := by decide +kernel
theorem dX12_look_230 : decode cX12_look 230 = .ok (.aload_n 0, 1) := by decide +kernel
theorem dX12_look_231 : decode cX12_look 231 = .ok (.getfield 551, 3) := by decide +kernel
theorem dX12_look_234 : decode cX12_look 234 = .ok (.aload_n 0, 1) := by decide +kernel
theorem dX12_look_235 : decode cX12_look 235 = .ok (.getfield 24, 3) := by decide +kernel
theorem dX12_look_238 : decode cX12_look 238 = .ok (.iload 5, 2) := by decide +kernel
theorem dX12_look_240 : decode cX12_look 240 = .ok (.aaload, 1) := by decide +kernel
theorem dX12_look_241 : decode cX12_look 241 = .ok (.invokevirtual 506, 3) := by decide +kernel
theorem dX12_look_244 : decode cX12_look 244 = .ok (.ifCond .ne 5, 3) := by decide +kernel
theorem dX12_look_247 : decode cX12_look 247 = .ok (.iconst 3, 1) := by decide +kernel
theorem dX12_look_248 : decode cX12_look 248 = .ok (.ireturn, 1) := by decide +kernel
theorem dX12_look_249 : decode cX12_look 249 = .ok (.lload 7, 2) := by decide +kernel
theorem dX12_look_251 : decode cX12_look 251 = .ok (.lload_n 1, 1) := by decide +kernel
theorem dX12_look_252 : decode cX12_look 252 = .ok (.lcmp, 1) := by decide +kernel
theorem dX12_look_253 : decode cX12_look 253 = .ok (.ifCond .gt 8, 3) := by decide +kernel
theorem dX12_look_256 : decode cX12_look 256 = .ok (.iload 9, 2) := by decide +kernel
theorem dX12_look_258 : decode cX12_look 258 = .ok (.ifCond .eq 5, 3) := by decide +kernel
theorem dX12_look_261 : decode cX12_look 261 = .ok (.iconst 4, 1) := by decide +kernel
theorem dX12_look_262 : decode cX12_look 262 = .ok (.ireturn, 1) := by decide +kernel
theorem dX12_look_263 : decode cX12_look 263 = .ok (.aload_n 0, 1) := by decide +kernel
theorem dX12_look_264 : decode cX12_look 264 = .ok (.iload 4, 2) := by decide +kernel
theorem dX12_look_266 : decode cX12_look 266 = .ok (.iload 5, 2) := by decide +kernel
theorem dX12_look_268 : decode cX12_look 268 = .ok (.lload_n 1, 1) := by decide +kernel
theorem dX12_look_269 : decode cX12_look 269 = .ok (.invokevirtual 586, 3) := by decide +kernel
theorem dX12_look_272 : decode cX12_look 272 = .ok (.istore 10, 2) := by decide +kernel
theorem dX12_look_274 : decode cX12_look 274 = .ok (.iload 10, 2) := by decide +kernel
theorem dX12_look_276 : decode cX12_look 276 = .ok (.ifCond .ne 7, 3) := by decide +kernel
theorem dX12_look_279 : decode cX12_look 279 = .ok (.iconst 0, 1) := by decide +kernel
theorem dX12_look_280 : decode cX12_look 280 = .ok (.goto 8, 3) := by decide +kernel
theorem dX12_look_283 : decode cX12_look 283 = .ok (.bipush 10, 2) := by decide +kernel
theorem dX12_look_285 : decode cX12_look 285 = .ok (.iload 10, 2) := by decide +kernel
theorem dX12_look_287 : decode cX12_look 287 = .ok (.iadd, 1) := by decide +kernel
theorem dX12_look_288 : decode cX12_look 288 = .ok (.ireturn, 1) := by decide +kernel
theorem dX12_keys_0 : decode cX12_keys 0 = .ok (.aload_n 0, 1) := by decide +kernel
theorem dX12_keys_1 : decode cX12_keys 1 = .ok (.iconst 0, 1) := by decide +kernel
theorem dX12_keys_2 : decode cX12_keys 2 = .ok (.putfield 78, 3) := by decide +kernel
theorem dX12_keys_5 : decode cX12_keys 5 = .ok (.iconst 0, 1) := by decide +kernel
theorem dX12_keys_6 : decode cX12_keys 6 = .ok (.istore_n 1, 1) := by decide +kernel
theorem dX12_keys_7 : decode cX12_keys 7 = .ok (.iconst 0, 1) := by decide +kernel
theorem dX12_keys_8 : decode cX12_keys 8 = .ok (.istore_n 2, 1) := by decide +kernel
theorem dX12_keys_9 : decode cX12_keys 9 = .ok (.iload_n 2, 1) := by decide +kernel
theorem dX12_keys_10 : decode cX12_keys 10 = .ok (.aload_n 0, 1) := by decide +kernel
theorem dX12_keys_11 : decode cX12_keys 11 = .ok (.getfield 485, 3) := by decide +kernel
theorem dX12_keys_14 : decode cX12_keys 14 = .ok (.if_icmp .ge 28, 3) := by decide +kernel
theorem dX12_keys_17 : decode cX12_keys 17 = .ok (.aload_n 0, 1) := by decide +kernel
theorem dX12_keys_18 : decode cX12_keys 18 = .ok (.getfield 20, 3) := by decide +kernel
theorem dX12_keys_21 : decode cX12_keys 21 = .ok (.iload_n 2, 1) := by decide +kernel
theorem dX12_keys_22 : decode cX12_keys 22 = .ok (.iaload, 1) := by decide +kernel
theorem dX12_keys_23 : decode cX12_keys 23 = .ok (.bipush 6, 2) := by decide +kernel
theorem dX12_keys_25 : decode cX12_keys 25 = .ok (.if_icmp .ne 9, 3) := by decide +kernel
theorem dX12_keys_28 : decode cX12_keys 28 = .ok (.iload_n 1, 1) := by decide +kernel
theorem dX12_keys_29 : decode cX12_keys 29 = .ok (.iconst 1, 1) := by decide +kernel
theorem dX12_keys_30 : decode cX12_keys 30 = .ok (.iadd, 1) := by decide +kernel
theorem dX12_keys_31 : decode cX12_keys 31 = .ok (.goto 4, 3) := by decide +kernel
theorem dX12_keys_34 : decode cX12_keys 34 = .ok (.iload_n 1, 1) := by decide +kernel
theorem dX12_keys_35 : decode cX12_keys 35 = .ok (.istore_n 1, 1) := by decide +kernel
theorem dX12_keys_36 : decode cX12_keys 36 = .ok (.iinc 2 1, 3) := by decide +kernel
theorem dX12_keys_39 : decode cX12_keys 39 = .ok (.goto (-30), 3) := by decide +kernel
theorem dX12_keys_42 : decode cX12_keys 42 = .ok (.iload_n 1, 1) := by decide +kernel
theorem dX12_keys_43 : decode cX12_keys 43 = .ok (.ireturn, 1) := by decide +kernel
theorem dX12_key_0 : decode cX12_key 0 = .ok (.aload_n 0, 1) := by decide +kernel
theorem dX12_key_1 : decode cX12_key 1 = .ok (.iload_n 1, 1) := by decide +kernel
theorem dX12_key_2 : decode cX12_key 2 = .ok (.invokevirtual 590, 3) := by decide +kernel
theorem dX12_key_5 : decode cX12_key 5 = .ok (.istore_n 3, 1) := by decide +kernel
theorem dX12_key_6 : decode cX12_key 6 = .ok (.aload_n 0, 1) := by decide +kernel
theorem dX12_key_7 : decode cX12_key 7 = .ok (.iload_n 3, 1) := by decide +kernel
theorem dX12_key_8 : decode cX12_key 8 = .ok (.iconst (-1), 1) := by decide +kernel
theorem dX12_key_9 : decode cX12_key 9 = .ok (.if_icmp .eq 12, 3) := by decide +kernel
theorem dX12_key_12 : decode cX12_key 12 = .ok (.iload_n 2, 1) := by decide +kernel
theorem dX12_key_13 : decode cX12_key 13 = .ok (.ifCond .lt 8, 3) := by decide +kernel
theorem dX12_key_16 : decode cX12_key 16 = .ok (.iload_n 2, 1) := by decide +kernel
theorem dX12_key_17 : decode cX12_key 17 = .ok (.iconst 5, 1) := by decide +kernel
theorem dX12_key_18 : decode cX12_key 18 = .ok (.if_icmp .le 7, 3) := by decide +kernel
theorem dX12_key_21 : decode cX12_key 21 = .ok (.iconst 1, 1) := by decide +kernel
theorem dX12_key_22 : decode cX12_key 22 = .ok (.goto 4, 3) := by decide +kernel
theorem dX12_key_25 : decode cX12_key 25 = .ok (.iconst 0, 1) := by decide +kernel
theorem dX12_key_26 : decode cX12_key 26 = .ok (.putfield 78, 3) := by decide +kernel
theorem dX12_key_29 : decode cX12_key 29 = .ok (.aload_n 0, 1) := by decide +kernel
theorem dX12_key_30 : decode cX12_key 30 = .ok (.getfield 78, 3) := by decide +kernel
theorem dX12_key_33 : decode cX12_key 33 = .ok (.ifCond .le 5, 3) := by decide +kernel
theorem dX12_key_36 : decode cX12_key 36 = .ok (.lconst 0, 1) := by decide +kernel
theorem dX12_key_37 : decode cX12_key 37 = .ok (.lreturn, 1) := by decide +kernel
theorem dX12_key_38 : decode cX12_key 38 = .ok (.aload_n 0, 1) := by decide +kernel
theorem dX12_key_39 : decode cX12_key 39 = .ok (.aload_n 0, 1) := by decide +kernel
theorem dX12_key_40 : decode cX12_key 40 = .ok (.getfield 24, 3) := by decide +kernel
theorem dX12_key_43 : decode cX12_key 43 = .ok (.iload_n 3, 1) := by decide +kernel
theorem dX12_key_44 : decode cX12_key 44 = .ok (.aaload, 1) := by decide +kernel
theorem dX12_key_45 : decode cX12_key 45 = .ok (.iconst 0, 1) := by decide +kernel
theorem dX12_key_46 : decode cX12_key 46 = .ok (.invokevirtual 409, 3) := by decide +kernel
theorem dX12_key_49 : decode cX12_key 49 = .ok (.istore 4, 2) := by decide +kernel
theorem dX12_key_51 : decode cX12_key 51 = .ok (.iload_n 2, 1) := by decide +kernel
theorem dX12_key_52 : decode cX12_key 52 = .ok (.iconst 2, 1) := by decide +kernel
theorem dX12_key_53 : decode cX12_key 53 = .ok (.if_icmp .ge 23, 3) := by decide +kernel
theorem dX12_key_56 : decode cX12_key 56 = .ok (.iload_n 2, 1) := by decide +kernel
theorem dX12_key_57 : decode cX12_key 57 = .ok (.ifCond .ne 10, 3) := by decide +kernel
theorem dX12_key_60 : decode cX12_key 60 = .ok (.aload_n 0, 1) := by decide +kernel
theorem dX12_key_61 : decode cX12_key 61 = .ok (.getfield 323, 3) := by decide +kernel
theorem dX12_key_64 : decode cX12_key 64 = .ok (.goto 11, 3) := by decide +kernel
theorem dX12_key_67 : decode cX12_key 67 = .ok (.aload_n 0, 1) := by decide +kernel
theorem dX12_key_68 : decode cX12_key 68 = .ok (.getfield 330, 3) := by decide +kernel
theorem dX12_key_71 : decode cX12_key 71 = .ok (.invokestatic 319, 3) := by decide +kernel
theorem dX12_key_74 : decode cX12_key 74 = .ok (.i2l, 1) := by decide +kernel
theorem dX12_key_75 : decode cX12_key 75 = .ok (.lreturn, 1) := by decide +kernel
theorem dX12_key_76 : decode cX12_key 76 = .ok (.iload_n 2, 1) := by decide +kernel
theorem dX12_key_77 : decode cX12_key 77 = .ok (.iconst 2, 1) := by decide +kernel
theorem dX12_key_78 : decode cX12_key 78 = .ok (.if_icmp .ne 14, 3) := by decide +kernel
theorem dX12_key_81 : decode cX12_key 81 = .ok (.aload_n 0, 1) := by decide +kernel
theorem dX12_key_82 : decode cX12_key 82 = .ok (.iload_n 3, 1) := by decide +kernel
theorem dX12_key_83 : decode cX12_key 83 = .ok (.bipush 13, 2) := by decide +kernel
theorem dX12_key_85 : decode cX12_key 85 = .ok (.invokevirtual 593, 3) := by decide +kernel
theorem dX12_key_88 : decode cX12_key 88 = .ok (.i2l, 1) := by decide +kernel
theorem dX12_key_89 : decode cX12_key 89 = .ok (.goto 48, 3) := by decide +kernel
theorem dX12_key_92 : decode cX12_key 92 = .ok (.iload_n 2, 1) := by decide +kernel
theorem dX12_key_93 : decode cX12_key 93 = .ok (.iconst 3, 1) := by decide +kernel
theorem dX12_key_94 : decode cX12_key 94 = .ok (.if_icmp .ne 14, 3) := by decide +kernel
theorem dX12_key_97 : decode cX12_key 97 = .ok (.aload_n 0, 1) := by decide +kernel
theorem dX12_key_98 : decode cX12_key 98 = .ok (.iload_n 3, 1) := by decide +kernel
theorem dX12_key_99 : decode cX12_key 99 = .ok (.bipush 14, 2) := by decide +kernel
theorem dX12_key_101 : decode cX12_key 101 = .ok (.invokevirtual 593, 3) := by decide +kernel
theorem dX12_key_104 : decode cX12_key 104 = .ok (.i2l, 1) := by decide +kernel
theorem dX12_key_105 : decode cX12_key 105 = .ok (.goto 32, 3) := by decide +kernel
theorem dX12_key_108 : decode cX12_key 108 = .ok (.iload_n 2, 1) := by decide +kernel
theorem dX12_key_109 : decode cX12_key 109 = .ok (.iconst 4, 1) := by decide +kernel
theorem dX12_key_110 : decode cX12_key 110 = .ok (.if_icmp .ne 13, 3) := by decide +kernel
theorem dX12_key_113 : decode cX12_key 113 = .ok (.aload_n 0, 1) := by decide +kernel
theorem dX12_key_114 : decode cX12_key 114 = .ok (.iload_n 3, 1) := by decide +kernel
theorem dX12_key_115 : decode cX12_key 115 = .ok (.iconst 2, 1) := by decide +kernel
theorem dX12_key_116 : decode cX12_key 116 = .ok (.invokevirtual 593, 3) := by decide +kernel
theorem dX12_key_119 : decode cX12_key 119 = .ok (.i2l, 1) := by decide +kernel
theorem dX12_key_120 : decode cX12_key 120 = .ok (.goto 17, 3) := by decide +kernel
theorem dX12_key_123 : decode cX12_key 123 = .ok (.aload_n 0, 1) := by decide +kernel
theorem dX12_key_124 : decode cX12_key 124 = .ok (.getfield 28, 3) := by decide +kernel
theorem dX12_key_127 : decode cX12_key 127 = .ok (.iload_n 3, 1) := by decide +kernel
theorem dX12_key_128 : decode cX12_key 128 = .ok (.aaload, 1) := by decide +kernel
theorem dX12_key_129 : decode cX12_key 129 = .ok (.ifnull 7, 3) := by decide +kernel
theorem dX12_key_132 : decode cX12_key 132 = .ok (.lconst 1, 1) := by decide +kernel
theorem dX12_key_133 : decode cX12_key 133 = .ok (.goto 4, 3) := by decide +kernel
theorem dX12_key_136 : decode cX12_key 136 = .ok (.lconst 0, 1) := by decide +kernel
theorem dX12_key_137 : decode cX12_key 137 = .ok (.lreturn, 1) := by decide +kernel
theorem dX12_thingOf_0 : decode cX12_thingOf 0 = .ok (.aload_n 0, 1) := by decide +kernel
theorem dX12_thingOf_1 : decode cX12_thingOf 1 = .ok (.iload_n 1, 1) := by decide +kernel
theorem dX12_thingOf_2 : decode cX12_thingOf 2 = .ok (.invokevirtual 590, 3) := by decide +kernel
theorem dX12_thingOf_5 : decode cX12_thingOf 5 = .ok (.istore_n 3, 1) := by decide +kernel
theorem dX12_thingOf_6 : decode cX12_thingOf 6 = .ok (.iload_n 3, 1) := by decide +kernel
theorem dX12_thingOf_7 : decode cX12_thingOf 7 = .ok (.iconst (-1), 1) := by decide +kernel
theorem dX12_thingOf_8 : decode cX12_thingOf 8 = .ok (.if_icmp .ne 7, 3) := by decide +kernel
theorem dX12_thingOf_11 : decode cX12_thingOf 11 = .ok (.iconst (-1), 1) := by decide +kernel
theorem dX12_thingOf_12 : decode cX12_thingOf 12 = .ok (.goto 9, 3) := by decide +kernel
theorem dX12_thingOf_15 : decode cX12_thingOf 15 = .ok (.aload_n 0, 1) := by decide +kernel
theorem dX12_thingOf_16 : decode cX12_thingOf 16 = .ok (.iload_n 3, 1) := by decide +kernel
theorem dX12_thingOf_17 : decode cX12_thingOf 17 = .ok (.iload_n 2, 1) := by decide +kernel
theorem dX12_thingOf_18 : decode cX12_thingOf 18 = .ok (.invokevirtual 596, 3) := by decide +kernel
theorem dX12_thingOf_21 : decode cX12_thingOf 21 = .ok (.ireturn, 1) := by decide +kernel
theorem dX12_print_0 : decode cX12_print 0 = .ok (.aload_n 0, 1) := by decide +kernel
theorem dX12_print_1 : decode cX12_print 1 = .ok (.iload_n 1, 1) := by decide +kernel
theorem dX12_print_2 : decode cX12_print 2 = .ok (.iload_n 2, 1) := by decide +kernel
theorem dX12_print_3 : decode cX12_print 3 = .ok (.invokevirtual 599, 3) := by decide +kernel
theorem dX12_print_6 : decode cX12_print 6 = .ok (.istore 4, 2) := by decide +kernel
theorem dX12_print_8 : decode cX12_print 8 = .ok (.aload_n 0, 1) := by decide +kernel
theorem dX12_print_9 : decode cX12_print 9 = .ok (.iload 4, 2) := by decide +kernel
theorem dX12_print_11 : decode cX12_print 11 = .ok (.iconst (-1), 1) := by decide +kernel
theorem dX12_print_12 : decode cX12_print 12 = .ok (.if_icmp .eq 13, 3) := by decide +kernel
theorem dX12_print_15 : decode cX12_print 15 = .ok (.iload_n 3, 1) := by decide +kernel
theorem dX12_print_16 : decode cX12_print 16 = .ok (.ifCond .lt 9, 3) := by decide +kernel
theorem dX12_print_19 : decode cX12_print 19 = .ok (.iload_n 3, 1) := by decide +kernel
theorem dX12_print_20 : decode cX12_print 20 = .ok (.bipush 19, 2) := by decide +kernel
theorem dX12_print_22 : decode cX12_print 22 = .ok (.if_icmp .le 7, 3) := by decide +kernel
theorem dX12_print_25 : decode cX12_print 25 = .ok (.iconst 1, 1) := by decide +kernel
theorem dX12_print_26 : decode cX12_print 26 = .ok (.goto 4, 3) := by decide +kernel
theorem dX12_print_29 : decode cX12_print 29 = .ok (.iconst 0, 1) := by decide +kernel
theorem dX12_print_30 : decode cX12_print 30 = .ok (.putfield 78, 3) := by decide +kernel
theorem dX12_print_33 : decode cX12_print 33 = .ok (.aload_n 0, 1) := by decide +kernel
theorem dX12_print_34 : decode cX12_print 34 = .ok (.getfield 78, 3) := by decide +kernel
theorem dX12_print_37 : decode cX12_print 37 = .ok (.ifCond .le 7, 3) := by decide +kernel
theorem dX12_print_40 : decode cX12_print 40 = .ok (.iconst 0, 1) := by decide +kernel
theorem dX12_print_41 : decode cX12_print 41 = .ok (.goto 16, 3) := by decide +kernel
theorem dX12_print_44 : decode cX12_print 44 = .ok (.aload_n 0, 1) := by decide +kernel
theorem dX12_print_45 : decode cX12_print 45 = .ok (.aload_n 0, 1) := by decide +kernel
theorem dX12_print_46 : decode cX12_print 46 = .ok (.getfield 24, 3) := by decide +kernel
theorem dX12_print_49 : decode cX12_print 49 = .ok (.iload 4, 2) := by decide +kernel
theorem dX12_print_51 : decode cX12_print 51 = .ok (.aaload, 1) := by decide +kernel
theorem dX12_print_52 : decode cX12_print 52 = .ok (.invokevirtual 431, 3) := by decide +kernel
theorem dX12_print_55 : decode cX12_print 55 = .ok (.iload_n 3, 1) := by decide +kernel
theorem dX12_print_56 : decode cX12_print 56 = .ok (.iaload, 1) := by decide +kernel
theorem dX12_print_57 : decode cX12_print 57 = .ok (.ireturn, 1) := by decide +kernel
theorem dX12_usable_0 : decode cX12_usable 0 = .ok (.aload_n 0, 1) := by decide +kernel
theorem dX12_usable_1 : decode cX12_usable 1 = .ok (.iload_n 1, 1) := by decide +kernel
theorem dX12_usable_2 : decode cX12_usable 2 = .ok (.iload_n 2, 1) := by decide +kernel
theorem dX12_usable_3 : decode cX12_usable 3 = .ok (.invokevirtual 599, 3) := by decide +kernel
theorem dX12_usable_6 : decode cX12_usable 6 = .ok (.istore 5, 2) := by decide +kernel
theorem dX12_usable_8 : decode cX12_usable 8 = .ok (.aload_n 0, 1) := by decide +kernel
theorem dX12_usable_9 : decode cX12_usable 9 = .ok (.iload 5, 2) := by decide +kernel
theorem dX12_usable_11 : decode cX12_usable 11 = .ok (.iconst (-1), 1) := by decide +kernel
theorem dX12_usable_12 : decode cX12_usable 12 = .ok (.if_icmp .ne 7, 3) := by decide +kernel
theorem dX12_usable_15 : decode cX12_usable 15 = .ok (.iconst 1, 1) := by decide +kernel
theorem dX12_usable_16 : decode cX12_usable 16 = .ok (.goto 15, 3) := by decide +kernel
theorem dX12_usable_19 : decode cX12_usable 19 = .ok (.lload_n 3, 1) := by decide +kernel
theorem dX12_usable_20 : decode cX12_usable 20 = .ok (.invokestatic 573, 3) := by decide +kernel
theorem dX12_usable_23 : decode cX12_usable 23 = .ok (.ifCond .ne 7, 3) := by decide +kernel
theorem dX12_usable_26 : decode cX12_usable 26 = .ok (.iconst 2, 1) := by decide +kernel
theorem dX12_usable_27 : decode cX12_usable 27 = .ok (.goto 4, 3) := by decide +kernel
theorem dX12_usable_30 : decode cX12_usable 30 = .ok (.iconst 0, 1) := by decide +kernel
theorem dX12_usable_31 : decode cX12_usable 31 = .ok (.putfield 78, 3) := by decide +kernel
theorem dX12_usable_34 : decode cX12_usable 34 = .ok (.aload_n 0, 1) := by decide +kernel
theorem dX12_usable_35 : decode cX12_usable 35 = .ok (.getfield 78, 3) := by decide +kernel
theorem dX12_usable_38 : decode cX12_usable 38 = .ok (.ifCond .le 7, 3) := by decide +kernel
theorem dX12_usable_41 : decode cX12_usable 41 = .ok (.iconst 0, 1) := by decide +kernel
theorem dX12_usable_42 : decode cX12_usable 42 = .ok (.goto 15, 3) := by decide +kernel
theorem dX12_usable_45 : decode cX12_usable 45 = .ok (.aload_n 0, 1) := by decide +kernel
theorem dX12_usable_46 : decode cX12_usable 46 = .ok (.aload_n 0, 1) := by decide +kernel
theorem dX12_usable_47 : decode cX12_usable 47 = .ok (.iload_n 1, 1) := by decide +kernel
theorem dX12_usable_48 : decode cX12_usable 48 = .ok (.invokevirtual 590, 3) := by decide +kernel
theorem dX12_usable_51 : decode cX12_usable 51 = .ok (.iload 5, 2) := by decide +kernel
theorem dX12_usable_53 : decode cX12_usable 53 = .ok (.lload_n 3, 1) := by decide +kernel
theorem dX12_usable_54 : decode cX12_usable 54 = .ok (.invokevirtual 586, 3) := by decide +kernel
theorem dX12_usable_57 : decode cX12_usable 57 = .ok (.ireturn, 1) := by decide +kernel
theorem dX12_put_0 : decode cX12_put 0 = .ok (.aload_n 0, 1) := by decide +kernel
theorem dX12_put_1 : decode cX12_put 1 = .ok (.getfield 17, 3) := by decide +kernel
theorem dX12_put_4 : decode cX12_put 4 = .ok (.aload_n 0, 1) := by decide +kernel
theorem dX12_put_5 : decode cX12_put 5 = .ok (.getfield 602, 3) := by decide +kernel
theorem dX12_put_8 : decode cX12_put 8 = .ok (.iload_n 1, 1) := by decide +kernel
theorem dX12_put_9 : decode cX12_put 9 = .ok (.sipush 255, 3) := by decide +kernel
theorem dX12_put_12 : decode cX12_put 12 = .ok (.iand, 1) := by decide +kernel
theorem dX12_put_13 : decode cX12_put 13 = .ok (.iastore, 1) := by decide +kernel
theorem dX12_put_14 : decode cX12_put 14 = .ok (.aload_n 0, 1) := by decide +kernel
theorem dX12_put_15 : decode cX12_put 15 = .ok (.dup, 1) := by decide +kernel
theorem dX12_put_16 : decode cX12_put 16 = .ok (.getfield 602, 3) := by decide +kernel
theorem dX12_put_19 : decode cX12_put 19 = .ok (.iconst 1, 1) := by decide +kernel
theorem dX12_put_20 : decode cX12_put 20 = .ok (.iadd, 1) := by decide +kernel
theorem dX12_put_21 : decode cX12_put 21 = .ok (.putfield 602, 3) := by decide +kernel
theorem dX12_put_24 : decode cX12_put 24 = .ok (.return_, 1) := by decide +kernel
theorem dX12_putText_0 : decode cX12_putText 0 = .ok (.iconst 0, 1) := by decide +kernel
theorem dX12_putText_1 : decode cX12_putText 1 = .ok (.istore_n 2, 1) := by decide +kernel
theorem dX12_putText_2 : decode cX12_putText 2 = .ok (.iload_n 2, 1) := by decide +kernel
theorem dX12_putText_3 : decode cX12_putText 3 = .ok (.aload_n 1, 1) := by decide +kernel
theorem dX12_putText_4 : decode cX12_putText 4 = .ok (.invokevirtual 210, 3) := by decide +kernel
theorem dX12_putText_7 : decode cX12_putText 7 = .ok (.if_icmp .ge 18, 3) := by decide +kernel
theorem dX12_putText_10 : decode cX12_putText 10 = .ok (.aload_n 0, 1) := by decide +kernel
theorem dX12_putText_11 : decode cX12_putText 11 = .ok (.aload_n 1, 1) := by decide +kernel
theorem dX12_putText_12 : decode cX12_putText 12 = .ok (.iload_n 2, 1) := by decide +kernel
theorem dX12_putText_13 : decode cX12_putText 13 = .ok (.invokevirtual 215, 3) := by decide +kernel
theorem dX12_putText_16 : decode cX12_putText 16 = .ok (.invokevirtual 605, 3) := by decide +kernel
theorem dX12_putText_19 : decode cX12_putText 19 = .ok (.iinc 2 1, 3) := by decide +kernel
theorem dX12_putText_22 : decode cX12_putText 22 = .ok (.goto (-20), 3) := by decide +kernel
theorem dX12_putText_25 : decode cX12_putText 25 = .ok (.return_, 1) := by decide +kernel
theorem dX12_seal_0 : decode cX12_seal 0 = .ok (.aload_n 0, 1) := by decide +kernel
theorem dX12_seal_1 : decode cX12_seal 1 = .ok (.iload_n 1, 1) := by decide +kernel
theorem dX12_seal_2 : decode cX12_seal 2 = .ok (.iload_n 2, 1) := by decide +kernel
theorem dX12_seal_3 : decode cX12_seal 3 = .ok (.invokevirtual 599, 3) := by decide +kernel
theorem dX12_seal_6 : decode cX12_seal 6 = .ok (.istore 6, 2) := by decide +kernel
theorem dX12_seal_8 : decode cX12_seal 8 = .ok (.aload_n 0, 1) := by decide +kernel
theorem dX12_seal_9 : decode cX12_seal 9 = .ok (.iload 6, 2) := by decide +kernel
theorem dX12_seal_11 : decode cX12_seal 11 = .ok (.iconst (-1), 1) := by decide +kernel
theorem dX12_seal_12 : decode cX12_seal 12 = .ok (.if_icmp .ne 7, 3) := by decide +kernel
theorem dX12_seal_15 : decode cX12_seal 15 = .ok (.iconst 1, 1) := by decide +kernel
theorem dX12_seal_16 : decode cX12_seal 16 = .ok (.goto 39, 3) := by decide +kernel
theorem dX12_seal_19 : decode cX12_seal 19 = .ok (.lload 4, 2) := by decide +kernel
theorem dX12_seal_21 : decode cX12_seal 21 = .ok (.invokestatic 573, 3) := by decide +kernel
theorem dX12_seal_24 : decode cX12_seal 24 = .ok (.ifCond .eq 12, 3) := by decide +kernel
theorem dX12_seal_27 : decode cX12_seal 27 = .ok (.iload_n 3, 1) := by decide +kernel
theorem dX12_seal_28 : decode cX12_seal 28 = .ok (.ifCond .lt 8, 3) := by decide +kernel
theorem dX12_seal_31 : decode cX12_seal 31 = .ok (.iload_n 3, 1) := by decide +kernel
theorem dX12_seal_32 : decode cX12_seal 32 = .ok (.iconst 3, 1) := by decide +kernel
theorem dX12_seal_33 : decode cX12_seal 33 = .ok (.if_icmp .le 7, 3) := by decide +kernel
theorem dX12_seal_36 : decode cX12_seal 36 = .ok (.iconst 2, 1) := by decide +kernel
theorem dX12_seal_37 : decode cX12_seal 37 = .ok (.goto 18, 3) := by decide +kernel
theorem dX12_seal_40 : decode cX12_seal 40 = .ok (.aload_n 0, 1) := by decide +kernel
theorem dX12_seal_41 : decode cX12_seal 41 = .ok (.getfield 28, 3) := by decide +kernel
theorem dX12_seal_44 : decode cX12_seal 44 = .ok (.iload 6, 2) := by decide +kernel
theorem dX12_seal_46 : decode cX12_seal 46 = .ok (.aaload, 1) := by decide +kernel
theorem dX12_seal_47 : decode cX12_seal 47 = .ok (.ifnonnull 7, 3) := by decide +kernel
theorem dX12_seal_50 : decode cX12_seal 50 = .ok (.iconst 3, 1) := by decide +kernel
theorem dX12_seal_51 : decode cX12_seal 51 = .ok (.goto 4, 3) := by decide +kernel
theorem dX12_seal_54 : decode cX12_seal 54 = .ok (.iconst 0, 1) := by decide +kernel
theorem dX12_seal_55 : decode cX12_seal 55 = .ok (.putfield 78, 3) := by decide +kernel
theorem dX12_seal_58 : decode cX12_seal 58 = .ok (.aload_n 0, 1) := by decide +kernel
theorem dX12_seal_59 : decode cX12_seal 59 = .ok (.getfield 78, 3) := by decide +kernel
theorem dX12_seal_62 : decode cX12_seal 62 = .ok (.ifCond .le 5, 3) := by decide +kernel
theorem dX12_seal_65 : decode cX12_seal 65 = .ok (.iconst 0, 1) := by decide +kernel
theorem dX12_seal_66 : decode cX12_seal 66 = .ok (.ireturn, 1) := by decide +kernel
theorem dX12_seal_67 : decode cX12_seal 67 = .ok (.aload_n 0, 1) := by decide +kernel
theorem dX12_seal_68 : decode cX12_seal 68 = .ok (.iconst 0, 1) := by decide +kernel
theorem dX12_seal_69 : decode cX12_seal 69 = .ok (.putfield 602, 3) := by decide +kernel
theorem dX12_seal_72 : decode cX12_seal 72 = .ok (.iload_n 3, 1) := by decide +kernel
theorem dX12_seal_73 : decode cX12_seal 73 = .ok (.iconst 3, 1) := by decide +kernel
theorem dX12_seal_74 : decode cX12_seal 74 = .ok (.if_icmp .ne 16, 3) := by decide +kernel
theorem dX12_seal_77 : decode cX12_seal 77 = .ok (.aload_n 0, 1) := by decide +kernel
theorem dX12_seal_78 : decode cX12_seal 78 = .ok (.iload 6, 2) := by decide +kernel
theorem dX12_seal_80 : decode cX12_seal 80 = .ok (.lload 4, 2) := by decide +kernel
theorem dX12_seal_82 : decode cX12_seal 82 = .ok (.invokevirtual 636, 3) := by decide +kernel
theorem dX12_seal_85 : decode cX12_seal 85 = .ok (.aload_n 0, 1) := by decide +kernel
theorem dX12_seal_86 : decode cX12_seal 86 = .ok (.getfield 602, 3) := by decide +kernel
theorem dX12_seal_89 : decode cX12_seal 89 = .ok (.ireturn, 1) := by decide +kernel
theorem dX12_seal_90 : decode cX12_seal 90 = .ok (.iload_n 3, 1) := by decide +kernel
theorem dX12_seal_91 : decode cX12_seal 91 = .ok (.iconst 2, 1) := by decide +kernel
theorem dX12_seal_92 : decode cX12_seal 92 = .ok (.if_icmp .ne 181, 3) := by decide +kernel
theorem dX12_seal_95 : decode cX12_seal 95 = .ok (.aload_n 0, 1) := by decide +kernel
theorem dX12_seal_96 : decode cX12_seal 96 = .ok (.aload_n 0, 1) := by decide +kernel
theorem dX12_seal_97 : decode cX12_seal 97 = .ok (.getfield 24, 3) := by decide +kernel
theorem dX12_seal_100 : decode cX12_seal 100 = .ok (.iload 6, 2) := by decide +kernel
theorem dX12_seal_102 : decode cX12_seal 102 = .ok (.aaload, 1) := by decide +kernel
theorem dX12_seal_103 : decode cX12_seal 103 = .ok (.invokevirtual 431, 3) := by decide +kernel
theorem dX12_seal_106 : decode cX12_seal 106 = .ok (.astore 7, 2) := by decide +kernel
theorem dX12_seal_108 : decode cX12_seal 108 = .ok (.bipush 13, 2) := by decide +kernel
theorem dX12_seal_110 : decode cX12_seal 110 = .ok (.newarray .int, 2) := by decide +kernel
theorem dX12_seal_112 : decode cX12_seal 112 = .ok (.dup, 1) := by decide +kernel
theorem dX12_seal_113 : decode cX12_seal 113 = .ok (.iconst 0, 1) := by decide +kernel
theorem dX12_seal_114 : decode cX12_seal 114 = .ok (.iconst 3, 1) := by decide +kernel
theorem dX12_seal_115 : decode cX12_seal 115 = .ok (.iastore, 1) := by decide +kernel
theorem dX12_seal_116 : decode cX12_seal 116 = .ok (.dup, 1) := by decide +kernel
theorem dX12_seal_117 : decode cX12_seal 117 = .ok (.iconst 1, 1) := by decide +kernel
theorem dX12_seal_118 : decode cX12_seal 118 = .ok (.iconst 0, 1) := by decide +kernel
theorem dX12_seal_119 : decode cX12_seal 119 = .ok (.iastore, 1) := by decide +kernel
theorem dX12_seal_120 : decode cX12_seal 120 = .ok (.dup, 1) := by decide +kernel
theorem dX12_seal_121 : decode cX12_seal 121 = .ok (.iconst 2, 1) := by decide +kernel
theorem dX12_seal_122 : decode cX12_seal 122 = .ok (.bipush 8, 2) := by decide +kernel
theorem dX12_seal_124 : decode cX12_seal 124 = .ok (.iastore, 1) := by decide +kernel
theorem dX12_seal_125 : decode cX12_seal 125 = .ok (.dup, 1) := by decide +kernel
theorem dX12_seal_126 : decode cX12_seal 126 = .ok (.iconst 3, 1) := by decide +kernel
theorem dX12_seal_127 : decode cX12_seal 127 = .ok (.iconst 1, 1) := by decide +kernel
theorem dX12_seal_128 : decode cX12_seal 128 = .ok (.iastore, 1) := by decide +kernel
theorem dX12_seal_129 : decode cX12_seal 129 = .ok (.dup, 1) := by decide +kernel
theorem dX12_seal_130 : decode cX12_seal 130 = .ok (.iconst 4, 1) := by decide +kernel
theorem dX12_seal_131 : decode cX12_seal 131 = .ok (.aload 7, 2) := by decide +kernel
theorem dX12_seal_133 : decode cX12_seal 133 = .ok (.bipush 12, 2) := by decide +kernel
theorem dX12_seal_135 : decode cX12_seal 135 = .ok (.iaload, 1) := by decide +kernel
theorem dX12_seal_136 : decode cX12_seal 136 = .ok (.iastore, 1) := by decide +kernel
theorem dX12_seal_137 : decode cX12_seal 137 = .ok (.dup, 1) := by decide +kernel
theorem dX12_seal_138 : decode cX12_seal 138 = .ok (.iconst 5, 1) := by decide +kernel
theorem dX12_seal_139 : decode cX12_seal 139 = .ok (.aload 7, 2) := by decide +kernel
theorem dX12_seal_141 : decode cX12_seal 141 = .ok (.bipush 13, 2) := by decide +kernel
theorem dX12_seal_143 : decode cX12_seal 143 = .ok (.iaload, 1) := by decide +kernel
theorem dX12_seal_144 : decode cX12_seal 144 = .ok (.iastore, 1) := by decide +kernel
theorem dX12_seal_145 : decode cX12_seal 145 = .ok (.dup, 1) := by decide +kernel
theorem dX12_seal_146 : decode cX12_seal 146 = .ok (.bipush 6, 2) := by decide +kernel
theorem dX12_seal_148 : decode cX12_seal 148 = .ok (.aload 7, 2) := by decide +kernel
theorem dX12_seal_150 : decode cX12_seal 150 = .ok (.bipush 14, 2) := by decide +kernel
theorem dX12_seal_152 : decode cX12_seal 152 = .ok (.iaload, 1) := by decide +kernel
theorem dX12_seal_153 : decode cX12_seal 153 = .ok (.iastore, 1) := by decide +kernel
theorem dX12_seal_154 : decode cX12_seal 154 = .ok (.dup, 1) := by decide +kernel
theorem dX12_seal_155 : decode cX12_seal 155 = .ok (.bipush 7, 2) := by decide +kernel
theorem dX12_seal_157 : decode cX12_seal 157 = .ok (.aload 7, 2) := by decide +kernel
theorem dX12_seal_159 : decode cX12_seal 159 = .ok (.bipush 15, 2) := by decide +kernel
theorem dX12_seal_161 : decode cX12_seal 161 = .ok (.iaload, 1) := by decide +kernel
theorem dX12_seal_162 : decode cX12_seal 162 = .ok (.iastore, 1) := by decide +kernel
theorem dX12_seal_163 : decode cX12_seal 163 = .ok (.dup, 1) := by decide +kernel
theorem dX12_seal_164 : decode cX12_seal 164 = .ok (.bipush 8, 2) := by decide +kernel
theorem dX12_seal_166 : decode cX12_seal 166 = .ok (.aload 7, 2) := by decide +kernel
theorem dX12_seal_168 : decode cX12_seal 168 = .ok (.bipush 16, 2) := by decide +kernel
theorem dX12_seal_170 : decode cX12_seal 170 = .ok (.iaload, 1) := by decide +kernel
theorem dX12_seal_171 : decode cX12_seal 171 = .ok (.iastore, 1) := by decide +kernel
theorem dX12_seal_172 : decode cX12_seal 172 = .ok (.dup, 1) := by decide +kernel
theorem dX12_seal_173 : decode cX12_seal 173 = .ok (.bipush 9, 2) := by decide +kernel
theorem dX12_seal_175 : decode cX12_seal 175 = .ok (.aload 7, 2) := by decide +kernel
theorem dX12_seal_177 : decode cX12_seal 177 = .ok (.bipush 17, 2) := by decide +kernel
theorem dX12_seal_179 : decode cX12_seal 179 = .ok (.iaload, 1) := by decide +kernel
theorem dX12_seal_180 : decode cX12_seal 180 = .ok (.iastore, 1) := by decide +kernel
theorem dX12_seal_181 : decode cX12_seal 181 = .ok (.dup, 1) := by decide +kernel
theorem dX12_seal_182 : decode cX12_seal 182 = .ok (.bipush 10, 2) := by decide +kernel
theorem dX12_seal_184 : decode cX12_seal 184 = .ok (.aload 7, 2) := by decide +kernel
theorem dX12_seal_186 : decode cX12_seal 186 = .ok (.bipush 18, 2) := by decide +kernel
theorem dX12_seal_188 : decode cX12_seal 188 = .ok (.iaload, 1) := by decide +kernel
theorem dX12_seal_189 : decode cX12_seal 189 = .ok (.iastore, 1) := by decide +kernel
theorem dX12_seal_190 : decode cX12_seal 190 = .ok (.dup, 1) := by decide +kernel
theorem dX12_seal_191 : decode cX12_seal 191 = .ok (.bipush 11, 2) := by decide +kernel
theorem dX12_seal_193 : decode cX12_seal 193 = .ok (.aload 7, 2) := by decide +kernel
theorem dX12_seal_195 : decode cX12_seal 195 = .ok (.bipush 19, 2) := by decide +kernel
theorem dX12_seal_197 : decode cX12_seal 197 = .ok (.iaload, 1) := by decide +kernel
theorem dX12_seal_198 : decode cX12_seal 198 = .ok (.iastore, 1) := by decide +kernel
theorem dX12_seal_199 : decode cX12_seal 199 = .ok (.dup, 1) := by decide +kernel
theorem dX12_seal_200 : decode cX12_seal 200 = .ok (.bipush 12, 2) := by decide +kernel
theorem dX12_seal_202 : decode cX12_seal 202 = .ok (.iconst 1, 1) := by decide +kernel
theorem dX12_seal_203 : decode cX12_seal 203 = .ok (.iastore, 1) := by decide +kernel
theorem dX12_seal_204 : decode cX12_seal 204 = .ok (.astore 8, 2) := by decide +kernel
theorem dX12_seal_206 : decode cX12_seal 206 = .ok (.aload_n 0, 1) := by decide +kernel
theorem dX12_seal_207 : decode cX12_seal 207 = .ok (.iconst 4, 1) := by decide +kernel
theorem dX12_seal_208 : decode cX12_seal 208 = .ok (.aload 8, 2) := by decide +kernel
theorem dX12_seal_210 : decode cX12_seal 210 = .ok (.invokevirtual 628, 3) := by decide +kernel
theorem dX12_seal_213 : decode cX12_seal 213 = .ok (.aload_n 0, 1) := by decide +kernel
theorem dX12_seal_214 : decode cX12_seal 214 = .ok (.getfield 13, 3) := by decide +kernel
theorem dX12_seal_217 : decode cX12_seal 217 = .ok (.arraylength, 1) := by decide +kernel
theorem dX12_seal_218 : decode cX12_seal 218 = .ok (.bipush 6, 2) := by decide +kernel
theorem dX12_seal_220 : decode cX12_seal 220 = .ok (.iadd, 1) := by decide +kernel
theorem dX12_seal_221 : decode cX12_seal 221 = .ok (.newarray .int, 2) := by decide +kernel
theorem dX12_seal_223 : decode cX12_seal 223 = .ok (.astore 9, 2) := by decide +kernel
theorem dX12_seal_225 : decode cX12_seal 225 = .ok (.aload 9, 2) := by decide +kernel
theorem dX12_seal_227 : decode cX12_seal 227 = .ok (.iconst 0, 1) := by decide +kernel
theorem dX12_seal_228 : decode cX12_seal 228 = .ok (.bipush 98, 2) := by decide +kernel
theorem dX12_seal_230 : decode cX12_seal 230 = .ok (.iastore, 1) := by decide +kernel
theorem dX12_seal_231 : decode cX12_seal 231 = .ok (.iconst 0, 1) := by decide +kernel
theorem dX12_seal_232 : decode cX12_seal 232 = .ok (.istore 10, 2) := by decide +kernel
theorem dX12_seal_234 : decode cX12_seal 234 = .ok (.iload 10, 2) := by decide +kernel
theorem dX12_seal_236 : decode cX12_seal 236 = .ok (.aload_n 0, 1) := by decide +kernel
theorem dX12_seal_237 : decode cX12_seal 237 = .ok (.getfield 13, 3) := by decide +kernel
theorem dX12_seal_240 : decode cX12_seal 240 = .ok (.arraylength, 1) := by decide +kernel
theorem dX12_seal_241 : decode cX12_seal 241 = .ok (.if_icmp .ge 24, 3) := by decide +kernel
theorem dX12_seal_244 : decode cX12_seal 244 = .ok (.aload 9, 2) := by decide +kernel
theorem dX12_seal_246 : decode cX12_seal 246 = .ok (.bipush 6, 2) := by decide +kernel
theorem dX12_seal_248 : decode cX12_seal 248 = .ok (.iload 10, 2) := by decide +kernel
theorem dX12_seal_250 : decode cX12_seal 250 = .ok (.iadd, 1) := by decide +kernel
theorem dX12_seal_251 : decode cX12_seal 251 = .ok (.aload_n 0, 1) := by decide +kernel
theorem dX12_seal_252 : decode cX12_seal 252 = .ok (.getfield 13, 3) := by decide +kernel
theorem dX12_seal_255 : decode cX12_seal 255 = .ok (.iload 10, 2) := by decide +kernel
theorem dX12_seal_257 : decode cX12_seal 257 = .ok (.iaload, 1) := by decide +kernel
theorem dX12_seal_258 : decode cX12_seal 258 = .ok (.iastore, 1) := by decide +kernel
theorem dX12_seal_259 : decode cX12_seal 259 = .ok (.iinc 10 1, 3) := by decide +kernel
theorem dX12_seal_262 : decode cX12_seal 262 = .ok (.goto (-28), 3) := by decide +kernel
theorem dX12_seal_265 : decode cX12_seal 265 = .ok (.aload_n 0, 1) := by decide +kernel
theorem dX12_seal_266 : decode cX12_seal 266 = .ok (.bipush 11, 2) := by decide +kernel
theorem dX12_seal_268 : decode cX12_seal 268 = .ok (.aload 9, 2) := by decide +kernel
theorem dX12_seal_270 : decode cX12_seal 270 = .ok (.invokevirtual 628, 3) := by decide +kernel
theorem dX12_seal_273 : decode cX12_seal 273 = .ok (.aload_n 0, 1) := by decide +kernel
theorem dX12_seal_274 : decode cX12_seal 274 = .ok (.iconst 2, 1) := by decide +kernel
theorem dX12_seal_275 : decode cX12_seal 275 = .ok (.aload_n 0, 1) := by decide +kernel
theorem dX12_seal_276 : decode cX12_seal 276 = .ok (.iload 6, 2) := by decide +kernel
theorem dX12_seal_278 : decode cX12_seal 278 = .ok (.iload_n 3, 1) := by decide +kernel
theorem dX12_seal_279 : decode cX12_seal 279 = .ok (.iconst 1, 1) := by decide +kernel
theorem dX12_seal_280 : decode cX12_seal 280 = .ok (.if_icmp .ne 7, 3) := by decide +kernel
theorem dX12_seal_283 : decode cX12_seal 283 = .ok (.iconst 1, 1) := by decide +kernel
theorem dX12_seal_284 : decode cX12_seal 284 = .ok (.goto 4, 3) := by decide +kernel
theorem dX12_seal_287 : decode cX12_seal 287 = .ok (.iconst 0, 1) := by decide +kernel
theorem dX12_seal_288 : decode cX12_seal 288 = .ok (.aload_n 0, 1) := by decide +kernel
theorem dX12_seal_289 : decode cX12_seal 289 = .ok (.getfield 13, 3) := by decide +kernel
theorem dX12_seal_292 : decode cX12_seal 292 = .ok (.lload 4, 2) := by decide +kernel
theorem dX12_seal_294 : decode cX12_seal 294 = .ok (.invokevirtual 624, 3) := by decide +kernel
theorem dX12_seal_297 : decode cX12_seal 297 = .ok (.invokevirtual 628, 3) := by decide +kernel
theorem dX12_seal_300 : decode cX12_seal 300 = .ok (.aload_n 0, 1) := by decide +kernel
theorem dX12_seal_301 : decode cX12_seal 301 = .ok (.getfield 602, 3) := by decide +kernel
theorem dX12_seal_304 : decode cX12_seal 304 = .ok (.ireturn, 1) := by decide +kernel
theorem dX12_export_0 : decode cX12_export 0 = .ok (.aload_n 0, 1) := by decide +kernel
theorem dX12_export_1 : decode cX12_export 1 = .ok (.iload_n 1, 1) := by decide +kernel
theorem dX12_export_2 : decode cX12_export 2 = .ok (.invokevirtual 590, 3) := by decide +kernel
theorem dX12_export_5 : decode cX12_export 5 = .ok (.istore_n 2, 1) := by decide +kernel
theorem dX12_export_6 : decode cX12_export 6 = .ok (.aload_n 0, 1) := by decide +kernel
theorem dX12_export_7 : decode cX12_export 7 = .ok (.iload_n 2, 1) := by decide +kernel
theorem dX12_export_8 : decode cX12_export 8 = .ok (.iconst (-1), 1) := by decide +kernel
theorem dX12_export_9 : decode cX12_export 9 = .ok (.if_icmp .ne 7, 3) := by decide +kernel
theorem dX12_export_12 : decode cX12_export 12 = .ok (.iconst 1, 1) := by decide +kernel
theorem dX12_export_13 : decode cX12_export 13 = .ok (.goto 4, 3) := by decide +kernel
theorem dX12_export_16 : decode cX12_export 16 = .ok (.iconst 0, 1) := by decide +kernel
theorem dX12_export_17 : decode cX12_export 17 = .ok (.putfield 78, 3) := by decide +kernel
theorem dX12_export_20 : decode cX12_export 20 = .ok (.aload_n 0, 1) := by decide +kernel
theorem dX12_export_21 : decode cX12_export 21 = .ok (.getfield 78, 3) := by decide +kernel
theorem dX12_export_24 : decode cX12_export 24 = .ok (.ifCond .le 5, 3) := by decide +kernel
theorem dX12_export_27 : decode cX12_export 27 = .ok (.iconst 0, 1) := by decide +kernel
theorem dX12_export_28 : decode cX12_export 28 = .ok (.ireturn, 1) := by decide +kernel
theorem dX12_export_29 : decode cX12_export 29 = .ok (.aload_n 0, 1) := by decide +kernel
theorem dX12_export_30 : decode cX12_export 30 = .ok (.iconst 0, 1) := by decide +kernel
theorem dX12_export_31 : decode cX12_export 31 = .ok (.putfield 602, 3) := by decide +kernel
theorem dX12_export_34 : decode cX12_export 34 = .ok (.aload_n 0, 1) := by decide +kernel
theorem dX12_export_35 : decode cX12_export 35 = .ok (.iload_n 2, 1) := by decide +kernel
theorem dX12_export_36 : decode cX12_export 36 = .ok (.invokevirtual 503, 3) := by decide +kernel
theorem dX12_export_39 : decode cX12_export 39 = .ok (.istore_n 3, 1) := by decide +kernel
theorem dX12_export_40 : decode cX12_export 40 = .ok (.iload_n 2, 1) := by decide +kernel
theorem dX12_export_41 : decode cX12_export 41 = .ok (.istore 4, 2) := by decide +kernel
theorem dX12_export_43 : decode cX12_export 43 = .ok (.iload 4, 2) := by decide +kernel
theorem dX12_export_45 : decode cX12_export 45 = .ok (.iload_n 3, 1) := by decide +kernel
theorem dX12_export_46 : decode cX12_export 46 = .ok (.if_icmp .ge 27, 3) := by decide +kernel
theorem dX12_export_49 : decode cX12_export 49 = .ok (.aload_n 0, 1) := by decide +kernel
theorem dX12_export_50 : decode cX12_export 50 = .ok (.aload_n 0, 1) := by decide +kernel
theorem dX12_export_51 : decode cX12_export 51 = .ok (.getfield 20, 3) := by decide +kernel
theorem dX12_export_54 : decode cX12_export 54 = .ok (.iload 4, 2) := by decide +kernel
theorem dX12_export_56 : decode cX12_export 56 = .ok (.iaload, 1) := by decide +kernel
theorem dX12_export_57 : decode cX12_export 57 = .ok (.aload_n 0, 1) := by decide +kernel
theorem dX12_export_58 : decode cX12_export 58 = .ok (.getfield 24, 3) := by decide +kernel
theorem dX12_export_61 : decode cX12_export 61 = .ok (.iload 4, 2) := by decide +kernel
theorem dX12_export_63 : decode cX12_export 63 = .ok (.aaload, 1) := by decide +kernel
theorem dX12_export_64 : decode cX12_export 64 = .ok (.invokevirtual 628, 3) := by decide +kernel
theorem dX12_export_67 : decode cX12_export 67 = .ok (.iinc 4 1, 3) := by decide +kernel
theorem dX12_export_70 : decode cX12_export 70 = .ok (.goto (-27), 3) := by decide +kernel
theorem dX12_export_73 : decode cX12_export 73 = .ok (.aload_n 0, 1) := by decide +kernel
theorem dX12_export_74 : decode cX12_export 74 = .ok (.getfield 602, 3) := by decide +kernel
theorem dX12_export_77 : decode cX12_export 77 = .ok (.ireturn, 1) := by decide +kernel
theorem dX12_putSigns_0 : decode cX12_putSigns 0 = .ok (.aload_n 0, 1) := by decide +kernel
theorem dX12_putSigns_1 : decode cX12_putSigns 1 = .ok (.new 240, 3) := by decide +kernel
theorem dX12_putSigns_4 : decode cX12_putSigns 4 = .ok (.dup, 1) := by decide +kernel
theorem dX12_putSigns_5 : decode cX12_putSigns 5 = .ok (.invokespecial 242, 3) := by decide +kernel
theorem dX12_putSigns_8 : decode cX12_putSigns 8 = .ok (.ldc_w 259, 3) := by decide +kernel
theorem dX12_putSigns_11 : decode cX12_putSigns 11 = .ok (.invokevirtual 245, 3) := by decide +kernel
theorem dX12_putSigns_14 : decode cX12_putSigns 14 = .ok (.iload_n 2, 1) := by decide +kernel
theorem dX12_putSigns_15 : decode cX12_putSigns 15 = .ok (.invokestatic 261, 3) := by decide +kernel
theorem dX12_putSigns_18 : decode cX12_putSigns 18 = .ok (.invokevirtual 245, 3) := by decide +kernel
theorem dX12_putSigns_21 : decode cX12_putSigns 21 = .ok (.ldc 249, 2) := by decide +kernel
theorem dX12_putSigns_23 : decode cX12_putSigns 23 = .ok (.invokevirtual 245, 3) := by decide +kernel
theorem dX12_putSigns_26 : decode cX12_putSigns 26 = .ok (.invokevirtual 251, 3) := by decide +kernel
theorem dX12_putSigns_29 : decode cX12_putSigns 29 = .ok (.invokevirtual 616, 3) := by decide +kernel
theorem dX12_putSigns_32 : decode cX12_putSigns 32 = .ok (.aload_n 0, 1) := by decide +kernel
theorem dX12_putSigns_33 : decode cX12_putSigns 33 = .ok (.bipush 10, 2) := by decide +kernel
theorem dX12_putSigns_35 : decode cX12_putSigns 35 = .ok (.invokevirtual 605, 3) := by decide +kernel
theorem dX12_putSigns_38 : decode cX12_putSigns 38 = .ok (.aload_n 0, 1) := by decide +kernel
theorem dX12_putSigns_39 : decode cX12_putSigns 39 = .ok (.bipush 10, 2) := by decide +kernel
theorem dX12_putSigns_41 : decode cX12_putSigns 41 = .ok (.invokevirtual 605, 3) := by decide +kernel
theorem dX12_putSigns_44 : decode cX12_putSigns 44 = .ok (.iconst 4, 1) := by decide +kernel
theorem dX12_putSigns_45 : decode cX12_putSigns 45 = .ok (.aload_n 1, 1) := by decide +kernel
theorem dX12_putSigns_46 : decode cX12_putSigns 46 = .ok (.arraylength, 1) := by decide +kernel
theorem dX12_putSigns_47 : decode cX12_putSigns 47 = .ok (.iconst 2, 1) := by decide +kernel
theorem dX12_putSigns_48 : decode cX12_putSigns 48 = .ok (.iadd, 1) := by decide +kernel
theorem dX12_putSigns_49 : decode cX12_putSigns 49 = .ok (.iconst 3, 1) := by decide +kernel
theorem dX12_putSigns_50 : decode cX12_putSigns 50 = .ok (.idiv, 1) := by decide +kernel
theorem dX12_putSigns_51 : decode cX12_putSigns 51 = .ok (.imul, 1) := by decide +kernel
theorem dX12_putSigns_52 : decode cX12_putSigns 52 = .ok (.istore_n 3, 1) := by decide +kernel
theorem dX12_putSigns_53 : decode cX12_putSigns 53 = .ok (.iconst 0, 1) := by decide +kernel
theorem dX12_putSigns_54 : decode cX12_putSigns 54 = .ok (.istore 4, 2) := by decide +kernel
theorem dX12_putSigns_56 : decode cX12_putSigns 56 = .ok (.iload 4, 2) := by decide +kernel
theorem dX12_putSigns_58 : decode cX12_putSigns 58 = .ok (.iload_n 3, 1) := by decide +kernel
theorem dX12_putSigns_59 : decode cX12_putSigns 59 = .ok (.if_icmp .ge 130, 3) := by decide +kernel
theorem dX12_putSigns_62 : decode cX12_putSigns 62 = .ok (.bipush 6, 2) := by decide +kernel
theorem dX12_putSigns_64 : decode cX12_putSigns 64 = .ok (.iload 4, 2) := by decide +kernel
theorem dX12_putSigns_66 : decode cX12_putSigns 66 = .ok (.imul, 1) := by decide +kernel
theorem dX12_putSigns_67 : decode cX12_putSigns 67 = .ok (.bipush 8, 2) := by decide +kernel
theorem dX12_putSigns_69 : decode cX12_putSigns 69 = .ok (.irem, 1) := by decide +kernel
theorem dX12_putSigns_70 : decode cX12_putSigns 70 = .ok (.istore 5, 2) := by decide +kernel
theorem dX12_putSigns_72 : decode cX12_putSigns 72 = .ok (.bipush 6, 2) := by decide +kernel
theorem dX12_putSigns_74 : decode cX12_putSigns 74 = .ok (.iload 4, 2) := by decide +kernel
theorem dX12_putSigns_76 : decode cX12_putSigns 76 = .ok (.imul, 1) := by decide +kernel
theorem dX12_putSigns_77 : decode cX12_putSigns 77 = .ok (.bipush 8, 2) := by decide +kernel
theorem dX12_putSigns_79 : decode cX12_putSigns 79 = .ok (.idiv, 1) := by decide +kernel
theorem dX12_putSigns_80 : decode cX12_putSigns 80 = .ok (.istore 6, 2) := by decide +kernel
theorem dX12_putSigns_82 : decode cX12_putSigns 82 = .ok (.iload 6, 2) := by decide +kernel
theorem dX12_putSigns_84 : decode cX12_putSigns 84 = .ok (.aload_n 1, 1) := by decide +kernel
theorem dX12_putSigns_85 : decode cX12_putSigns 85 = .ok (.arraylength, 1) := by decide +kernel
theorem dX12_putSigns_86 : decode cX12_putSigns 86 = .ok (.if_icmp .ge 14, 3) := by decide +kernel
theorem dX12_putSigns_89 : decode cX12_putSigns 89 = .ok (.aload_n 1, 1) := by decide +kernel
theorem dX12_putSigns_90 : decode cX12_putSigns 90 = .ok (.iload 6, 2) := by decide +kernel
theorem dX12_putSigns_92 : decode cX12_putSigns 92 = .ok (.iaload, 1) := by decide +kernel
theorem dX12_putSigns_93 : decode cX12_putSigns 93 = .ok (.sipush 256, 3) := by decide +kernel
theorem dX12_putSigns_96 : decode cX12_putSigns 96 = .ok (.imul, 1) := by decide +kernel
theorem dX12_putSigns_97 : decode cX12_putSigns 97 = .ok (.goto 4, 3) := by decide +kernel
theorem dX12_putSigns_100 : decode cX12_putSigns 100 = .ok (.iconst 0, 1) := by decide +kernel
theorem dX12_putSigns_101 : decode cX12_putSigns 101 = .ok (.iload 6, 2) := by decide +kernel
theorem dX12_putSigns_103 : decode cX12_putSigns 103 = .ok (.iconst 1, 1) := by decide +kernel
theorem dX12_putSigns_104 : decode cX12_putSigns 104 = .ok (.iadd, 1) := by decide +kernel
theorem dX12_putSigns_105 : decode cX12_putSigns 105 = .ok (.aload_n 1, 1) := by decide +kernel
theorem dX12_putSigns_106 : decode cX12_putSigns 106 = .ok (.arraylength, 1) := by decide +kernel
theorem dX12_putSigns_107 : decode cX12_putSigns 107 = .ok (.if_icmp .ge 12, 3) := by decide +kernel
theorem dX12_putSigns_110 : decode cX12_putSigns 110 = .ok (.aload_n 1, 1) := by decide +kernel
theorem dX12_putSigns_111 : decode cX12_putSigns 111 = .ok (.iload 6, 2) := by decide +kernel
theorem dX12_putSigns_113 : decode cX12_putSigns 113 = .ok (.iconst 1, 1) := by decide +kernel
theorem dX12_putSigns_114 : decode cX12_putSigns 114 = .ok (.iadd, 1) := by decide +kernel
theorem dX12_putSigns_115 : decode cX12_putSigns 115 = .ok (.iaload, 1) := by decide +kernel
theorem dX12_putSigns_116 : decode cX12_putSigns 116 = .ok (.goto 4, 3) := by decide +kernel
theorem dX12_putSigns_119 : decode cX12_putSigns 119 = .ok (.iconst 0, 1) := by decide +kernel
theorem dX12_putSigns_120 : decode cX12_putSigns 120 = .ok (.iadd, 1) := by decide +kernel
theorem dX12_putSigns_121 : decode cX12_putSigns 121 = .ok (.istore 7, 2) := by decide +kernel
theorem dX12_putSigns_123 : decode cX12_putSigns 123 = .ok (.aload_n 0, 1) := by decide +kernel
theorem dX12_putSigns_124 : decode cX12_putSigns 124 = .ok (.bipush 6, 2) := by decide +kernel
theorem dX12_putSigns_126 : decode cX12_putSigns 126 = .ok (.iload 4, 2) := by decide +kernel
theorem dX12_putSigns_128 : decode cX12_putSigns 128 = .ok (.imul, 1) := by decide +kernel
theorem dX12_putSigns_129 : decode cX12_putSigns 129 = .ok (.bipush 8, 2) := by decide +kernel
theorem dX12_putSigns_131 : decode cX12_putSigns 131 = .ok (.aload_n 1, 1) := by decide +kernel
theorem dX12_putSigns_132 : decode cX12_putSigns 132 = .ok (.arraylength, 1) := by decide +kernel
theorem dX12_putSigns_133 : decode cX12_putSigns 133 = .ok (.imul, 1) := by decide +kernel
theorem dX12_putSigns_134 : decode cX12_putSigns 134 = .ok (.if_icmp .ge 20, 3) := by decide +kernel
theorem dX12_putSigns_137 : decode cX12_putSigns 137 = .ok (.iload 7, 2) := by decide +kernel
theorem dX12_putSigns_139 : decode cX12_putSigns 139 = .ok (.bipush 10, 2) := by decide +kernel
theorem dX12_putSigns_141 : decode cX12_putSigns 141 = .ok (.iload 5, 2) := by decide +kernel
theorem dX12_putSigns_143 : decode cX12_putSigns 143 = .ok (.isub, 1) := by decide +kernel
theorem dX12_putSigns_144 : decode cX12_putSigns 144 = .ok (.ishr, 1) := by decide +kernel
theorem dX12_putSigns_145 : decode cX12_putSigns 145 = .ok (.bipush 63, 2) := by decide +kernel
theorem dX12_putSigns_147 : decode cX12_putSigns 147 = .ok (.iand, 1) := by decide +kernel
theorem dX12_putSigns_148 : decode cX12_putSigns 148 = .ok (.invokestatic 640, 3) := by decide +kernel
theorem dX12_putSigns_151 : decode cX12_putSigns 151 = .ok (.goto 5, 3) := by decide +kernel
theorem dX12_putSigns_154 : decode cX12_putSigns 154 = .ok (.bipush 61, 2) := by decide +kernel
theorem dX12_putSigns_156 : decode cX12_putSigns 156 = .ok (.invokevirtual 605, 3) := by decide +kernel
theorem dX12_putSigns_159 : decode cX12_putSigns 159 = .ok (.iload 4, 2) := by decide +kernel
theorem dX12_putSigns_161 : decode cX12_putSigns 161 = .ok (.bipush 64, 2) := by decide +kernel
theorem dX12_putSigns_163 : decode cX12_putSigns 163 = .ok (.irem, 1) := by decide +kernel
theorem dX12_putSigns_164 : decode cX12_putSigns 164 = .ok (.bipush 63, 2) := by decide +kernel
theorem dX12_putSigns_166 : decode cX12_putSigns 166 = .ok (.if_icmp .eq 11, 3) := by decide +kernel
theorem dX12_putSigns_169 : decode cX12_putSigns 169 = .ok (.iload 4, 2) := by decide +kernel
theorem dX12_putSigns_171 : decode cX12_putSigns 171 = .ok (.iload_n 3, 1) := by decide +kernel
theorem dX12_putSigns_172 : decode cX12_putSigns 172 = .ok (.iconst 1, 1) := by decide +kernel
theorem dX12_putSigns_173 : decode cX12_putSigns 173 = .ok (.isub, 1) := by decide +kernel
theorem dX12_putSigns_174 : decode cX12_putSigns 174 = .ok (.if_icmp .ne 9, 3) := by decide +kernel
theorem dX12_putSigns_177 : decode cX12_putSigns 177 = .ok (.aload_n 0, 1) := by decide +kernel
theorem dX12_putSigns_178 : decode cX12_putSigns 178 = .ok (.bipush 10, 2) := by decide +kernel
theorem dX12_putSigns_180 : decode cX12_putSigns 180 = .ok (.invokevirtual 605, 3) := by decide +kernel
theorem dX12_putSigns_183 : decode cX12_putSigns 183 = .ok (.iinc 4 1, 3) := by decide +kernel
theorem dX12_putSigns_186 : decode cX12_putSigns 186 = .ok (.goto (-130), 3) := by decide +kernel
theorem dX12_putSigns_189 : decode cX12_putSigns 189 = .ok (.aload_n 1, 1) := by decide +kernel
theorem dX12_putSigns_190 : decode cX12_putSigns 190 = .ok (.aload_n 1, 1) := by decide +kernel
theorem dX12_putSigns_191 : decode cX12_putSigns 191 = .ok (.arraylength, 1) := by decide +kernel
theorem dX12_putSigns_192 : decode cX12_putSigns 192 = .ok (.invokestatic 236, 3) := by decide +kernel
theorem dX12_putSigns_195 : decode cX12_putSigns 195 = .ok (.istore 4, 2) := by decide +kernel
theorem dX12_putSigns_197 : decode cX12_putSigns 197 = .ok (.aload_n 0, 1) := by decide +kernel
theorem dX12_putSigns_198 : decode cX12_putSigns 198 = .ok (.bipush 61, 2) := by decide +kernel
theorem dX12_putSigns_200 : decode cX12_putSigns 200 = .ok (.invokevirtual 605, 3) := by decide +kernel
theorem dX12_putSigns_203 : decode cX12_putSigns 203 = .ok (.bipush 18, 2) := by decide +kernel
theorem dX12_putSigns_205 : decode cX12_putSigns 205 = .ok (.istore 5, 2) := by decide +kernel
theorem dX12_putSigns_207 : decode cX12_putSigns 207 = .ok (.iload 5, 2) := by decide +kernel
theorem dX12_putSigns_209 : decode cX12_putSigns 209 = .ok (.ifCond .lt 24, 3) := by decide +kernel
theorem dX12_putSigns_212 : decode cX12_putSigns 212 = .ok (.aload_n 0, 1) := by decide +kernel
theorem dX12_putSigns_213 : decode cX12_putSigns 213 = .ok (.iload 4, 2) := by decide +kernel
theorem dX12_putSigns_215 : decode cX12_putSigns 215 = .ok (.iload 5, 2) := by decide +kernel
theorem dX12_putSigns_217 : decode cX12_putSigns 217 = .ok (.ishr, 1) := by decide +kernel
theorem dX12_putSigns_218 : decode cX12_putSigns 218 = .ok (.bipush 63, 2) := by decide +kernel
theorem dX12_putSigns_220 : decode cX12_putSigns 220 = .ok (.iand, 1) := by decide +kernel
theorem dX12_putSigns_221 : decode cX12_putSigns 221 = .ok (.invokestatic 640, 3) := by decide +kernel
theorem dX12_putSigns_224 : decode cX12_putSigns 224 = .ok (.invokevirtual 605, 3) := by decide +kernel
theorem dX12_putSigns_227 : decode cX12_putSigns 227 = .ok (.iinc 5 (-6), 3) := by decide +kernel
theorem dX12_putSigns_230 : decode cX12_putSigns 230 = .ok (.goto (-23), 3) := by decide +kernel
theorem dX12_putSigns_233 : decode cX12_putSigns 233 = .ok (.aload_n 0, 1) := by decide +kernel
theorem dX12_putSigns_234 : decode cX12_putSigns 234 = .ok (.bipush 10, 2) := by decide +kernel
theorem dX12_putSigns_236 : decode cX12_putSigns 236 = .ok (.invokevirtual 605, 3) := by decide +kernel
theorem dX12_putSigns_239 : decode cX12_putSigns 239 = .ok (.aload_n 0, 1) := by decide +kernel
theorem dX12_putSigns_240 : decode cX12_putSigns 240 = .ok (.new 240, 3) := by decide +kernel
theorem dX12_putSigns_243 : decode cX12_putSigns 243 = .ok (.dup, 1) := by decide +kernel
theorem dX12_putSigns_244 : decode cX12_putSigns 244 = .ok (.invokespecial 242, 3) := by decide +kernel
theorem dX12_putSigns_247 : decode cX12_putSigns 247 = .ok (.ldc 243, 2) := by decide +kernel
theorem dX12_putSigns_249 : decode cX12_putSigns 249 = .ok (.invokevirtual 245, 3) := by decide +kernel
theorem dX12_putSigns_252 : decode cX12_putSigns 252 = .ok (.iload_n 2, 1) := by decide +kernel
theorem dX12_putSigns_253 : decode cX12_putSigns 253 = .ok (.invokestatic 261, 3) := by decide +kernel
theorem dX12_putSigns_256 : decode cX12_putSigns 256 = .ok (.invokevirtual 245, 3) := by decide +kernel
theorem dX12_putSigns_259 : decode cX12_putSigns 259 = .ok (.ldc 249, 2) := by decide +kernel
theorem dX12_putSigns_261 : decode cX12_putSigns 261 = .ok (.invokevirtual 245, 3) := by decide +kernel
theorem dX12_putSigns_264 : decode cX12_putSigns 264 = .ok (.invokevirtual 251, 3) := by decide +kernel
theorem dX12_putSigns_267 : decode cX12_putSigns 267 = .ok (.invokevirtual 616, 3) := by decide +kernel
theorem dX12_putSigns_270 : decode cX12_putSigns 270 = .ok (.aload_n 0, 1) := by decide +kernel
theorem dX12_putSigns_271 : decode cX12_putSigns 271 = .ok (.bipush 10, 2) := by decide +kernel
theorem dX12_putSigns_273 : decode cX12_putSigns 273 = .ok (.invokevirtual 605, 3) := by decide +kernel
theorem dX12_putSigns_276 : decode cX12_putSigns 276 = .ok (.return_, 1) := by decide +kernel
theorem dX12_armor_0 : decode cX12_armor 0 = .ok (.aload_n 0, 1) := by decide +kernel
theorem dX12_armor_1 : decode cX12_armor 1 = .ok (.iload_n 1, 1) := by decide +kernel
theorem dX12_armor_2 : decode cX12_armor 2 = .ok (.ifCond .lt 8, 3) := by decide +kernel
theorem dX12_armor_5 : decode cX12_armor 5 = .ok (.iload_n 1, 1) := by decide +kernel
theorem dX12_armor_6 : decode cX12_armor 6 = .ok (.iconst 2, 1) := by decide +kernel
theorem dX12_armor_7 : decode cX12_armor 7 = .ok (.if_icmp .le 7, 3) := by decide +kernel
theorem dX12_armor_10 : decode cX12_armor 10 = .ok (.iconst 1, 1) := by decide +kernel
theorem dX12_armor_11 : decode cX12_armor 11 = .ok (.goto 18, 3) := by decide +kernel
theorem dX12_armor_14 : decode cX12_armor 14 = .ok (.aload_n 0, 1) := by decide +kernel
theorem dX12_armor_15 : decode cX12_armor 15 = .ok (.getfield 602, 3) := by decide +kernel
theorem dX12_armor_18 : decode cX12_armor 18 = .ok (.sipush 8000, 3) := by decide +kernel
theorem dX12_armor_21 : decode cX12_armor 21 = .ok (.if_icmp .le 7, 3) := by decide +kernel
theorem dX12_armor_24 : decode cX12_armor 24 = .ok (.iconst 2, 1) := by decide +kernel
theorem dX12_armor_25 : decode cX12_armor 25 = .ok (.goto 4, 3) := by decide +kernel
theorem dX12_armor_28 : decode cX12_armor 28 = .ok (.iconst 0, 1) := by decide +kernel
theorem dX12_armor_29 : decode cX12_armor 29 = .ok (.putfield 78, 3) := by decide +kernel
theorem dX12_armor_32 : decode cX12_armor 32 = .ok (.aload_n 0, 1) := by decide +kernel
theorem dX12_armor_33 : decode cX12_armor 33 = .ok (.getfield 78, 3) := by decide +kernel
theorem dX12_armor_36 : decode cX12_armor 36 = .ok (.ifCond .le 5, 3) := by decide +kernel
theorem dX12_armor_39 : decode cX12_armor 39 = .ok (.iconst 0, 1) := by decide +kernel
theorem dX12_armor_40 : decode cX12_armor 40 = .ok (.ireturn, 1) := by decide +kernel
theorem dX12_armor_41 : decode cX12_armor 41 = .ok (.aload_n 0, 1) := by decide +kernel
theorem dX12_armor_42 : decode cX12_armor 42 = .ok (.getfield 17, 3) := by decide +kernel
theorem dX12_armor_45 : decode cX12_armor 45 = .ok (.iconst 0, 1) := by decide +kernel
theorem dX12_armor_46 : decode cX12_armor 46 = .ok (.aload_n 0, 1) := by decide +kernel
theorem dX12_armor_47 : decode cX12_armor 47 = .ok (.getfield 602, 3) := by decide +kernel
theorem dX12_armor_50 : decode cX12_armor 50 = .ok (.invokestatic 89, 3) := by decide +kernel
theorem dX12_armor_53 : decode cX12_armor 53 = .ok (.astore_n 2, 1) := by decide +kernel
theorem dX12_armor_54 : decode cX12_armor 54 = .ok (.aload_n 0, 1) := by decide +kernel
theorem dX12_armor_55 : decode cX12_armor 55 = .ok (.iconst 0, 1) := by decide +kernel
theorem dX12_armor_56 : decode cX12_armor 56 = .ok (.putfield 602, 3) := by decide +kernel
theorem dX12_armor_59 : decode cX12_armor 59 = .ok (.aload_n 0, 1) := by decide +kernel
theorem dX12_armor_60 : decode cX12_armor 60 = .ok (.aload_n 2, 1) := by decide +kernel
theorem dX12_armor_61 : decode cX12_armor 61 = .ok (.iload_n 1, 1) := by decide +kernel
theorem dX12_armor_62 : decode cX12_armor 62 = .ok (.invokevirtual 632, 3) := by decide +kernel
theorem dX12_armor_65 : decode cX12_armor 65 = .ok (.aload_n 0, 1) := by decide +kernel
theorem dX12_armor_66 : decode cX12_armor 66 = .ok (.getfield 602, 3) := by decide +kernel
theorem dX12_armor_69 : decode cX12_armor 69 = .ok (.ireturn, 1) := by decide +kernel
theorem dX12_out_0 : decode cX12_out 0 = .ok (.aload_n 0, 1) := by decide +kernel
theorem dX12_out_1 : decode cX12_out 1 = .ok (.iload_n 1, 1) := by decide +kernel
theorem dX12_out_2 : decode cX12_out 2 = .ok (.ifCond .lt 11, 3) := by decide +kernel
theorem dX12_out_5 : decode cX12_out 5 = .ok (.iload_n 1, 1) := by decide +kernel
theorem dX12_out_6 : decode cX12_out 6 = .ok (.aload_n 0, 1) := by decide +kernel
theorem dX12_out_7 : decode cX12_out 7 = .ok (.getfield 602, 3) := by decide +kernel
theorem dX12_out_10 : decode cX12_out 10 = .ok (.if_icmp .lt 7, 3) := by decide +kernel
theorem dX12_out_13 : decode cX12_out 13 = .ok (.iconst 1, 1) := by decide +kernel
theorem dX12_out_14 : decode cX12_out 14 = .ok (.goto 4, 3) := by decide +kernel
theorem dX12_out_17 : decode cX12_out 17 = .ok (.iconst 0, 1) := by decide +kernel
theorem dX12_out_18 : decode cX12_out 18 = .ok (.putfield 78, 3) := by decide +kernel
theorem dX12_out_21 : decode cX12_out 21 = .ok (.aload_n 0, 1) := by decide +kernel
theorem dX12_out_22 : decode cX12_out 22 = .ok (.getfield 78, 3) := by decide +kernel
theorem dX12_out_25 : decode cX12_out 25 = .ok (.ifCond .le 7, 3) := by decide +kernel
theorem dX12_out_28 : decode cX12_out 28 = .ok (.iconst 0, 1) := by decide +kernel
theorem dX12_out_29 : decode cX12_out 29 = .ok (.goto 9, 3) := by decide +kernel
theorem dX12_out_32 : decode cX12_out 32 = .ok (.aload_n 0, 1) := by decide +kernel
theorem dX12_out_33 : decode cX12_out 33 = .ok (.getfield 17, 3) := by decide +kernel
theorem dX12_out_36 : decode cX12_out 36 = .ok (.iload_n 1, 1) := by decide +kernel
theorem dX12_out_37 : decode cX12_out 37 = .ok (.iaload, 1) := by decide +kernel
theorem dX12_out_38 : decode cX12_out 38 = .ok (.ireturn, 1) := by decide +kernel
theorem dX12_sum_0 : decode cX12_sum 0 = .ok (.aload_n 0, 1) := by decide +kernel
theorem dX12_sum_1 : decode cX12_sum 1 = .ok (.iconst 0, 1) := by decide +kernel
theorem dX12_sum_2 : decode cX12_sum 2 = .ok (.putfield 78, 3) := by decide +kernel
theorem dX12_sum_5 : decode cX12_sum 5 = .ok (.aload_n 0, 1) := by decide +kernel
theorem dX12_sum_6 : decode cX12_sum 6 = .ok (.getfield 17, 3) := by decide +kernel
theorem dX12_sum_9 : decode cX12_sum 9 = .ok (.aload_n 0, 1) := by decide +kernel
theorem dX12_sum_10 : decode cX12_sum 10 = .ok (.getfield 602, 3) := by decide +kernel
theorem dX12_sum_13 : decode cX12_sum 13 = .ok (.invokestatic 236, 3) := by decide +kernel
theorem dX12_sum_16 : decode cX12_sum 16 = .ok (.ireturn, 1) := by decide +kernel
theorem dX12_take_0 : decode cX12_take 0 = .ok (.aload_n 0, 1) := by decide +kernel
theorem dX12_take_1 : decode cX12_take 1 = .ok (.iconst 0, 1) := by decide +kernel
theorem dX12_take_2 : decode cX12_take 2 = .ok (.putfield 78, 3) := by decide +kernel
theorem dX12_take_5 : decode cX12_take 5 = .ok (.aload_n 0, 1) := by decide +kernel
theorem dX12_take_6 : decode cX12_take 6 = .ok (.aload_n 0, 1) := by decide +kernel
theorem dX12_take_7 : decode cX12_take 7 = .ok (.getfield 602, 3) := by decide +kernel
theorem dX12_take_10 : decode cX12_take 10 = .ok (.sipush 4096, 3) := by decide +kernel
theorem dX12_take_13 : decode cX12_take 13 = .ok (.if_icmp .ge 10, 3) := by decide +kernel
theorem dX12_take_16 : decode cX12_take 16 = .ok (.aload_n 0, 1) := by decide +kernel
theorem dX12_take_17 : decode cX12_take 17 = .ok (.getfield 602, 3) := by decide +kernel
theorem dX12_take_20 : decode cX12_take 20 = .ok (.goto 6, 3) := by decide +kernel
theorem dX12_take_23 : decode cX12_take 23 = .ok (.sipush 4096, 3) := by decide +kernel
theorem dX12_take_26 : decode cX12_take 26 = .ok (.putfield 84, 3) := by decide +kernel
theorem dX12_take_29 : decode cX12_take 29 = .ok (.iconst 0, 1) := by decide +kernel
theorem dX12_take_30 : decode cX12_take 30 = .ok (.istore_n 1, 1) := by decide +kernel
theorem dX12_take_31 : decode cX12_take 31 = .ok (.iload_n 1, 1) := by decide +kernel
theorem dX12_take_32 : decode cX12_take 32 = .ok (.aload_n 0, 1) := by decide +kernel
theorem dX12_take_33 : decode cX12_take 33 = .ok (.getfield 84, 3) := by decide +kernel
theorem dX12_take_36 : decode cX12_take 36 = .ok (.if_icmp .ge 21, 3) := by decide +kernel
theorem dX12_take_39 : decode cX12_take 39 = .ok (.aload_n 0, 1) := by decide +kernel
theorem dX12_take_40 : decode cX12_take 40 = .ok (.getfield 7, 3) := by decide +kernel
theorem dX12_take_43 : decode cX12_take 43 = .ok (.iload_n 1, 1) := by decide +kernel
theorem dX12_take_44 : decode cX12_take 44 = .ok (.aload_n 0, 1) := by decide +kernel
theorem dX12_take_45 : decode cX12_take 45 = .ok (.getfield 17, 3) := by decide +kernel
theorem dX12_take_48 : decode cX12_take 48 = .ok (.iload_n 1, 1) := by decide +kernel
theorem dX12_take_49 : decode cX12_take 49 = .ok (.iaload, 1) := by decide +kernel
theorem dX12_take_50 : decode cX12_take 50 = .ok (.iastore, 1) := by decide +kernel
theorem dX12_take_51 : decode cX12_take 51 = .ok (.iinc 1 1, 3) := by decide +kernel
theorem dX12_take_54 : decode cX12_take 54 = .ok (.goto (-23), 3) := by decide +kernel
theorem dX12_take_57 : decode cX12_take 57 = .ok (.aload_n 0, 1) := by decide +kernel
theorem dX12_take_58 : decode cX12_take 58 = .ok (.getfield 84, 3) := by decide +kernel
theorem dX12_take_61 : decode cX12_take 61 = .ok (.ireturn, 1) := by decide +kernel
theorem dX12_drop_0 : decode cX12_drop 0 = .ok (.aload_n 0, 1) := by decide +kernel
theorem dX12_drop_1 : decode cX12_drop 1 = .ok (.iload_n 1, 1) := by decide +kernel
theorem dX12_drop_2 : decode cX12_drop 2 = .ok (.invokevirtual 590, 3) := by decide +kernel
theorem dX12_drop_5 : decode cX12_drop 5 = .ok (.istore_n 2, 1) := by decide +kernel
theorem dX12_drop_6 : decode cX12_drop 6 = .ok (.aload_n 0, 1) := by decide +kernel
theorem dX12_drop_7 : decode cX12_drop 7 = .ok (.iload_n 2, 1) := by decide +kernel
theorem dX12_drop_8 : decode cX12_drop 8 = .ok (.iconst (-1), 1) := by decide +kernel
theorem dX12_drop_9 : decode cX12_drop 9 = .ok (.if_icmp .ne 7, 3) := by decide +kernel
theorem dX12_drop_12 : decode cX12_drop 12 = .ok (.iconst 1, 1) := by decide +kernel
theorem dX12_drop_13 : decode cX12_drop 13 = .ok (.goto 4, 3) := by decide +kernel
theorem dX12_drop_16 : decode cX12_drop 16 = .ok (.iconst 0, 1) := by decide +kernel
theorem dX12_drop_17 : decode cX12_drop 17 = .ok (.putfield 78, 3) := by decide +kernel
theorem dX12_drop_20 : decode cX12_drop 20 = .ok (.aload_n 0, 1) := by decide +kernel
theorem dX12_drop_21 : decode cX12_drop 21 = .ok (.getfield 78, 3) := by decide +kernel
theorem dX12_drop_24 : decode cX12_drop 24 = .ok (.ifCond .le 5, 3) := by decide +kernel
theorem dX12_drop_27 : decode cX12_drop 27 = .ok (.iconst 0, 1) := by decide +kernel
theorem dX12_drop_28 : decode cX12_drop 28 = .ok (.ireturn, 1) := by decide +kernel
theorem dX12_drop_29 : decode cX12_drop 29 = .ok (.aload_n 0, 1) := by decide +kernel
theorem dX12_drop_30 : decode cX12_drop 30 = .ok (.iload_n 2, 1) := by decide +kernel
theorem dX12_drop_31 : decode cX12_drop 31 = .ok (.invokevirtual 503, 3) := by decide +kernel
theorem dX12_drop_34 : decode cX12_drop 34 = .ok (.iload_n 2, 1) := by decide +kernel
theorem dX12_drop_35 : decode cX12_drop 35 = .ok (.isub, 1) := by decide +kernel
theorem dX12_drop_36 : decode cX12_drop 36 = .ok (.istore_n 3, 1) := by decide +kernel
theorem dX12_drop_37 : decode cX12_drop 37 = .ok (.aload_n 0, 1) := by decide +kernel
theorem dX12_drop_38 : decode cX12_drop 38 = .ok (.aload_n 0, 1) := by decide +kernel
theorem dX12_drop_39 : decode cX12_drop 39 = .ok (.getfield 485, 3) := by decide +kernel
theorem dX12_drop_42 : decode cX12_drop 42 = .ok (.iload_n 3, 1) := by decide +kernel
theorem dX12_drop_43 : decode cX12_drop 43 = .ok (.isub, 1) := by decide +kernel
theorem dX12_drop_44 : decode cX12_drop 44 = .ok (.putfield 485, 3) := by decide +kernel
theorem dX12_drop_47 : decode cX12_drop 47 = .ok (.iload_n 2, 1) := by decide +kernel
theorem dX12_drop_48 : decode cX12_drop 48 = .ok (.istore 4, 2) := by decide +kernel
theorem dX12_drop_50 : decode cX12_drop 50 = .ok (.iload 4, 2) := by decide +kernel
theorem dX12_drop_52 : decode cX12_drop 52 = .ok (.aload_n 0, 1) := by decide +kernel
theorem dX12_drop_53 : decode cX12_drop 53 = .ok (.getfield 485, 3) := by decide +kernel
theorem dX12_drop_56 : decode cX12_drop 56 = .ok (.if_icmp .ge 57, 3) := by decide +kernel
theorem dX12_drop_59 : decode cX12_drop 59 = .ok (.aload_n 0, 1) := by decide +kernel
theorem dX12_drop_60 : decode cX12_drop 60 = .ok (.getfield 20, 3) := by decide +kernel
theorem dX12_drop_63 : decode cX12_drop 63 = .ok (.iload 4, 2) := by decide +kernel
theorem dX12_drop_65 : decode cX12_drop 65 = .ok (.aload_n 0, 1) := by decide +kernel
theorem dX12_drop_66 : decode cX12_drop 66 = .ok (.getfield 20, 3) := by decide +kernel
theorem dX12_drop_69 : decode cX12_drop 69 = .ok (.iload 4, 2) := by decide +kernel
theorem dX12_drop_71 : decode cX12_drop 71 = .ok (.iload_n 3, 1) := by decide +kernel
theorem dX12_drop_72 : decode cX12_drop 72 = .ok (.iadd, 1) := by decide +kernel
theorem dX12_drop_73 : decode cX12_drop 73 = .ok (.iaload, 1) := by decide +kernel
theorem dX12_drop_74 : decode cX12_drop 74 = .ok (.iastore, 1) := by decide +kernel
theorem dX12_drop_75 : decode cX12_drop 75 = .ok (.aload_n 0, 1) := by decide +kernel
theorem dX12_drop_76 : decode cX12_drop 76 = .ok (.getfield 24, 3) := by decide +kernel
theorem dX12_drop_79 : decode cX12_drop 79 = .ok (.iload 4, 2) := by decide +kernel
theorem dX12_drop_81 : decode cX12_drop 81 = .ok (.aload_n 0, 1) := by decide +kernel
theorem dX12_drop_82 : decode cX12_drop 82 = .ok (.getfield 24, 3) := by decide +kernel
theorem dX12_drop_85 : decode cX12_drop 85 = .ok (.iload 4, 2) := by decide +kernel
theorem dX12_drop_87 : decode cX12_drop 87 = .ok (.iload_n 3, 1) := by decide +kernel
theorem dX12_drop_88 : decode cX12_drop 88 = .ok (.iadd, 1) := by decide +kernel
theorem dX12_drop_89 : decode cX12_drop 89 = .ok (.aaload, 1) := by decide +kernel
theorem dX12_drop_90 : decode cX12_drop 90 = .ok (.aastore, 1) := by decide +kernel
theorem dX12_drop_91 : decode cX12_drop 91 = .ok (.aload_n 0, 1) := by decide +kernel
theorem dX12_drop_92 : decode cX12_drop 92 = .ok (.getfield 28, 3) := by decide +kernel
theorem dX12_drop_95 : decode cX12_drop 95 = .ok (.iload 4, 2) := by decide +kernel
theorem dX12_drop_97 : decode cX12_drop 97 = .ok (.aload_n 0, 1) := by decide +kernel
theorem dX12_drop_98 : decode cX12_drop 98 = .ok (.getfield 28, 3) := by decide +kernel
theorem dX12_drop_101 : decode cX12_drop 101 = .ok (.iload 4, 2) := by decide +kernel
theorem dX12_drop_103 : decode cX12_drop 103 = .ok (.iload_n 3, 1) := by decide +kernel
theorem dX12_drop_104 : decode cX12_drop 104 = .ok (.iadd, 1) := by decide +kernel
theorem dX12_drop_105 : decode cX12_drop 105 = .ok (.aaload, 1) := by decide +kernel
theorem dX12_drop_106 : decode cX12_drop 106 = .ok (.aastore, 1) := by decide +kernel
theorem dX12_drop_107 : decode cX12_drop 107 = .ok (.iinc 4 1, 3) := by decide +kernel
theorem dX12_drop_110 : decode cX12_drop 110 = .ok (.goto (-60), 3) := by decide +kernel
theorem dX12_drop_113 : decode cX12_drop 113 = .ok (.aload_n 0, 1) := by decide +kernel
theorem dX12_drop_114 : decode cX12_drop 114 = .ok (.invokevirtual 643, 3) := by decide +kernel
theorem dX12_drop_117 : decode cX12_drop 117 = .ok (.ireturn, 1) := by decide +kernel
theorem dX12_hash_0 : decode cX12_hash 0 = .ok (.aload_n 0, 1) := by decide +kernel
theorem dX12_hash_1 : decode cX12_hash 1 = .ok (.iload_n 1, 1) := by decide +kernel
theorem dX12_hash_2 : decode cX12_hash 2 = .ok (.iconst 1, 1) := by decide +kernel
theorem dX12_hash_3 : decode cX12_hash 3 = .ok (.if_icmp .eq 12, 3) := by decide +kernel
theorem dX12_hash_6 : decode cX12_hash 6 = .ok (.iload_n 1, 1) := by decide +kernel
theorem dX12_hash_7 : decode cX12_hash 7 = .ok (.iconst 2, 1) := by decide +kernel
theorem dX12_hash_8 : decode cX12_hash 8 = .ok (.if_icmp .eq 7, 3) := by decide +kernel
theorem dX12_hash_11 : decode cX12_hash 11 = .ok (.iconst 1, 1) := by decide +kernel
theorem dX12_hash_12 : decode cX12_hash 12 = .ok (.goto 28, 3) := by decide +kernel
theorem dX12_hash_15 : decode cX12_hash 15 = .ok (.iload_n 2, 1) := by decide +kernel
theorem dX12_hash_16 : decode cX12_hash 16 = .ok (.ifCond .lt 19, 3) := by decide +kernel
theorem dX12_hash_19 : decode cX12_hash 19 = .ok (.iload_n 2, 1) := by decide +kernel
theorem dX12_hash_20 : decode cX12_hash 20 = .ok (.iload_n 1, 1) := by decide +kernel
theorem dX12_hash_21 : decode cX12_hash 21 = .ok (.iconst 1, 1) := by decide +kernel
theorem dX12_hash_22 : decode cX12_hash 22 = .ok (.if_icmp .ne 8, 3) := by decide +kernel
theorem dX12_hash_25 : decode cX12_hash 25 = .ok (.bipush 20, 2) := by decide +kernel
theorem dX12_hash_27 : decode cX12_hash 27 = .ok (.goto 5, 3) := by decide +kernel
theorem dX12_hash_30 : decode cX12_hash 30 = .ok (.bipush 32, 2) := by decide +kernel
theorem dX12_hash_32 : decode cX12_hash 32 = .ok (.if_icmp .lt 7, 3) := by decide +kernel
theorem dX12_hash_35 : decode cX12_hash 35 = .ok (.iconst 2, 1) := by decide +kernel
theorem dX12_hash_36 : decode cX12_hash 36 = .ok (.goto 4, 3) := by decide +kernel
theorem dX12_hash_39 : decode cX12_hash 39 = .ok (.iconst 0, 1) := by decide +kernel
theorem dX12_hash_40 : decode cX12_hash 40 = .ok (.putfield 78, 3) := by decide +kernel
theorem dX12_hash_43 : decode cX12_hash 43 = .ok (.aload_n 0, 1) := by decide +kernel
theorem dX12_hash_44 : decode cX12_hash 44 = .ok (.getfield 78, 3) := by decide +kernel
theorem dX12_hash_47 : decode cX12_hash 47 = .ok (.ifCond .le 5, 3) := by decide +kernel
theorem dX12_hash_50 : decode cX12_hash 50 = .ok (.iconst 0, 1) := by decide +kernel
theorem dX12_hash_51 : decode cX12_hash 51 = .ok (.ireturn, 1) := by decide +kernel
theorem dX12_hash_52 : decode cX12_hash 52 = .ok (.aload_n 0, 1) := by decide +kernel
theorem dX12_hash_53 : decode cX12_hash 53 = .ok (.iconst 0, 1) := by decide +kernel
theorem dX12_hash_54 : decode cX12_hash 54 = .ok (.putfield 93, 3) := by decide +kernel
theorem dX12_hash_57 : decode cX12_hash 57 = .ok (.aload_n 0, 1) := by decide +kernel
theorem dX12_hash_58 : decode cX12_hash 58 = .ok (.aload_n 0, 1) := by decide +kernel
theorem dX12_hash_59 : decode cX12_hash 59 = .ok (.getfield 13, 3) := by decide +kernel
theorem dX12_hash_62 : decode cX12_hash 62 = .ok (.iconst 0, 1) := by decide +kernel
theorem dX12_hash_63 : decode cX12_hash 63 = .ok (.aload_n 0, 1) := by decide +kernel
theorem dX12_hash_64 : decode cX12_hash 64 = .ok (.getfield 13, 3) := by decide +kernel
theorem dX12_hash_67 : decode cX12_hash 67 = .ok (.arraylength, 1) := by decide +kernel
theorem dX12_hash_68 : decode cX12_hash 68 = .ok (.invokevirtual 342, 3) := by decide +kernel
theorem dX12_hash_71 : decode cX12_hash 71 = .ok (.aload_n 0, 1) := by decide +kernel
theorem dX12_hash_72 : decode cX12_hash 72 = .ok (.iload_n 1, 1) := by decide +kernel
theorem dX12_hash_73 : decode cX12_hash 73 = .ok (.iconst 1, 1) := by decide +kernel
theorem dX12_hash_74 : decode cX12_hash 74 = .ok (.if_icmp .ne 7, 3) := by decide +kernel
theorem dX12_hash_77 : decode cX12_hash 77 = .ok (.iconst 2, 1) := by decide +kernel
theorem dX12_hash_78 : decode cX12_hash 78 = .ok (.goto 5, 3) := by decide +kernel
theorem dX12_hash_81 : decode cX12_hash 81 = .ok (.bipush 8, 2) := by decide +kernel
theorem dX12_hash_83 : decode cX12_hash 83 = .ok (.invokevirtual 350, 3) := by decide +kernel
theorem dX12_hash_86 : decode cX12_hash 86 = .ok (.istore_n 3, 1) := by decide +kernel
theorem dX12_hash_87 : decode cX12_hash 87 = .ok (.aload_n 0, 1) := by decide +kernel
theorem dX12_hash_88 : decode cX12_hash 88 = .ok (.getfield 43, 3) := by decide +kernel
theorem dX12_hash_91 : decode cX12_hash 91 = .ok (.iload_n 2, 1) := by decide +kernel
theorem dX12_hash_92 : decode cX12_hash 92 = .ok (.iaload, 1) := by decide +kernel
theorem dX12_hash_93 : decode cX12_hash 93 = .ok (.ireturn, 1) := by decide +kernel
end
section
theorem dL_look_0 : decode cL_look 0 = .ok (.aload_n 3, 1) := by decide +kernel
theorem dL_look_1 : decode cL_look 1 = .ok (.iconst 0, 1) := by decide +kernel
theorem dL_look_2 : decode cL_look 2 = .ok (.aload_n 0, 1) := by decide +kernel
theorem dL_look_3 : decode cL_look 3 = .ok (.lload_n 1, 1) := by decide +kernel
theorem dL_look_4 : decode cL_look 4 = .ok (.invokevirtual 7, 3) := by decide +kernel
theorem dL_look_7 : decode cL_look 7 = .ok (.i2l, 1) := by decide +kernel
theorem dL_look_8 : decode cL_look 8 = .ok (.lastore, 1) := by decide +kernel
theorem dL_look_9 : decode cL_look 9 = .ok (.goto 7, 3) := by decide +kernel
theorem dL_look_12 : decode cL_look 12 = .ok (.astore 4, 2) := by decide +kernel
theorem dL_look_14 : decode cL_look 14 = .ok (.iconst 1, 1) := by decide +kernel
theorem dL_look_15 : decode cL_look 15 = .ok (.ireturn, 1) := by decide +kernel
theorem dL_look_16 : decode cL_look 16 = .ok (.iconst 0, 1) := by decide +kernel
theorem dL_look_17 : decode cL_look 17 = .ok (.ireturn, 1) := by decide +kernel
theorem dL_key_0 : decode cL_key 0 = .ok (.aload_n 3, 1) := by decide +kernel
theorem dL_key_1 : decode cL_key 1 = .ok (.iconst 0, 1) := by decide +kernel
theorem dL_key_2 : decode cL_key 2 = .ok (.aload_n 0, 1) := by decide +kernel
theorem dL_key_3 : decode cL_key 3 = .ok (.iload_n 1, 1) := by decide +kernel
theorem dL_key_4 : decode cL_key 4 = .ok (.iload_n 2, 1) := by decide +kernel
theorem dL_key_5 : decode cL_key 5 = .ok (.invokevirtual 15, 3) := by decide +kernel
theorem dL_key_8 : decode cL_key 8 = .ok (.lastore, 1) := by decide +kernel
theorem dL_key_9 : decode cL_key 9 = .ok (.goto 7, 3) := by decide +kernel
theorem dL_key_12 : decode cL_key 12 = .ok (.astore 4, 2) := by decide +kernel
theorem dL_key_14 : decode cL_key 14 = .ok (.iconst 1, 1) := by decide +kernel
theorem dL_key_15 : decode cL_key 15 = .ok (.ireturn, 1) := by decide +kernel
theorem dL_key_16 : decode cL_key 16 = .ok (.iconst 0, 1) := by decide +kernel
theorem dL_key_17 : decode cL_key 17 = .ok (.ireturn, 1) := by decide +kernel
theorem dL_print_0 : decode cL_print 0 = .ok (.aload 4, 2) := by decide +kernel
theorem dL_print_2 : decode cL_print 2 = .ok (.iconst 0, 1) := by decide +kernel
theorem dL_print_3 : decode cL_print 3 = .ok (.aload_n 0, 1) := by decide +kernel
theorem dL_print_4 : decode cL_print 4 = .ok (.iload_n 1, 1) := by decide +kernel
theorem dL_print_5 : decode cL_print 5 = .ok (.iload_n 2, 1) := by decide +kernel
theorem dL_print_6 : decode cL_print 6 = .ok (.iload_n 3, 1) := by decide +kernel
theorem dL_print_7 : decode cL_print 7 = .ok (.invokevirtual 21, 3) := by decide +kernel
theorem dL_print_10 : decode cL_print 10 = .ok (.i2l, 1) := by decide +kernel
theorem dL_print_11 : decode cL_print 11 = .ok (.lastore, 1) := by decide +kernel
theorem dL_print_12 : decode cL_print 12 = .ok (.goto 7, 3) := by decide +kernel
theorem dL_print_15 : decode cL_print 15 = .ok (.astore 5, 2) := by decide +kernel
theorem dL_print_17 : decode cL_print 17 = .ok (.iconst 1, 1) := by decide +kernel
theorem dL_print_18 : decode cL_print 18 = .ok (.ireturn, 1) := by decide +kernel
theorem dL_print_19 : decode cL_print 19 = .ok (.iconst 0, 1) := by decide +kernel
theorem dL_print_20 : decode cL_print 20 = .ok (.ireturn, 1) := by decide +kernel
theorem dL_usable_0 : decode cL_usable 0 = .ok (.aload 5, 2) := by decide +kernel
theorem dL_usable_2 : decode cL_usable 2 = .ok (.iconst 0, 1) := by decide +kernel
theorem dL_usable_3 : decode cL_usable 3 = .ok (.aload_n 0, 1) := by decide +kernel
theorem dL_usable_4 : decode cL_usable 4 = .ok (.iload_n 1, 1) := by decide +kernel
theorem dL_usable_5 : decode cL_usable 5 = .ok (.iload_n 2, 1) := by decide +kernel
theorem dL_usable_6 : decode cL_usable 6 = .ok (.lload_n 3, 1) := by decide +kernel
theorem dL_usable_7 : decode cL_usable 7 = .ok (.invokevirtual 25, 3) := by decide +kernel
theorem dL_usable_10 : decode cL_usable 10 = .ok (.i2l, 1) := by decide +kernel
theorem dL_usable_11 : decode cL_usable 11 = .ok (.lastore, 1) := by decide +kernel
theorem dL_usable_12 : decode cL_usable 12 = .ok (.goto 11, 3) := by decide +kernel
theorem dL_usable_15 : decode cL_usable 15 = .ok (.astore 6, 2) := by decide +kernel
theorem dL_usable_17 : decode cL_usable 17 = .ok (.iconst 1, 1) := by decide +kernel
theorem dL_usable_18 : decode cL_usable 18 = .ok (.ireturn, 1) := by decide +kernel
theorem dL_usable_19 : decode cL_usable 19 = .ok (.astore 6, 2) := by decide +kernel
theorem dL_usable_21 : decode cL_usable 21 = .ok (.iconst 2, 1) := by decide +kernel
theorem dL_usable_22 : decode cL_usable 22 = .ok (.ireturn, 1) := by decide +kernel
theorem dL_usable_23 : decode cL_usable 23 = .ok (.iconst 0, 1) := by decide +kernel
theorem dL_usable_24 : decode cL_usable 24 = .ok (.ireturn, 1) := by decide +kernel
theorem dL_seal_0 : decode cL_seal 0 = .ok (.aload 6, 2) := by decide +kernel
theorem dL_seal_2 : decode cL_seal 2 = .ok (.iconst 0, 1) := by decide +kernel
theorem dL_seal_3 : decode cL_seal 3 = .ok (.aload_n 0, 1) := by decide +kernel
theorem dL_seal_4 : decode cL_seal 4 = .ok (.iload_n 1, 1) := by decide +kernel
theorem dL_seal_5 : decode cL_seal 5 = .ok (.iload_n 2, 1) := by decide +kernel
theorem dL_seal_6 : decode cL_seal 6 = .ok (.iload_n 3, 1) := by decide +kernel
theorem dL_seal_7 : decode cL_seal 7 = .ok (.lload 4, 2) := by decide +kernel
theorem dL_seal_9 : decode cL_seal 9 = .ok (.invokevirtual 29, 3) := by decide +kernel
theorem dL_seal_12 : decode cL_seal 12 = .ok (.i2l, 1) := by decide +kernel
theorem dL_seal_13 : decode cL_seal 13 = .ok (.lastore, 1) := by decide +kernel
theorem dL_seal_14 : decode cL_seal 14 = .ok (.goto 15, 3) := by decide +kernel
theorem dL_seal_17 : decode cL_seal 17 = .ok (.astore 7, 2) := by decide +kernel
theorem dL_seal_19 : decode cL_seal 19 = .ok (.iconst 1, 1) := by decide +kernel
theorem dL_seal_20 : decode cL_seal 20 = .ok (.ireturn, 1) := by decide +kernel
theorem dL_seal_21 : decode cL_seal 21 = .ok (.astore 7, 2) := by decide +kernel
theorem dL_seal_23 : decode cL_seal 23 = .ok (.iconst 2, 1) := by decide +kernel
theorem dL_seal_24 : decode cL_seal 24 = .ok (.ireturn, 1) := by decide +kernel
theorem dL_seal_25 : decode cL_seal 25 = .ok (.astore 7, 2) := by decide +kernel
theorem dL_seal_27 : decode cL_seal 27 = .ok (.iconst 3, 1) := by decide +kernel
theorem dL_seal_28 : decode cL_seal 28 = .ok (.ireturn, 1) := by decide +kernel
theorem dL_seal_29 : decode cL_seal 29 = .ok (.iconst 0, 1) := by decide +kernel
theorem dL_seal_30 : decode cL_seal 30 = .ok (.ireturn, 1) := by decide +kernel
theorem dL_export_0 : decode cL_export 0 = .ok (.aload_n 2, 1) := by decide +kernel
theorem dL_export_1 : decode cL_export 1 = .ok (.iconst 0, 1) := by decide +kernel
theorem dL_export_2 : decode cL_export 2 = .ok (.aload_n 0, 1) := by decide +kernel
theorem dL_export_3 : decode cL_export 3 = .ok (.iload_n 1, 1) := by decide +kernel
theorem dL_export_4 : decode cL_export 4 = .ok (.invokevirtual 35, 3) := by decide +kernel
theorem dL_export_7 : decode cL_export 7 = .ok (.i2l, 1) := by decide +kernel
theorem dL_export_8 : decode cL_export 8 = .ok (.lastore, 1) := by decide +kernel
theorem dL_export_9 : decode cL_export 9 = .ok (.goto 6, 3) := by decide +kernel
theorem dL_export_12 : decode cL_export 12 = .ok (.astore_n 3, 1) := by decide +kernel
theorem dL_export_13 : decode cL_export 13 = .ok (.iconst 1, 1) := by decide +kernel
theorem dL_export_14 : decode cL_export 14 = .ok (.ireturn, 1) := by decide +kernel
theorem dL_export_15 : decode cL_export 15 = .ok (.iconst 0, 1) := by decide +kernel
theorem dL_export_16 : decode cL_export 16 = .ok (.ireturn, 1) := by decide +kernel
theorem dL_armor_0 : decode cL_armor 0 = .ok (.aload_n 2, 1) := by decide +kernel
theorem dL_armor_1 : decode cL_armor 1 = .ok (.iconst 0, 1) := by decide +kernel
theorem dL_armor_2 : decode cL_armor 2 = .ok (.aload_n 0, 1) := by decide +kernel
theorem dL_armor_3 : decode cL_armor 3 = .ok (.iload_n 1, 1) := by decide +kernel
theorem dL_armor_4 : decode cL_armor 4 = .ok (.invokevirtual 39, 3) := by decide +kernel
theorem dL_armor_7 : decode cL_armor 7 = .ok (.i2l, 1) := by decide +kernel
theorem dL_armor_8 : decode cL_armor 8 = .ok (.lastore, 1) := by decide +kernel
theorem dL_armor_9 : decode cL_armor 9 = .ok (.goto 9, 3) := by decide +kernel
theorem dL_armor_12 : decode cL_armor 12 = .ok (.astore_n 3, 1) := by decide +kernel
theorem dL_armor_13 : decode cL_armor 13 = .ok (.iconst 1, 1) := by decide +kernel
theorem dL_armor_14 : decode cL_armor 14 = .ok (.ireturn, 1) := by decide +kernel
theorem dL_armor_15 : decode cL_armor 15 = .ok (.astore_n 3, 1) := by decide +kernel
theorem dL_armor_16 : decode cL_armor 16 = .ok (.iconst 2, 1) := by decide +kernel
theorem dL_armor_17 : decode cL_armor 17 = .ok (.ireturn, 1) := by decide +kernel
theorem dL_armor_18 : decode cL_armor 18 = .ok (.iconst 0, 1) := by decide +kernel
theorem dL_armor_19 : decode cL_armor 19 = .ok (.ireturn, 1) := by decide +kernel
theorem dL_out_0 : decode cL_out 0 = .ok (.aload_n 2, 1) := by decide +kernel
theorem dL_out_1 : decode cL_out 1 = .ok (.iconst 0, 1) := by decide +kernel
theorem dL_out_2 : decode cL_out 2 = .ok (.aload_n 0, 1) := by decide +kernel
theorem dL_out_3 : decode cL_out 3 = .ok (.iload_n 1, 1) := by decide +kernel
theorem dL_out_4 : decode cL_out 4 = .ok (.invokevirtual 44, 3) := by decide +kernel
theorem dL_out_7 : decode cL_out 7 = .ok (.i2l, 1) := by decide +kernel
theorem dL_out_8 : decode cL_out 8 = .ok (.lastore, 1) := by decide +kernel
theorem dL_out_9 : decode cL_out 9 = .ok (.goto 6, 3) := by decide +kernel
theorem dL_out_12 : decode cL_out 12 = .ok (.astore_n 3, 1) := by decide +kernel
theorem dL_out_13 : decode cL_out 13 = .ok (.iconst 1, 1) := by decide +kernel
theorem dL_out_14 : decode cL_out 14 = .ok (.ireturn, 1) := by decide +kernel
theorem dL_out_15 : decode cL_out 15 = .ok (.iconst 0, 1) := by decide +kernel
theorem dL_out_16 : decode cL_out 16 = .ok (.ireturn, 1) := by decide +kernel
theorem dL_drop_0 : decode cL_drop 0 = .ok (.aload_n 2, 1) := by decide +kernel
theorem dL_drop_1 : decode cL_drop 1 = .ok (.iconst 0, 1) := by decide +kernel
theorem dL_drop_2 : decode cL_drop 2 = .ok (.aload_n 0, 1) := by decide +kernel
theorem dL_drop_3 : decode cL_drop 3 = .ok (.iload_n 1, 1) := by decide +kernel
theorem dL_drop_4 : decode cL_drop 4 = .ok (.invokevirtual 49, 3) := by decide +kernel
theorem dL_drop_7 : decode cL_drop 7 = .ok (.i2l, 1) := by decide +kernel
theorem dL_drop_8 : decode cL_drop 8 = .ok (.lastore, 1) := by decide +kernel
theorem dL_drop_9 : decode cL_drop 9 = .ok (.goto 6, 3) := by decide +kernel
theorem dL_drop_12 : decode cL_drop 12 = .ok (.astore_n 3, 1) := by decide +kernel
theorem dL_drop_13 : decode cL_drop 13 = .ok (.iconst 1, 1) := by decide +kernel
theorem dL_drop_14 : decode cL_drop 14 = .ok (.ireturn, 1) := by decide +kernel
theorem dL_drop_15 : decode cL_drop 15 = .ok (.iconst 0, 1) := by decide +kernel
theorem dL_drop_16 : decode cL_drop 16 = .ok (.ireturn, 1) := by decide +kernel
theorem dL_hash_0 : decode cL_hash 0 = .ok (.aload_n 3, 1) := by decide +kernel
theorem dL_hash_1 : decode cL_hash 1 = .ok (.iconst 0, 1) := by decide +kernel
theorem dL_hash_2 : decode cL_hash 2 = .ok (.aload_n 0, 1) := by decide +kernel
theorem dL_hash_3 : decode cL_hash 3 = .ok (.iload_n 1, 1) := by decide +kernel
theorem dL_hash_4 : decode cL_hash 4 = .ok (.iload_n 2, 1) := by decide +kernel
theorem dL_hash_5 : decode cL_hash 5 = .ok (.invokevirtual 52, 3) := by decide +kernel
theorem dL_hash_8 : decode cL_hash 8 = .ok (.i2l, 1) := by decide +kernel
theorem dL_hash_9 : decode cL_hash 9 = .ok (.lastore, 1) := by decide +kernel
theorem dL_hash_10 : decode cL_hash 10 = .ok (.goto 11, 3) := by decide +kernel
theorem dL_hash_13 : decode cL_hash 13 = .ok (.astore 4, 2) := by decide +kernel
theorem dL_hash_15 : decode cL_hash 15 = .ok (.iconst 1, 1) := by decide +kernel
theorem dL_hash_16 : decode cL_hash 16 = .ok (.ireturn, 1) := by decide +kernel
theorem dL_hash_17 : decode cL_hash 17 = .ok (.astore 4, 2) := by decide +kernel
theorem dL_hash_19 : decode cL_hash 19 = .ok (.iconst 2, 1) := by decide +kernel
theorem dL_hash_20 : decode cL_hash 20 = .ok (.ireturn, 1) := by decide +kernel
theorem dL_hash_21 : decode cL_hash 21 = .ok (.iconst 0, 1) := by decide +kernel
theorem dL_hash_22 : decode cL_hash 22 = .ok (.ireturn, 1) := by decide +kernel
theorem dL_law_0 : decode cL_law 0 = .ok (.new 8, 3) := by decide +kernel
theorem dL_law_3 : decode cL_law 3 = .ok (.dup, 1) := by decide +kernel
theorem dL_law_4 : decode cL_law 4 = .ok (.invokespecial 56, 3) := by decide +kernel
theorem dL_law_7 : decode cL_law 7 = .ok (.astore_n 1, 1) := by decide +kernel
theorem dL_law_8 : decode cL_law 8 = .ok (.new 57, 3) := by decide +kernel
theorem dL_law_11 : decode cL_law 11 = .ok (.dup, 1) := by decide +kernel
theorem dL_law_12 : decode cL_law 12 = .ok (.invokespecial 59, 3) := by decide +kernel
theorem dL_law_15 : decode cL_law 15 = .ok (.astore_n 2, 1) := by decide +kernel
theorem dL_law_16 : decode cL_law 16 = .ok (.iconst 1, 1) := by decide +kernel
theorem dL_law_17 : decode cL_law 17 = .ok (.newarray .long, 2) := by decide +kernel
theorem dL_law_19 : decode cL_law 19 = .ok (.astore_n 3, 1) := by decide +kernel
theorem dL_law_20 : decode cL_law 20 = .ok (.iconst 0, 1) := by decide +kernel
theorem dL_law_21 : decode cL_law 21 = .ok (.istore 4, 2) := by decide +kernel
theorem dL_law_23 : decode cL_law 23 = .ok (.iload 4, 2) := by decide +kernel
theorem dL_law_25 : decode cL_law 25 = .ok (.aload_n 0, 1) := by decide +kernel
theorem dL_law_26 : decode cL_law 26 = .ok (.arraylength, 1) := by decide +kernel
theorem dL_law_27 : decode cL_law 27 = .ok (.bipush 6, 2) := by decide +kernel
theorem dL_law_29 : decode cL_law 29 = .ok (.isub, 1) := by decide +kernel
theorem dL_law_30 : decode cL_law 30 = .ok (.if_icmp .gt 993, 3) := by decide +kernel
theorem dL_law_33 : decode cL_law 33 = .ok (.aload_n 0, 1) := by decide +kernel
theorem dL_law_34 : decode cL_law 34 = .ok (.iload 4, 2) := by decide +kernel
theorem dL_law_36 : decode cL_law 36 = .ok (.iaload, 1) := by decide +kernel
theorem dL_law_37 : decode cL_law 37 = .ok (.bipush 15, 2) := by decide +kernel
theorem dL_law_39 : decode cL_law 39 = .ok (.iand, 1) := by decide +kernel
theorem dL_law_40 : decode cL_law 40 = .ok (.tableswitch 977 0 15 #[80, 149, 162, 175, 263, 276, 343, 423, 535, 659, 715, 771, 827, 840, 853, 909], 80) := by decide +kernel
theorem dL_law_120 : decode cL_law 120 = .ok (.aload_n 1, 1) := by decide +kernel
theorem dL_law_121 : decode cL_law 121 = .ok (.aload_n 0, 1) := by decide +kernel
theorem dL_law_122 : decode cL_law 122 = .ok (.iload 4, 2) := by decide +kernel
theorem dL_law_124 : decode cL_law 124 = .ok (.iconst 1, 1) := by decide +kernel
theorem dL_law_125 : decode cL_law 125 = .ok (.iadd, 1) := by decide +kernel
theorem dL_law_126 : decode cL_law 126 = .ok (.iaload, 1) := by decide +kernel
theorem dL_law_127 : decode cL_law 127 = .ok (.i2l, 1) := by decide +kernel
theorem dL_law_128 : decode cL_law 128 = .ok (.bipush 32, 2) := by decide +kernel
theorem dL_law_130 : decode cL_law 130 = .ok (.lshl, 1) := by decide +kernel
theorem dL_law_131 : decode cL_law 131 = .ok (.aload_n 0, 1) := by decide +kernel
theorem dL_law_132 : decode cL_law 132 = .ok (.iload 4, 2) := by decide +kernel
theorem dL_law_134 : decode cL_law 134 = .ok (.iconst 2, 1) := by decide +kernel
theorem dL_law_135 : decode cL_law 135 = .ok (.iadd, 1) := by decide +kernel
theorem dL_law_136 : decode cL_law 136 = .ok (.iaload, 1) := by decide +kernel
theorem dL_law_137 : decode cL_law 137 = .ok (.i2l, 1) := by decide +kernel
theorem dL_law_138 : decode cL_law 138 = .ok (.ldc2_w 60, 3) := by decide +kernel
theorem dL_law_141 : decode cL_law 141 = .ok (.land, 1) := by decide +kernel
theorem dL_law_142 : decode cL_law 142 = .ok (.lor, 1) := by decide +kernel
theorem dL_law_143 : decode cL_law 143 = .ok (.aload_n 0, 1) := by decide +kernel
theorem dL_law_144 : decode cL_law 144 = .ok (.iload 4, 2) := by decide +kernel
theorem dL_law_146 : decode cL_law 146 = .ok (.iconst 3, 1) := by decide +kernel
theorem dL_law_147 : decode cL_law 147 = .ok (.iadd, 1) := by decide +kernel
theorem dL_law_148 : decode cL_law 148 = .ok (.iaload, 1) := by decide +kernel
theorem dL_law_149 : decode cL_law 149 = .ok (.invokevirtual 62, 3) := by decide +kernel
theorem dL_law_152 : decode cL_law 152 = .ok (.aload_n 2, 1) := by decide +kernel
theorem dL_law_153 : decode cL_law 153 = .ok (.aload_n 0, 1) := by decide +kernel
theorem dL_law_154 : decode cL_law 154 = .ok (.iload 4, 2) := by decide +kernel
theorem dL_law_156 : decode cL_law 156 = .ok (.iconst 1, 1) := by decide +kernel
theorem dL_law_157 : decode cL_law 157 = .ok (.iadd, 1) := by decide +kernel
theorem dL_law_158 : decode cL_law 158 = .ok (.iaload, 1) := by decide +kernel
theorem dL_law_159 : decode cL_law 159 = .ok (.i2l, 1) := by decide +kernel
theorem dL_law_160 : decode cL_law 160 = .ok (.bipush 32, 2) := by decide +kernel
theorem dL_law_162 : decode cL_law 162 = .ok (.lshl, 1) := by decide +kernel
theorem dL_law_163 : decode cL_law 163 = .ok (.aload_n 0, 1) := by decide +kernel
theorem dL_law_164 : decode cL_law 164 = .ok (.iload 4, 2) := by decide +kernel
theorem dL_law_166 : decode cL_law 166 = .ok (.iconst 2, 1) := by decide +kernel
theorem dL_law_167 : decode cL_law 167 = .ok (.iadd, 1) := by decide +kernel
theorem dL_law_168 : decode cL_law 168 = .ok (.iaload, 1) := by decide +kernel
theorem dL_law_169 : decode cL_law 169 = .ok (.i2l, 1) := by decide +kernel
theorem dL_law_170 : decode cL_law 170 = .ok (.ldc2_w 60, 3) := by decide +kernel
theorem dL_law_173 : decode cL_law 173 = .ok (.land, 1) := by decide +kernel
theorem dL_law_174 : decode cL_law 174 = .ok (.lor, 1) := by decide +kernel
theorem dL_law_175 : decode cL_law 175 = .ok (.aload_n 0, 1) := by decide +kernel
theorem dL_law_176 : decode cL_law 176 = .ok (.iload 4, 2) := by decide +kernel
theorem dL_law_178 : decode cL_law 178 = .ok (.iconst 3, 1) := by decide +kernel
theorem dL_law_179 : decode cL_law 179 = .ok (.iadd, 1) := by decide +kernel
theorem dL_law_180 : decode cL_law 180 = .ok (.iaload, 1) := by decide +kernel
theorem dL_law_181 : decode cL_law 181 = .ok (.invokevirtual 66, 3) := by decide +kernel
theorem dL_law_184 : decode cL_law 184 = .ok (.if_icmp .eq 833, 3) := by decide +kernel
theorem dL_law_187 : decode cL_law 187 = .ok (.iconst 0, 1) := by decide +kernel
theorem dL_law_188 : decode cL_law 188 = .ok (.ireturn, 1) := by decide +kernel
theorem dL_law_189 : decode cL_law 189 = .ok (.aload_n 1, 1) := by decide +kernel
theorem dL_law_190 : decode cL_law 190 = .ok (.invokevirtual 67, 3) := by decide +kernel
theorem dL_law_193 : decode cL_law 193 = .ok (.aload_n 2, 1) := by decide +kernel
theorem dL_law_194 : decode cL_law 194 = .ok (.invokevirtual 71, 3) := by decide +kernel
theorem dL_law_197 : decode cL_law 197 = .ok (.if_icmp .eq 820, 3) := by decide +kernel
theorem dL_law_200 : decode cL_law 200 = .ok (.iconst 0, 1) := by decide +kernel
theorem dL_law_201 : decode cL_law 201 = .ok (.ireturn, 1) := by decide +kernel
theorem dL_law_202 : decode cL_law 202 = .ok (.aload_n 1, 1) := by decide +kernel
theorem dL_law_203 : decode cL_law 203 = .ok (.invokevirtual 72, 3) := by decide +kernel
theorem dL_law_206 : decode cL_law 206 = .ok (.aload_n 2, 1) := by decide +kernel
theorem dL_law_207 : decode cL_law 207 = .ok (.invokevirtual 75, 3) := by decide +kernel
theorem dL_law_210 : decode cL_law 210 = .ok (.if_icmp .eq 807, 3) := by decide +kernel
theorem dL_law_213 : decode cL_law 213 = .ok (.iconst 0, 1) := by decide +kernel
theorem dL_law_214 : decode cL_law 214 = .ok (.ireturn, 1) := by decide +kernel
theorem dL_law_215 : decode cL_law 215 = .ok (.aload_n 1, 1) := by decide +kernel
theorem dL_law_216 : decode cL_law 216 = .ok (.aload_n 0, 1) := by decide +kernel
theorem dL_law_217 : decode cL_law 217 = .ok (.iload 4, 2) := by decide +kernel
theorem dL_law_219 : decode cL_law 219 = .ok (.iconst 1, 1) := by decide +kernel
theorem dL_law_220 : decode cL_law 220 = .ok (.iadd, 1) := by decide +kernel
theorem dL_law_221 : decode cL_law 221 = .ok (.iaload, 1) := by decide +kernel
theorem dL_law_222 : decode cL_law 222 = .ok (.i2l, 1) := by decide +kernel
theorem dL_law_223 : decode cL_law 223 = .ok (.bipush 32, 2) := by decide +kernel
theorem dL_law_225 : decode cL_law 225 = .ok (.lshl, 1) := by decide +kernel
theorem dL_law_226 : decode cL_law 226 = .ok (.aload_n 0, 1) := by decide +kernel
theorem dL_law_227 : decode cL_law 227 = .ok (.iload 4, 2) := by decide +kernel
theorem dL_law_229 : decode cL_law 229 = .ok (.iconst 2, 1) := by decide +kernel
theorem dL_law_230 : decode cL_law 230 = .ok (.iadd, 1) := by decide +kernel
theorem dL_law_231 : decode cL_law 231 = .ok (.iaload, 1) := by decide +kernel
theorem dL_law_232 : decode cL_law 232 = .ok (.i2l, 1) := by decide +kernel
theorem dL_law_233 : decode cL_law 233 = .ok (.ldc2_w 60, 3) := by decide +kernel
theorem dL_law_236 : decode cL_law 236 = .ok (.land, 1) := by decide +kernel
theorem dL_law_237 : decode cL_law 237 = .ok (.lor, 1) := by decide +kernel
theorem dL_law_238 : decode cL_law 238 = .ok (.aload_n 3, 1) := by decide +kernel
theorem dL_law_239 : decode cL_law 239 = .ok (.invokestatic 76, 3) := by decide +kernel
theorem dL_law_242 : decode cL_law 242 = .ok (.istore 5, 2) := by decide +kernel
theorem dL_law_244 : decode cL_law 244 = .ok (.aload_n 2, 1) := by decide +kernel
theorem dL_law_245 : decode cL_law 245 = .ok (.aload_n 0, 1) := by decide +kernel
theorem dL_law_246 : decode cL_law 246 = .ok (.iload 4, 2) := by decide +kernel
theorem dL_law_248 : decode cL_law 248 = .ok (.iconst 1, 1) := by decide +kernel
theorem dL_law_249 : decode cL_law 249 = .ok (.iadd, 1) := by decide +kernel
theorem dL_law_250 : decode cL_law 250 = .ok (.iaload, 1) := by decide +kernel
theorem dL_law_251 : decode cL_law 251 = .ok (.i2l, 1) := by decide +kernel
theorem dL_law_252 : decode cL_law 252 = .ok (.bipush 32, 2) := by decide +kernel
theorem dL_law_254 : decode cL_law 254 = .ok (.lshl, 1) := by decide +kernel
theorem dL_law_255 : decode cL_law 255 = .ok (.aload_n 0, 1) := by decide +kernel
theorem dL_law_256 : decode cL_law 256 = .ok (.iload 4, 2) := by decide +kernel
theorem dL_law_258 : decode cL_law 258 = .ok (.iconst 2, 1) := by decide +kernel
theorem dL_law_259 : decode cL_law 259 = .ok (.iadd, 1) := by decide +kernel
theorem dL_law_260 : decode cL_law 260 = .ok (.iaload, 1) := by decide +kernel
theorem dL_law_261 : decode cL_law 261 = .ok (.i2l, 1) := by decide +kernel
theorem dL_law_262 : decode cL_law 262 = .ok (.ldc2_w 60, 3) := by decide +kernel
theorem dL_law_265 : decode cL_law 265 = .ok (.land, 1) := by decide +kernel
theorem dL_law_266 : decode cL_law 266 = .ok (.lor, 1) := by decide +kernel
theorem dL_law_267 : decode cL_law 267 = .ok (.invokevirtual 81, 3) := by decide +kernel
theorem dL_law_270 : decode cL_law 270 = .ok (.istore 6, 2) := by decide +kernel
theorem dL_law_272 : decode cL_law 272 = .ok (.aload_n 2, 1) := by decide +kernel
theorem dL_law_273 : decode cL_law 273 = .ok (.invokevirtual 82, 3) := by decide +kernel
theorem dL_law_276 : decode cL_law 276 = .ok (.iload 5, 2) := by decide +kernel
theorem dL_law_278 : decode cL_law 278 = .ok (.if_icmp .eq 5, 3) := by decide +kernel
theorem dL_law_281 : decode cL_law 281 = .ok (.iconst 0, 1) := by decide +kernel
theorem dL_law_282 : decode cL_law 282 = .ok (.ireturn, 1) := by decide +kernel
theorem dL_law_283 : decode cL_law 283 = .ok (.iload 5, 2) := by decide +kernel
theorem dL_law_285 : decode cL_law 285 = .ok (.ifCond .ne 15, 3) := by decide +kernel
theorem dL_law_288 : decode cL_law 288 = .ok (.aload_n 3, 1) := by decide +kernel
theorem dL_law_289 : decode cL_law 289 = .ok (.iconst 0, 1) := by decide +kernel
theorem dL_law_290 : decode cL_law 290 = .ok (.laload, 1) := by decide +kernel
theorem dL_law_291 : decode cL_law 291 = .ok (.iload 6, 2) := by decide +kernel
theorem dL_law_293 : decode cL_law 293 = .ok (.i2l, 1) := by decide +kernel
theorem dL_law_294 : decode cL_law 294 = .ok (.lcmp, 1) := by decide +kernel
theorem dL_law_295 : decode cL_law 295 = .ok (.ifCond .eq 5, 3) := by decide +kernel
theorem dL_law_298 : decode cL_law 298 = .ok (.iconst 0, 1) := by decide +kernel
theorem dL_law_299 : decode cL_law 299 = .ok (.ireturn, 1) := by decide +kernel
theorem dL_law_300 : decode cL_law 300 = .ok (.goto 717, 3) := by decide +kernel
theorem dL_law_303 : decode cL_law 303 = .ok (.aload_n 1, 1) := by decide +kernel
theorem dL_law_304 : decode cL_law 304 = .ok (.invokevirtual 85, 3) := by decide +kernel
theorem dL_law_307 : decode cL_law 307 = .ok (.aload_n 2, 1) := by decide +kernel
theorem dL_law_308 : decode cL_law 308 = .ok (.invokevirtual 88, 3) := by decide +kernel
theorem dL_law_311 : decode cL_law 311 = .ok (.if_icmp .eq 706, 3) := by decide +kernel
theorem dL_law_314 : decode cL_law 314 = .ok (.iconst 0, 1) := by decide +kernel
theorem dL_law_315 : decode cL_law 315 = .ok (.ireturn, 1) := by decide +kernel
theorem dL_law_316 : decode cL_law 316 = .ok (.aload_n 1, 1) := by decide +kernel
theorem dL_law_317 : decode cL_law 317 = .ok (.aload_n 0, 1) := by decide +kernel
theorem dL_law_318 : decode cL_law 318 = .ok (.iload 4, 2) := by decide +kernel
theorem dL_law_320 : decode cL_law 320 = .ok (.iconst 1, 1) := by decide +kernel
theorem dL_law_321 : decode cL_law 321 = .ok (.iadd, 1) := by decide +kernel
theorem dL_law_322 : decode cL_law 322 = .ok (.iaload, 1) := by decide +kernel
theorem dL_law_323 : decode cL_law 323 = .ok (.aload_n 0, 1) := by decide +kernel
theorem dL_law_324 : decode cL_law 324 = .ok (.iload 4, 2) := by decide +kernel
theorem dL_law_326 : decode cL_law 326 = .ok (.iconst 2, 1) := by decide +kernel
theorem dL_law_327 : decode cL_law 327 = .ok (.iadd, 1) := by decide +kernel
theorem dL_law_328 : decode cL_law 328 = .ok (.iaload, 1) := by decide +kernel
theorem dL_law_329 : decode cL_law 329 = .ok (.aload_n 3, 1) := by decide +kernel
theorem dL_law_330 : decode cL_law 330 = .ok (.invokestatic 89, 3) := by decide +kernel
theorem dL_law_333 : decode cL_law 333 = .ok (.istore 5, 2) := by decide +kernel
theorem dL_law_335 : decode cL_law 335 = .ok (.aload_n 2, 1) := by decide +kernel
theorem dL_law_336 : decode cL_law 336 = .ok (.aload_n 0, 1) := by decide +kernel
theorem dL_law_337 : decode cL_law 337 = .ok (.iload 4, 2) := by decide +kernel
theorem dL_law_339 : decode cL_law 339 = .ok (.iconst 1, 1) := by decide +kernel
theorem dL_law_340 : decode cL_law 340 = .ok (.iadd, 1) := by decide +kernel
theorem dL_law_341 : decode cL_law 341 = .ok (.iaload, 1) := by decide +kernel
theorem dL_law_342 : decode cL_law 342 = .ok (.aload_n 0, 1) := by decide +kernel
theorem dL_law_343 : decode cL_law 343 = .ok (.iload 4, 2) := by decide +kernel
theorem dL_law_345 : decode cL_law 345 = .ok (.iconst 2, 1) := by decide +kernel
theorem dL_law_346 : decode cL_law 346 = .ok (.iadd, 1) := by decide +kernel
theorem dL_law_347 : decode cL_law 347 = .ok (.iaload, 1) := by decide +kernel
theorem dL_law_348 : decode cL_law 348 = .ok (.invokevirtual 92, 3) := by decide +kernel
theorem dL_law_351 : decode cL_law 351 = .ok (.lstore 6, 2) := by decide +kernel
theorem dL_law_353 : decode cL_law 353 = .ok (.aload_n 2, 1) := by decide +kernel
theorem dL_law_354 : decode cL_law 354 = .ok (.invokevirtual 82, 3) := by decide +kernel
theorem dL_law_357 : decode cL_law 357 = .ok (.iload 5, 2) := by decide +kernel
theorem dL_law_359 : decode cL_law 359 = .ok (.if_icmp .eq 5, 3) := by decide +kernel
theorem dL_law_362 : decode cL_law 362 = .ok (.iconst 0, 1) := by decide +kernel
theorem dL_law_363 : decode cL_law 363 = .ok (.ireturn, 1) := by decide +kernel
theorem dL_law_364 : decode cL_law 364 = .ok (.iload 5, 2) := by decide +kernel
theorem dL_law_366 : decode cL_law 366 = .ok (.ifCond .ne 14, 3) := by decide +kernel
theorem dL_law_369 : decode cL_law 369 = .ok (.aload_n 3, 1) := by decide +kernel
theorem dL_law_370 : decode cL_law 370 = .ok (.iconst 0, 1) := by decide +kernel
theorem dL_law_371 : decode cL_law 371 = .ok (.laload, 1) := by decide +kernel
theorem dL_law_372 : decode cL_law 372 = .ok (.lload 6, 2) := by decide +kernel
theorem dL_law_374 : decode cL_law 374 = .ok (.lcmp, 1) := by decide +kernel
theorem dL_law_375 : decode cL_law 375 = .ok (.ifCond .eq 5, 3) := by decide +kernel
theorem dL_law_378 : decode cL_law 378 = .ok (.iconst 0, 1) := by decide +kernel
theorem dL_law_379 : decode cL_law 379 = .ok (.ireturn, 1) := by decide +kernel
theorem dL_law_380 : decode cL_law 380 = .ok (.goto 637, 3) := by decide +kernel
theorem dL_law_383 : decode cL_law 383 = .ok (.aload_n 1, 1) := by decide +kernel
theorem dL_law_384 : decode cL_law 384 = .ok (.aload_n 0, 1) := by decide +kernel
theorem dL_law_385 : decode cL_law 385 = .ok (.iload 4, 2) := by decide +kernel
theorem dL_law_387 : decode cL_law 387 = .ok (.iconst 1, 1) := by decide +kernel
theorem dL_law_388 : decode cL_law 388 = .ok (.iadd, 1) := by decide +kernel
theorem dL_law_389 : decode cL_law 389 = .ok (.iaload, 1) := by decide +kernel
theorem dL_law_390 : decode cL_law 390 = .ok (.aload_n 0, 1) := by decide +kernel
theorem dL_law_391 : decode cL_law 391 = .ok (.iload 4, 2) := by decide +kernel
theorem dL_law_393 : decode cL_law 393 = .ok (.iconst 2, 1) := by decide +kernel
theorem dL_law_394 : decode cL_law 394 = .ok (.iadd, 1) := by decide +kernel
theorem dL_law_395 : decode cL_law 395 = .ok (.iaload, 1) := by decide +kernel
theorem dL_law_396 : decode cL_law 396 = .ok (.aload_n 0, 1) := by decide +kernel
theorem dL_law_397 : decode cL_law 397 = .ok (.iload 4, 2) := by decide +kernel
theorem dL_law_399 : decode cL_law 399 = .ok (.iconst 3, 1) := by decide +kernel
theorem dL_law_400 : decode cL_law 400 = .ok (.iadd, 1) := by decide +kernel
theorem dL_law_401 : decode cL_law 401 = .ok (.iaload, 1) := by decide +kernel
theorem dL_law_402 : decode cL_law 402 = .ok (.aload_n 3, 1) := by decide +kernel
theorem dL_law_403 : decode cL_law 403 = .ok (.invokestatic 93, 3) := by decide +kernel
theorem dL_law_406 : decode cL_law 406 = .ok (.istore 5, 2) := by decide +kernel
theorem dL_law_408 : decode cL_law 408 = .ok (.aload_n 2, 1) := by decide +kernel
theorem dL_law_409 : decode cL_law 409 = .ok (.aload_n 0, 1) := by decide +kernel
theorem dL_law_410 : decode cL_law 410 = .ok (.iload 4, 2) := by decide +kernel
theorem dL_law_412 : decode cL_law 412 = .ok (.iconst 1, 1) := by decide +kernel
theorem dL_law_413 : decode cL_law 413 = .ok (.iadd, 1) := by decide +kernel
theorem dL_law_414 : decode cL_law 414 = .ok (.iaload, 1) := by decide +kernel
theorem dL_law_415 : decode cL_law 415 = .ok (.aload_n 0, 1) := by decide +kernel
theorem dL_law_416 : decode cL_law 416 = .ok (.iload 4, 2) := by decide +kernel
theorem dL_law_418 : decode cL_law 418 = .ok (.iconst 2, 1) := by decide +kernel
theorem dL_law_419 : decode cL_law 419 = .ok (.iadd, 1) := by decide +kernel
theorem dL_law_420 : decode cL_law 420 = .ok (.iaload, 1) := by decide +kernel
theorem dL_law_421 : decode cL_law 421 = .ok (.aload_n 0, 1) := by decide +kernel
theorem dL_law_422 : decode cL_law 422 = .ok (.iload 4, 2) := by decide +kernel
theorem dL_law_424 : decode cL_law 424 = .ok (.iconst 3, 1) := by decide +kernel
theorem dL_law_425 : decode cL_law 425 = .ok (.iadd, 1) := by decide +kernel
theorem dL_law_426 : decode cL_law 426 = .ok (.iaload, 1) := by decide +kernel
theorem dL_law_427 : decode cL_law 427 = .ok (.invokevirtual 96, 3) := by decide +kernel
theorem dL_law_430 : decode cL_law 430 = .ok (.istore 6, 2) := by decide +kernel
theorem dL_law_432 : decode cL_law 432 = .ok (.aload_n 2, 1) := by decide +kernel
theorem dL_law_433 : decode cL_law 433 = .ok (.invokevirtual 82, 3) := by decide +kernel
theorem dL_law_436 : decode cL_law 436 = .ok (.iload 5, 2) := by decide +kernel
theorem dL_law_438 : decode cL_law 438 = .ok (.if_icmp .eq 5, 3) := by decide +kernel
theorem dL_law_441 : decode cL_law 441 = .ok (.iconst 0, 1) := by decide +kernel
theorem dL_law_442 : decode cL_law 442 = .ok (.ireturn, 1) := by decide +kernel
theorem dL_law_443 : decode cL_law 443 = .ok (.iload 5, 2) := by decide +kernel
theorem dL_law_445 : decode cL_law 445 = .ok (.ifCond .ne 15, 3) := by decide +kernel
theorem dL_law_448 : decode cL_law 448 = .ok (.aload_n 3, 1) := by decide +kernel
theorem dL_law_449 : decode cL_law 449 = .ok (.iconst 0, 1) := by decide +kernel
theorem dL_law_450 : decode cL_law 450 = .ok (.laload, 1) := by decide +kernel
theorem dL_law_451 : decode cL_law 451 = .ok (.iload 6, 2) := by decide +kernel
theorem dL_law_453 : decode cL_law 453 = .ok (.i2l, 1) := by decide +kernel
theorem dL_law_454 : decode cL_law 454 = .ok (.lcmp, 1) := by decide +kernel
theorem dL_law_455 : decode cL_law 455 = .ok (.ifCond .eq 5, 3) := by decide +kernel
theorem dL_law_458 : decode cL_law 458 = .ok (.iconst 0, 1) := by decide +kernel
theorem dL_law_459 : decode cL_law 459 = .ok (.ireturn, 1) := by decide +kernel
theorem dL_law_460 : decode cL_law 460 = .ok (.goto 557, 3) := by decide +kernel
theorem dL_law_463 : decode cL_law 463 = .ok (.aload_n 1, 1) := by decide +kernel
theorem dL_law_464 : decode cL_law 464 = .ok (.aload_n 0, 1) := by decide +kernel
theorem dL_law_465 : decode cL_law 465 = .ok (.iload 4, 2) := by decide +kernel
theorem dL_law_467 : decode cL_law 467 = .ok (.iconst 1, 1) := by decide +kernel
theorem dL_law_468 : decode cL_law 468 = .ok (.iadd, 1) := by decide +kernel
theorem dL_law_469 : decode cL_law 469 = .ok (.iaload, 1) := by decide +kernel
theorem dL_law_470 : decode cL_law 470 = .ok (.aload_n 0, 1) := by decide +kernel
theorem dL_law_471 : decode cL_law 471 = .ok (.iload 4, 2) := by decide +kernel
theorem dL_law_473 : decode cL_law 473 = .ok (.iconst 2, 1) := by decide +kernel
theorem dL_law_474 : decode cL_law 474 = .ok (.iadd, 1) := by decide +kernel
theorem dL_law_475 : decode cL_law 475 = .ok (.iaload, 1) := by decide +kernel
theorem dL_law_476 : decode cL_law 476 = .ok (.aload_n 0, 1) := by decide +kernel
theorem dL_law_477 : decode cL_law 477 = .ok (.iload 4, 2) := by decide +kernel
theorem dL_law_479 : decode cL_law 479 = .ok (.iconst 3, 1) := by decide +kernel
theorem dL_law_480 : decode cL_law 480 = .ok (.iadd, 1) := by decide +kernel
theorem dL_law_481 : decode cL_law 481 = .ok (.iaload, 1) := by decide +kernel
theorem dL_law_482 : decode cL_law 482 = .ok (.i2l, 1) := by decide +kernel
theorem dL_law_483 : decode cL_law 483 = .ok (.bipush 32, 2) := by decide +kernel
theorem dL_law_485 : decode cL_law 485 = .ok (.lshl, 1) := by decide +kernel
theorem dL_law_486 : decode cL_law 486 = .ok (.aload_n 0, 1) := by decide +kernel
theorem dL_law_487 : decode cL_law 487 = .ok (.iload 4, 2) := by decide +kernel
theorem dL_law_489 : decode cL_law 489 = .ok (.iconst 4, 1) := by decide +kernel
theorem dL_law_490 : decode cL_law 490 = .ok (.iadd, 1) := by decide +kernel
theorem dL_law_491 : decode cL_law 491 = .ok (.iaload, 1) := by decide +kernel
theorem dL_law_492 : decode cL_law 492 = .ok (.i2l, 1) := by decide +kernel
theorem dL_law_493 : decode cL_law 493 = .ok (.ldc2_w 60, 3) := by decide +kernel
theorem dL_law_496 : decode cL_law 496 = .ok (.land, 1) := by decide +kernel
theorem dL_law_497 : decode cL_law 497 = .ok (.lor, 1) := by decide +kernel
theorem dL_law_498 : decode cL_law 498 = .ok (.aload_n 3, 1) := by decide +kernel
theorem dL_law_499 : decode cL_law 499 = .ok (.invokestatic 97, 3) := by decide +kernel
theorem dL_law_502 : decode cL_law 502 = .ok (.istore 5, 2) := by decide +kernel
theorem dL_law_504 : decode cL_law 504 = .ok (.aload_n 2, 1) := by decide +kernel
theorem dL_law_505 : decode cL_law 505 = .ok (.aload_n 0, 1) := by decide +kernel
theorem dL_law_506 : decode cL_law 506 = .ok (.iload 4, 2) := by decide +kernel
theorem dL_law_508 : decode cL_law 508 = .ok (.iconst 1, 1) := by decide +kernel
theorem dL_law_509 : decode cL_law 509 = .ok (.iadd, 1) := by decide +kernel
theorem dL_law_510 : decode cL_law 510 = .ok (.iaload, 1) := by decide +kernel
theorem dL_law_511 : decode cL_law 511 = .ok (.aload_n 0, 1) := by decide +kernel
theorem dL_law_512 : decode cL_law 512 = .ok (.iload 4, 2) := by decide +kernel
theorem dL_law_514 : decode cL_law 514 = .ok (.iconst 2, 1) := by decide +kernel
theorem dL_law_515 : decode cL_law 515 = .ok (.iadd, 1) := by decide +kernel
theorem dL_law_516 : decode cL_law 516 = .ok (.iaload, 1) := by decide +kernel
theorem dL_law_517 : decode cL_law 517 = .ok (.aload_n 0, 1) := by decide +kernel
theorem dL_law_518 : decode cL_law 518 = .ok (.iload 4, 2) := by decide +kernel
theorem dL_law_520 : decode cL_law 520 = .ok (.iconst 3, 1) := by decide +kernel
theorem dL_law_521 : decode cL_law 521 = .ok (.iadd, 1) := by decide +kernel
theorem dL_law_522 : decode cL_law 522 = .ok (.iaload, 1) := by decide +kernel
theorem dL_law_523 : decode cL_law 523 = .ok (.i2l, 1) := by decide +kernel
theorem dL_law_524 : decode cL_law 524 = .ok (.bipush 32, 2) := by decide +kernel
theorem dL_law_526 : decode cL_law 526 = .ok (.lshl, 1) := by decide +kernel
theorem dL_law_527 : decode cL_law 527 = .ok (.aload_n 0, 1) := by decide +kernel
theorem dL_law_528 : decode cL_law 528 = .ok (.iload 4, 2) := by decide +kernel
theorem dL_law_530 : decode cL_law 530 = .ok (.iconst 4, 1) := by decide +kernel
theorem dL_law_531 : decode cL_law 531 = .ok (.iadd, 1) := by decide +kernel
theorem dL_law_532 : decode cL_law 532 = .ok (.iaload, 1) := by decide +kernel
theorem dL_law_533 : decode cL_law 533 = .ok (.i2l, 1) := by decide +kernel
theorem dL_law_534 : decode cL_law 534 = .ok (.ldc2_w 60, 3) := by decide +kernel
theorem dL_law_537 : decode cL_law 537 = .ok (.land, 1) := by decide +kernel
theorem dL_law_538 : decode cL_law 538 = .ok (.lor, 1) := by decide +kernel
theorem dL_law_539 : decode cL_law 539 = .ok (.invokevirtual 100, 3) := by decide +kernel
theorem dL_law_542 : decode cL_law 542 = .ok (.istore 6, 2) := by decide +kernel
theorem dL_law_544 : decode cL_law 544 = .ok (.aload_n 2, 1) := by decide +kernel
theorem dL_law_545 : decode cL_law 545 = .ok (.invokevirtual 82, 3) := by decide +kernel
theorem dL_law_548 : decode cL_law 548 = .ok (.iload 5, 2) := by decide +kernel
theorem dL_law_550 : decode cL_law 550 = .ok (.if_icmp .eq 5, 3) := by decide +kernel
theorem dL_law_553 : decode cL_law 553 = .ok (.iconst 0, 1) := by decide +kernel
theorem dL_law_554 : decode cL_law 554 = .ok (.ireturn, 1) := by decide +kernel
theorem dL_law_555 : decode cL_law 555 = .ok (.iload 5, 2) := by decide +kernel
theorem dL_law_557 : decode cL_law 557 = .ok (.ifCond .ne 15, 3) := by decide +kernel
theorem dL_law_560 : decode cL_law 560 = .ok (.aload_n 3, 1) := by decide +kernel
theorem dL_law_561 : decode cL_law 561 = .ok (.iconst 0, 1) := by decide +kernel
theorem dL_law_562 : decode cL_law 562 = .ok (.laload, 1) := by decide +kernel
theorem dL_law_563 : decode cL_law 563 = .ok (.iload 6, 2) := by decide +kernel
theorem dL_law_565 : decode cL_law 565 = .ok (.i2l, 1) := by decide +kernel
theorem dL_law_566 : decode cL_law 566 = .ok (.lcmp, 1) := by decide +kernel
theorem dL_law_567 : decode cL_law 567 = .ok (.ifCond .eq 5, 3) := by decide +kernel
theorem dL_law_570 : decode cL_law 570 = .ok (.iconst 0, 1) := by decide +kernel
theorem dL_law_571 : decode cL_law 571 = .ok (.ireturn, 1) := by decide +kernel
theorem dL_law_572 : decode cL_law 572 = .ok (.goto 445, 3) := by decide +kernel
theorem dL_law_575 : decode cL_law 575 = .ok (.aload_n 1, 1) := by decide +kernel
theorem dL_law_576 : decode cL_law 576 = .ok (.aload_n 0, 1) := by decide +kernel
theorem dL_law_577 : decode cL_law 577 = .ok (.iload 4, 2) := by decide +kernel
theorem dL_law_579 : decode cL_law 579 = .ok (.iconst 1, 1) := by decide +kernel
theorem dL_law_580 : decode cL_law 580 = .ok (.iadd, 1) := by decide +kernel
theorem dL_law_581 : decode cL_law 581 = .ok (.iaload, 1) := by decide +kernel
theorem dL_law_582 : decode cL_law 582 = .ok (.aload_n 0, 1) := by decide +kernel
theorem dL_law_583 : decode cL_law 583 = .ok (.iload 4, 2) := by decide +kernel
theorem dL_law_585 : decode cL_law 585 = .ok (.iconst 2, 1) := by decide +kernel
theorem dL_law_586 : decode cL_law 586 = .ok (.iadd, 1) := by decide +kernel
theorem dL_law_587 : decode cL_law 587 = .ok (.iaload, 1) := by decide +kernel
theorem dL_law_588 : decode cL_law 588 = .ok (.aload_n 0, 1) := by decide +kernel
theorem dL_law_589 : decode cL_law 589 = .ok (.iload 4, 2) := by decide +kernel
theorem dL_law_591 : decode cL_law 591 = .ok (.iconst 3, 1) := by decide +kernel
theorem dL_law_592 : decode cL_law 592 = .ok (.iadd, 1) := by decide +kernel
theorem dL_law_593 : decode cL_law 593 = .ok (.iaload, 1) := by decide +kernel
theorem dL_law_594 : decode cL_law 594 = .ok (.aload_n 0, 1) := by decide +kernel
theorem dL_law_595 : decode cL_law 595 = .ok (.iload 4, 2) := by decide +kernel
theorem dL_law_597 : decode cL_law 597 = .ok (.iconst 4, 1) := by decide +kernel
theorem dL_law_598 : decode cL_law 598 = .ok (.iadd, 1) := by decide +kernel
theorem dL_law_599 : decode cL_law 599 = .ok (.iaload, 1) := by decide +kernel
theorem dL_law_600 : decode cL_law 600 = .ok (.i2l, 1) := by decide +kernel
theorem dL_law_601 : decode cL_law 601 = .ok (.bipush 32, 2) := by decide +kernel
theorem dL_law_603 : decode cL_law 603 = .ok (.lshl, 1) := by decide +kernel
theorem dL_law_604 : decode cL_law 604 = .ok (.aload_n 0, 1) := by decide +kernel
theorem dL_law_605 : decode cL_law 605 = .ok (.iload 4, 2) := by decide +kernel
theorem dL_law_607 : decode cL_law 607 = .ok (.iconst 5, 1) := by decide +kernel
theorem dL_law_608 : decode cL_law 608 = .ok (.iadd, 1) := by decide +kernel
theorem dL_law_609 : decode cL_law 609 = .ok (.iaload, 1) := by decide +kernel
theorem dL_law_610 : decode cL_law 610 = .ok (.i2l, 1) := by decide +kernel
theorem dL_law_611 : decode cL_law 611 = .ok (.ldc2_w 60, 3) := by decide +kernel
theorem dL_law_614 : decode cL_law 614 = .ok (.land, 1) := by decide +kernel
theorem dL_law_615 : decode cL_law 615 = .ok (.lor, 1) := by decide +kernel
theorem dL_law_616 : decode cL_law 616 = .ok (.aload_n 3, 1) := by decide +kernel
theorem dL_law_617 : decode cL_law 617 = .ok (.invokestatic 101, 3) := by decide +kernel
theorem dL_law_620 : decode cL_law 620 = .ok (.istore 5, 2) := by decide +kernel
theorem dL_law_622 : decode cL_law 622 = .ok (.aload_n 2, 1) := by decide +kernel
theorem dL_law_623 : decode cL_law 623 = .ok (.aload_n 0, 1) := by decide +kernel
theorem dL_law_624 : decode cL_law 624 = .ok (.iload 4, 2) := by decide +kernel
theorem dL_law_626 : decode cL_law 626 = .ok (.iconst 1, 1) := by decide +kernel
theorem dL_law_627 : decode cL_law 627 = .ok (.iadd, 1) := by decide +kernel
theorem dL_law_628 : decode cL_law 628 = .ok (.iaload, 1) := by decide +kernel
theorem dL_law_629 : decode cL_law 629 = .ok (.aload_n 0, 1) := by decide +kernel
theorem dL_law_630 : decode cL_law 630 = .ok (.iload 4, 2) := by decide +kernel
theorem dL_law_632 : decode cL_law 632 = .ok (.iconst 2, 1) := by decide +kernel
theorem dL_law_633 : decode cL_law 633 = .ok (.iadd, 1) := by decide +kernel
theorem dL_law_634 : decode cL_law 634 = .ok (.iaload, 1) := by decide +kernel
theorem dL_law_635 : decode cL_law 635 = .ok (.aload_n 0, 1) := by decide +kernel
theorem dL_law_636 : decode cL_law 636 = .ok (.iload 4, 2) := by decide +kernel
theorem dL_law_638 : decode cL_law 638 = .ok (.iconst 3, 1) := by decide +kernel
theorem dL_law_639 : decode cL_law 639 = .ok (.iadd, 1) := by decide +kernel
theorem dL_law_640 : decode cL_law 640 = .ok (.iaload, 1) := by decide +kernel
theorem dL_law_641 : decode cL_law 641 = .ok (.aload_n 0, 1) := by decide +kernel
theorem dL_law_642 : decode cL_law 642 = .ok (.iload 4, 2) := by decide +kernel
theorem dL_law_644 : decode cL_law 644 = .ok (.iconst 4, 1) := by decide +kernel
theorem dL_law_645 : decode cL_law 645 = .ok (.iadd, 1) := by decide +kernel
theorem dL_law_646 : decode cL_law 646 = .ok (.iaload, 1) := by decide +kernel
theorem dL_law_647 : decode cL_law 647 = .ok (.i2l, 1) := by decide +kernel
theorem dL_law_648 : decode cL_law 648 = .ok (.bipush 32, 2) := by decide +kernel
theorem dL_law_650 : decode cL_law 650 = .ok (.lshl, 1) := by decide +kernel
theorem dL_law_651 : decode cL_law 651 = .ok (.aload_n 0, 1) := by decide +kernel
theorem dL_law_652 : decode cL_law 652 = .ok (.iload 4, 2) := by decide +kernel
theorem dL_law_654 : decode cL_law 654 = .ok (.iconst 5, 1) := by decide +kernel
theorem dL_law_655 : decode cL_law 655 = .ok (.iadd, 1) := by decide +kernel
theorem dL_law_656 : decode cL_law 656 = .ok (.iaload, 1) := by decide +kernel
theorem dL_law_657 : decode cL_law 657 = .ok (.i2l, 1) := by decide +kernel
theorem dL_law_658 : decode cL_law 658 = .ok (.ldc2_w 60, 3) := by decide +kernel
theorem dL_law_661 : decode cL_law 661 = .ok (.land, 1) := by decide +kernel
theorem dL_law_662 : decode cL_law 662 = .ok (.lor, 1) := by decide +kernel
theorem dL_law_663 : decode cL_law 663 = .ok (.invokevirtual 104, 3) := by decide +kernel
theorem dL_law_666 : decode cL_law 666 = .ok (.istore 6, 2) := by decide +kernel
theorem dL_law_668 : decode cL_law 668 = .ok (.aload_n 2, 1) := by decide +kernel
theorem dL_law_669 : decode cL_law 669 = .ok (.invokevirtual 82, 3) := by decide +kernel
theorem dL_law_672 : decode cL_law 672 = .ok (.iload 5, 2) := by decide +kernel
theorem dL_law_674 : decode cL_law 674 = .ok (.if_icmp .eq 5, 3) := by decide +kernel
theorem dL_law_677 : decode cL_law 677 = .ok (.iconst 0, 1) := by decide +kernel
theorem dL_law_678 : decode cL_law 678 = .ok (.ireturn, 1) := by decide +kernel
theorem dL_law_679 : decode cL_law 679 = .ok (.iload 5, 2) := by decide +kernel
theorem dL_law_681 : decode cL_law 681 = .ok (.ifCond .ne 15, 3) := by decide +kernel
theorem dL_law_684 : decode cL_law 684 = .ok (.aload_n 3, 1) := by decide +kernel
theorem dL_law_685 : decode cL_law 685 = .ok (.iconst 0, 1) := by decide +kernel
theorem dL_law_686 : decode cL_law 686 = .ok (.laload, 1) := by decide +kernel
theorem dL_law_687 : decode cL_law 687 = .ok (.iload 6, 2) := by decide +kernel
theorem dL_law_689 : decode cL_law 689 = .ok (.i2l, 1) := by decide +kernel
theorem dL_law_690 : decode cL_law 690 = .ok (.lcmp, 1) := by decide +kernel
theorem dL_law_691 : decode cL_law 691 = .ok (.ifCond .eq 5, 3) := by decide +kernel
theorem dL_law_694 : decode cL_law 694 = .ok (.iconst 0, 1) := by decide +kernel
theorem dL_law_695 : decode cL_law 695 = .ok (.ireturn, 1) := by decide +kernel
theorem dL_law_696 : decode cL_law 696 = .ok (.goto 321, 3) := by decide +kernel
theorem dL_law_699 : decode cL_law 699 = .ok (.aload_n 1, 1) := by decide +kernel
theorem dL_law_700 : decode cL_law 700 = .ok (.aload_n 0, 1) := by decide +kernel
theorem dL_law_701 : decode cL_law 701 = .ok (.iload 4, 2) := by decide +kernel
theorem dL_law_703 : decode cL_law 703 = .ok (.iconst 1, 1) := by decide +kernel
theorem dL_law_704 : decode cL_law 704 = .ok (.iadd, 1) := by decide +kernel
theorem dL_law_705 : decode cL_law 705 = .ok (.iaload, 1) := by decide +kernel
theorem dL_law_706 : decode cL_law 706 = .ok (.aload_n 3, 1) := by decide +kernel
theorem dL_law_707 : decode cL_law 707 = .ok (.invokestatic 105, 3) := by decide +kernel
theorem dL_law_710 : decode cL_law 710 = .ok (.istore 5, 2) := by decide +kernel
theorem dL_law_712 : decode cL_law 712 = .ok (.aload_n 2, 1) := by decide +kernel
theorem dL_law_713 : decode cL_law 713 = .ok (.aload_n 0, 1) := by decide +kernel
theorem dL_law_714 : decode cL_law 714 = .ok (.iload 4, 2) := by decide +kernel
theorem dL_law_716 : decode cL_law 716 = .ok (.iconst 1, 1) := by decide +kernel
theorem dL_law_717 : decode cL_law 717 = .ok (.iadd, 1) := by decide +kernel
theorem dL_law_718 : decode cL_law 718 = .ok (.iaload, 1) := by decide +kernel
theorem dL_law_719 : decode cL_law 719 = .ok (.invokevirtual 108, 3) := by decide +kernel
theorem dL_law_722 : decode cL_law 722 = .ok (.istore 6, 2) := by decide +kernel
theorem dL_law_724 : decode cL_law 724 = .ok (.aload_n 2, 1) := by decide +kernel
theorem dL_law_725 : decode cL_law 725 = .ok (.invokevirtual 82, 3) := by decide +kernel
theorem dL_law_728 : decode cL_law 728 = .ok (.iload 5, 2) := by decide +kernel
theorem dL_law_730 : decode cL_law 730 = .ok (.if_icmp .eq 5, 3) := by decide +kernel
theorem dL_law_733 : decode cL_law 733 = .ok (.iconst 0, 1) := by decide +kernel
theorem dL_law_734 : decode cL_law 734 = .ok (.ireturn, 1) := by decide +kernel
theorem dL_law_735 : decode cL_law 735 = .ok (.iload 5, 2) := by decide +kernel
theorem dL_law_737 : decode cL_law 737 = .ok (.ifCond .ne 15, 3) := by decide +kernel
theorem dL_law_740 : decode cL_law 740 = .ok (.aload_n 3, 1) := by decide +kernel
theorem dL_law_741 : decode cL_law 741 = .ok (.iconst 0, 1) := by decide +kernel
theorem dL_law_742 : decode cL_law 742 = .ok (.laload, 1) := by decide +kernel
theorem dL_law_743 : decode cL_law 743 = .ok (.iload 6, 2) := by decide +kernel
theorem dL_law_745 : decode cL_law 745 = .ok (.i2l, 1) := by decide +kernel
theorem dL_law_746 : decode cL_law 746 = .ok (.lcmp, 1) := by decide +kernel
theorem dL_law_747 : decode cL_law 747 = .ok (.ifCond .eq 5, 3) := by decide +kernel
theorem dL_law_750 : decode cL_law 750 = .ok (.iconst 0, 1) := by decide +kernel
theorem dL_law_751 : decode cL_law 751 = .ok (.ireturn, 1) := by decide +kernel
theorem dL_law_752 : decode cL_law 752 = .ok (.goto 265, 3) := by decide +kernel
theorem dL_law_755 : decode cL_law 755 = .ok (.aload_n 1, 1) := by decide +kernel
theorem dL_law_756 : decode cL_law 756 = .ok (.aload_n 0, 1) := by decide +kernel
theorem dL_law_757 : decode cL_law 757 = .ok (.iload 4, 2) := by decide +kernel
theorem dL_law_759 : decode cL_law 759 = .ok (.iconst 1, 1) := by decide +kernel
theorem dL_law_760 : decode cL_law 760 = .ok (.iadd, 1) := by decide +kernel
theorem dL_law_761 : decode cL_law 761 = .ok (.iaload, 1) := by decide +kernel
theorem dL_law_762 : decode cL_law 762 = .ok (.aload_n 3, 1) := by decide +kernel
theorem dL_law_763 : decode cL_law 763 = .ok (.invokestatic 109, 3) := by decide +kernel
theorem dL_law_766 : decode cL_law 766 = .ok (.istore 5, 2) := by decide +kernel
theorem dL_law_768 : decode cL_law 768 = .ok (.aload_n 2, 1) := by decide +kernel
theorem dL_law_769 : decode cL_law 769 = .ok (.aload_n 0, 1) := by decide +kernel
theorem dL_law_770 : decode cL_law 770 = .ok (.iload 4, 2) := by decide +kernel
theorem dL_law_772 : decode cL_law 772 = .ok (.iconst 1, 1) := by decide +kernel
theorem dL_law_773 : decode cL_law 773 = .ok (.iadd, 1) := by decide +kernel
theorem dL_law_774 : decode cL_law 774 = .ok (.iaload, 1) := by decide +kernel
theorem dL_law_775 : decode cL_law 775 = .ok (.invokevirtual 111, 3) := by decide +kernel
theorem dL_law_778 : decode cL_law 778 = .ok (.istore 6, 2) := by decide +kernel
theorem dL_law_780 : decode cL_law 780 = .ok (.aload_n 2, 1) := by decide +kernel
theorem dL_law_781 : decode cL_law 781 = .ok (.invokevirtual 82, 3) := by decide +kernel
theorem dL_law_784 : decode cL_law 784 = .ok (.iload 5, 2) := by decide +kernel
theorem dL_law_786 : decode cL_law 786 = .ok (.if_icmp .eq 5, 3) := by decide +kernel
theorem dL_law_789 : decode cL_law 789 = .ok (.iconst 0, 1) := by decide +kernel
theorem dL_law_790 : decode cL_law 790 = .ok (.ireturn, 1) := by decide +kernel
theorem dL_law_791 : decode cL_law 791 = .ok (.iload 5, 2) := by decide +kernel
theorem dL_law_793 : decode cL_law 793 = .ok (.ifCond .ne 15, 3) := by decide +kernel
theorem dL_law_796 : decode cL_law 796 = .ok (.aload_n 3, 1) := by decide +kernel
theorem dL_law_797 : decode cL_law 797 = .ok (.iconst 0, 1) := by decide +kernel
theorem dL_law_798 : decode cL_law 798 = .ok (.laload, 1) := by decide +kernel
theorem dL_law_799 : decode cL_law 799 = .ok (.iload 6, 2) := by decide +kernel
theorem dL_law_801 : decode cL_law 801 = .ok (.i2l, 1) := by decide +kernel
theorem dL_law_802 : decode cL_law 802 = .ok (.lcmp, 1) := by decide +kernel
theorem dL_law_803 : decode cL_law 803 = .ok (.ifCond .eq 5, 3) := by decide +kernel
theorem dL_law_806 : decode cL_law 806 = .ok (.iconst 0, 1) := by decide +kernel
theorem dL_law_807 : decode cL_law 807 = .ok (.ireturn, 1) := by decide +kernel
theorem dL_law_808 : decode cL_law 808 = .ok (.goto 209, 3) := by decide +kernel
theorem dL_law_811 : decode cL_law 811 = .ok (.aload_n 1, 1) := by decide +kernel
theorem dL_law_812 : decode cL_law 812 = .ok (.aload_n 0, 1) := by decide +kernel
theorem dL_law_813 : decode cL_law 813 = .ok (.iload 4, 2) := by decide +kernel
theorem dL_law_815 : decode cL_law 815 = .ok (.iconst 1, 1) := by decide +kernel
theorem dL_law_816 : decode cL_law 816 = .ok (.iadd, 1) := by decide +kernel
theorem dL_law_817 : decode cL_law 817 = .ok (.iaload, 1) := by decide +kernel
theorem dL_law_818 : decode cL_law 818 = .ok (.aload_n 3, 1) := by decide +kernel
theorem dL_law_819 : decode cL_law 819 = .ok (.invokestatic 112, 3) := by decide +kernel
theorem dL_law_822 : decode cL_law 822 = .ok (.istore 5, 2) := by decide +kernel
theorem dL_law_824 : decode cL_law 824 = .ok (.aload_n 2, 1) := by decide +kernel
theorem dL_law_825 : decode cL_law 825 = .ok (.aload_n 0, 1) := by decide +kernel
theorem dL_law_826 : decode cL_law 826 = .ok (.iload 4, 2) := by decide +kernel
theorem dL_law_828 : decode cL_law 828 = .ok (.iconst 1, 1) := by decide +kernel
theorem dL_law_829 : decode cL_law 829 = .ok (.iadd, 1) := by decide +kernel
theorem dL_law_830 : decode cL_law 830 = .ok (.iaload, 1) := by decide +kernel
theorem dL_law_831 : decode cL_law 831 = .ok (.invokevirtual 114, 3) := by decide +kernel
theorem dL_law_834 : decode cL_law 834 = .ok (.istore 6, 2) := by decide +kernel
theorem dL_law_836 : decode cL_law 836 = .ok (.aload_n 2, 1) := by decide +kernel
theorem dL_law_837 : decode cL_law 837 = .ok (.invokevirtual 82, 3) := by decide +kernel
theorem dL_law_840 : decode cL_law 840 = .ok (.iload 5, 2) := by decide +kernel
theorem dL_law_842 : decode cL_law 842 = .ok (.if_icmp .eq 5, 3) := by decide +kernel
theorem dL_law_845 : decode cL_law 845 = .ok (.iconst 0, 1) := by decide +kernel
theorem dL_law_846 : decode cL_law 846 = .ok (.ireturn, 1) := by decide +kernel
theorem dL_law_847 : decode cL_law 847 = .ok (.iload 5, 2) := by decide +kernel
theorem dL_law_849 : decode cL_law 849 = .ok (.ifCond .ne 15, 3) := by decide +kernel
theorem dL_law_852 : decode cL_law 852 = .ok (.aload_n 3, 1) := by decide +kernel
theorem dL_law_853 : decode cL_law 853 = .ok (.iconst 0, 1) := by decide +kernel
theorem dL_law_854 : decode cL_law 854 = .ok (.laload, 1) := by decide +kernel
theorem dL_law_855 : decode cL_law 855 = .ok (.iload 6, 2) := by decide +kernel
theorem dL_law_857 : decode cL_law 857 = .ok (.i2l, 1) := by decide +kernel
theorem dL_law_858 : decode cL_law 858 = .ok (.lcmp, 1) := by decide +kernel
theorem dL_law_859 : decode cL_law 859 = .ok (.ifCond .eq 5, 3) := by decide +kernel
theorem dL_law_862 : decode cL_law 862 = .ok (.iconst 0, 1) := by decide +kernel
theorem dL_law_863 : decode cL_law 863 = .ok (.ireturn, 1) := by decide +kernel
theorem dL_law_864 : decode cL_law 864 = .ok (.goto 153, 3) := by decide +kernel
theorem dL_law_867 : decode cL_law 867 = .ok (.aload_n 1, 1) := by decide +kernel
theorem dL_law_868 : decode cL_law 868 = .ok (.invokevirtual 115, 3) := by decide +kernel
theorem dL_law_871 : decode cL_law 871 = .ok (.aload_n 2, 1) := by decide +kernel
theorem dL_law_872 : decode cL_law 872 = .ok (.invokevirtual 118, 3) := by decide +kernel
theorem dL_law_875 : decode cL_law 875 = .ok (.if_icmp .eq 142, 3) := by decide +kernel
theorem dL_law_878 : decode cL_law 878 = .ok (.iconst 0, 1) := by decide +kernel
theorem dL_law_879 : decode cL_law 879 = .ok (.ireturn, 1) := by decide +kernel
theorem dL_law_880 : decode cL_law 880 = .ok (.aload_n 1, 1) := by decide +kernel
theorem dL_law_881 : decode cL_law 881 = .ok (.invokevirtual 119, 3) := by decide +kernel
theorem dL_law_884 : decode cL_law 884 = .ok (.aload_n 2, 1) := by decide +kernel
theorem dL_law_885 : decode cL_law 885 = .ok (.invokevirtual 122, 3) := by decide +kernel
theorem dL_law_888 : decode cL_law 888 = .ok (.if_icmp .eq 129, 3) := by decide +kernel
theorem dL_law_891 : decode cL_law 891 = .ok (.iconst 0, 1) := by decide +kernel
theorem dL_law_892 : decode cL_law 892 = .ok (.ireturn, 1) := by decide +kernel
theorem dL_law_893 : decode cL_law 893 = .ok (.aload_n 1, 1) := by decide +kernel
theorem dL_law_894 : decode cL_law 894 = .ok (.aload_n 0, 1) := by decide +kernel
theorem dL_law_895 : decode cL_law 895 = .ok (.iload 4, 2) := by decide +kernel
theorem dL_law_897 : decode cL_law 897 = .ok (.iconst 1, 1) := by decide +kernel
theorem dL_law_898 : decode cL_law 898 = .ok (.iadd, 1) := by decide +kernel
theorem dL_law_899 : decode cL_law 899 = .ok (.iaload, 1) := by decide +kernel
theorem dL_law_900 : decode cL_law 900 = .ok (.aload_n 3, 1) := by decide +kernel
theorem dL_law_901 : decode cL_law 901 = .ok (.invokestatic 123, 3) := by decide +kernel
theorem dL_law_904 : decode cL_law 904 = .ok (.istore 5, 2) := by decide +kernel
theorem dL_law_906 : decode cL_law 906 = .ok (.aload_n 2, 1) := by decide +kernel
theorem dL_law_907 : decode cL_law 907 = .ok (.aload_n 0, 1) := by decide +kernel
theorem dL_law_908 : decode cL_law 908 = .ok (.iload 4, 2) := by decide +kernel
theorem dL_law_910 : decode cL_law 910 = .ok (.iconst 1, 1) := by decide +kernel
theorem dL_law_911 : decode cL_law 911 = .ok (.iadd, 1) := by decide +kernel
theorem dL_law_912 : decode cL_law 912 = .ok (.iaload, 1) := by decide +kernel
theorem dL_law_913 : decode cL_law 913 = .ok (.invokevirtual 125, 3) := by decide +kernel
theorem dL_law_916 : decode cL_law 916 = .ok (.istore 6, 2) := by decide +kernel
theorem dL_law_918 : decode cL_law 918 = .ok (.aload_n 2, 1) := by decide +kernel
theorem dL_law_919 : decode cL_law 919 = .ok (.invokevirtual 82, 3) := by decide +kernel
theorem dL_law_922 : decode cL_law 922 = .ok (.iload 5, 2) := by decide +kernel
theorem dL_law_924 : decode cL_law 924 = .ok (.if_icmp .eq 5, 3) := by decide +kernel
theorem dL_law_927 : decode cL_law 927 = .ok (.iconst 0, 1) := by decide +kernel
theorem dL_law_928 : decode cL_law 928 = .ok (.ireturn, 1) := by decide +kernel
theorem dL_law_929 : decode cL_law 929 = .ok (.iload 5, 2) := by decide +kernel
theorem dL_law_931 : decode cL_law 931 = .ok (.ifCond .ne 15, 3) := by decide +kernel
theorem dL_law_934 : decode cL_law 934 = .ok (.aload_n 3, 1) := by decide +kernel
theorem dL_law_935 : decode cL_law 935 = .ok (.iconst 0, 1) := by decide +kernel
theorem dL_law_936 : decode cL_law 936 = .ok (.laload, 1) := by decide +kernel
theorem dL_law_937 : decode cL_law 937 = .ok (.iload 6, 2) := by decide +kernel
theorem dL_law_939 : decode cL_law 939 = .ok (.i2l, 1) := by decide +kernel
theorem dL_law_940 : decode cL_law 940 = .ok (.lcmp, 1) := by decide +kernel
theorem dL_law_941 : decode cL_law 941 = .ok (.ifCond .eq 5, 3) := by decide +kernel
theorem dL_law_944 : decode cL_law 944 = .ok (.iconst 0, 1) := by decide +kernel
theorem dL_law_945 : decode cL_law 945 = .ok (.ireturn, 1) := by decide +kernel
theorem dL_law_946 : decode cL_law 946 = .ok (.goto 71, 3) := by decide +kernel
theorem dL_law_949 : decode cL_law 949 = .ok (.aload_n 1, 1) := by decide +kernel
theorem dL_law_950 : decode cL_law 950 = .ok (.aload_n 0, 1) := by decide +kernel
theorem dL_law_951 : decode cL_law 951 = .ok (.iload 4, 2) := by decide +kernel
theorem dL_law_953 : decode cL_law 953 = .ok (.iconst 1, 1) := by decide +kernel
theorem dL_law_954 : decode cL_law 954 = .ok (.iadd, 1) := by decide +kernel
theorem dL_law_955 : decode cL_law 955 = .ok (.iaload, 1) := by decide +kernel
theorem dL_law_956 : decode cL_law 956 = .ok (.aload_n 0, 1) := by decide +kernel
theorem dL_law_957 : decode cL_law 957 = .ok (.iload 4, 2) := by decide +kernel
theorem dL_law_959 : decode cL_law 959 = .ok (.iconst 2, 1) := by decide +kernel
theorem dL_law_960 : decode cL_law 960 = .ok (.iadd, 1) := by decide +kernel
theorem dL_law_961 : decode cL_law 961 = .ok (.iaload, 1) := by decide +kernel
theorem dL_law_962 : decode cL_law 962 = .ok (.aload_n 3, 1) := by decide +kernel
theorem dL_law_963 : decode cL_law 963 = .ok (.invokestatic 126, 3) := by decide +kernel
theorem dL_law_966 : decode cL_law 966 = .ok (.istore 5, 2) := by decide +kernel
theorem dL_law_968 : decode cL_law 968 = .ok (.aload_n 2, 1) := by decide +kernel
theorem dL_law_969 : decode cL_law 969 = .ok (.aload_n 0, 1) := by decide +kernel
theorem dL_law_970 : decode cL_law 970 = .ok (.iload 4, 2) := by decide +kernel
theorem dL_law_972 : decode cL_law 972 = .ok (.iconst 1, 1) := by decide +kernel
theorem dL_law_973 : decode cL_law 973 = .ok (.iadd, 1) := by decide +kernel
theorem dL_law_974 : decode cL_law 974 = .ok (.iaload, 1) := by decide +kernel
theorem dL_law_975 : decode cL_law 975 = .ok (.aload_n 0, 1) := by decide +kernel
theorem dL_law_976 : decode cL_law 976 = .ok (.iload 4, 2) := by decide +kernel
theorem dL_law_978 : decode cL_law 978 = .ok (.iconst 2, 1) := by decide +kernel
theorem dL_law_979 : decode cL_law 979 = .ok (.iadd, 1) := by decide +kernel
theorem dL_law_980 : decode cL_law 980 = .ok (.iaload, 1) := by decide +kernel
theorem dL_law_981 : decode cL_law 981 = .ok (.invokevirtual 128, 3) := by decide +kernel
theorem dL_law_984 : decode cL_law 984 = .ok (.istore 6, 2) := by decide +kernel
theorem dL_law_986 : decode cL_law 986 = .ok (.aload_n 2, 1) := by decide +kernel
theorem dL_law_987 : decode cL_law 987 = .ok (.invokevirtual 82, 3) := by decide +kernel
theorem dL_law_990 : decode cL_law 990 = .ok (.iload 5, 2) := by decide +kernel
theorem dL_law_992 : decode cL_law 992 = .ok (.if_icmp .eq 5, 3) := by decide +kernel
theorem dL_law_995 : decode cL_law 995 = .ok (.iconst 0, 1) := by decide +kernel
theorem dL_law_996 : decode cL_law 996 = .ok (.ireturn, 1) := by decide +kernel
theorem dL_law_997 : decode cL_law 997 = .ok (.iload 5, 2) := by decide +kernel
theorem dL_law_999 : decode cL_law 999 = .ok (.ifCond .ne 15, 3) := by decide +kernel
theorem dL_law_1002 : decode cL_law 1002 = .ok (.aload_n 3, 1) := by decide +kernel
theorem dL_law_1003 : decode cL_law 1003 = .ok (.iconst 0, 1) := by decide +kernel
theorem dL_law_1004 : decode cL_law 1004 = .ok (.laload, 1) := by decide +kernel
theorem dL_law_1005 : decode cL_law 1005 = .ok (.iload 6, 2) := by decide +kernel
theorem dL_law_1007 : decode cL_law 1007 = .ok (.i2l, 1) := by decide +kernel
theorem dL_law_1008 : decode cL_law 1008 = .ok (.lcmp, 1) := by decide +kernel
theorem dL_law_1009 : decode cL_law 1009 = .ok (.ifCond .eq 5, 3) := by decide +kernel
theorem dL_law_1012 : decode cL_law 1012 = .ok (.iconst 0, 1) := by decide +kernel
theorem dL_law_1013 : decode cL_law 1013 = .ok (.ireturn, 1) := by decide +kernel
theorem dL_law_1014 : decode cL_law 1014 = .ok (.goto 3, 3) := by decide +kernel
theorem dL_law_1017 : decode cL_law 1017 = .ok (.iinc 4 6, 3) := by decide +kernel
theorem dL_law_1020 : decode cL_law 1020 = .ok (.goto (-997), 3) := by decide +kernel
theorem dL_law_1023 : decode cL_law 1023 = .ok (.iconst 1, 1) := by decide +kernel
theorem dL_law_1024 : decode cL_law 1024 = .ok (.ireturn, 1) := by decide +kernel
end
section
/-! The shape that all contracts here have: the array classes by one list, nest words and statics beside the world. -/
/-- the array classes: y 0 byte, y 1 int, y 2 long, y 3 boolean, y 4 Object, y 5 int[] (by its name) -/
abbrev zT (y : Nat → ClassId) : List (ClassId × FieldType) := [(y 0, .byte), (y 1, .int), (y 2, .long), (y 3, .boolean), (y 4, .object "java/lang/Object"), (y 5, .object "[I")]
theorem zz_one {D : va_G} {cl : List vw_C} {tys : List (ClassId × FieldType)} {s : State} {c1 c2 : ClassId} {ty : FieldType} (h : va_K D cl tys s) (i j : Nat) (hi : tys[i]? = some (c1, ty)) (hj : tys[j]? = some (c2, ty)) : c1 = c2 := by
  have h1 := (h.2 i _ hi).2
  have h2 := (h.2 j _ hj).2
  cases ty with
  | object C =>
    obtain ⟨_, _, _, _, _, e1⟩ := h1
    obtain ⟨_, _, _, _, _, e2⟩ := h2
    exact Option.some.inj (e1.symm.trans e2)
  | _ => exact Option.some.inj (Eq.trans (Eq.symm h1) h2)
/-- nest words that hold at a state -/
def zN (L : List (String × Nat × MethodName × String)) (U : State) : Prop := ∀ q ∈ L, va_Nw (.methodLinkNest q.1 q.2.1 q.2.2.1 q.2.2.2) U
theorem zN.warm {L : List (String × Nat × MethodName × String)} {s U : State} (hW : s.WarmedH U.vm) (h : zN L s) : zN L U := fun q hq => va_Nw.warmM hW (h q hq)
theorem zN.sub {L L' : List (String × Nat × MethodName × String)} {s : State} (h : zN L s) (hl : ∀ q ∈ L', q ∈ L) : zN L' s := fun q hq => h q (hl q hq)
/-- statics that hold given values, outside what may be written -/
def zE (E : List (String × String × String × Value)) (A : Nat → Prop) (U : State) (H : Heap) : Prop := ∀ q ∈ E, va_Z q.1 q.2.1 q.2.2.1 q.2.2.2 A U H
theorem zE.pass {E : List (String × String × String × Value)} {A B : Nat → Prop} {s U : State} {H : Heap} {locs : List Loc} (h : zE E A s s.heap) (hS : va_S A s.heap H locs) (hB : ∀ q, B q → A q) (hW : s.WarmedH U.vm) (hU : U.heap = H) : zE E B U U.heap := fun q hq => by
  have h1 := va_Z.kept (h q hq) (H1 := H) (fun a ha hn => hS.2.1 a ha hn)
  have h2 := va_Z.narrow h1 hB
  rw [hU]
  exact va_Z.moved hW.alike h2
theorem zE.sub {E E' : List (String × String × String × Value)} {A : Nat → Prop} {U : State} {H : Heap} (h : zE E A U H) (hl : ∀ q ∈ E', q ∈ E) : zE E' A U H := fun q hq => h q (hl q hq)
def zB (D : va_G) (y : Nat → ClassId) (ws : va_W) (sz : Nat) (L : List (String × Nat × MethodName × String)) (E : List (String × String × String × Value)) (U : State) : Prop :=
  U.heap.size = sz ∧ va_P D vwCl ws U.heap ∧ va_K D vwCl (zT y) U ∧ va_D (fun _ => True) ws ∧ zN L U ∧ zE E (va_A ws sz) U U.heap ∧ va_AO "[I" U
theorem zB.blind {av : List Value} {D : va_G} {y : Nat → ClassId} {ws : va_W} {sz : Nat} {L : List (String × Nat × MethodName × String)} {E : List (String × String × String × Value)} : FrameBlind (va_Pc av (zB D y ws sz L E)) := by
  intro a U g mk h
  obtain ⟨q0, q1, qP, qK, qD, qN, qE, qO⟩ := h
  exact ⟨q0, q1, qP, va_K.moved (u := U) (U := U.calling g mk a) (Vm.Alike.refl U.vm) qK, qD, fun q hq => va_Nw.same rfl rfl (qN q hq), fun q hq => va_Z.moved (u := U) (U := U.calling g mk a) (Vm.Alike.refl U.vm) (qE q hq), va_AO.moved (u := U) (U := U.calling g mk a) (Vm.Alike.refl U.vm) qO⟩
theorem zB.preS {av : List Value} {D : va_G} {y : Nat → ClassId} {wc : va_W} {A : Nat → Prop} {s : State} {H : Heap} {locs : List Loc} {L L' : List (String × Nat × MethodName × String)} {E E' : List (String × String × String × Value)} (hPc : va_P D vwCl wc H) (hDc : va_D A wc) (hK : va_K D vwCl (zT y) s) (hN : zN L s) (hE : zE E A s s.heap) (hO : va_AO "[I" s) (hS : va_S A s.heap H locs) (hF : ∀ q, va_A wc H.size q → A q) (hL : ∀ q ∈ L', q ∈ L) (hE' : ∀ q ∈ E', q ∈ E) : PreS s H (va_Pc av (zB D y wc H.size L' E')) av :=
  ⟨zB.blind, fun U hU hW => ⟨rfl, by rw [hU], by rw [hU]; exact hPc, va_K.moved hW.alike hK, hDc.weaken (fun _ _ _ _ => trivial), (zN.warm hW hN).sub hL, (hE.sub hE').pass hS hF hW hU, va_AO.moved hW.alike hO⟩⟩
theorem zB.preV {C : String} {b : Addr} {As : List Value} {D : va_G} {y : Nat → ClassId} {wc : va_W} {A : Nat → Prop} {s : State} {H : Heap} {locs : List Loc} {L L' : List (String × Nat × MethodName × String)} {E E' : List (String × String × String × Value)} (hPc : va_P D vwCl wc H) (hDc : va_D A wc) (hK : va_K D vwCl (zT y) s) (hN : zN L s) (hE : zE E A s s.heap) (hO : va_AO "[I" s) (hS : va_S A s.heap H locs) (hF : ∀ q, va_A wc H.size q → A q) (hL : ∀ q ∈ L', q ∈ L) (hE' : ∀ q ∈ E', q ∈ E) (hr : ∃ cell : Cell, H[b]? = some cell ∧ cell.vm.isStatics = false ∧ s.vm.findClass C = some cell.cls) : PreV s H C b (va_Pc (.ref b :: As) (zB D y wc H.size L' E')) As :=
  ⟨zB.blind, hr, fun U hU hW => ⟨rfl, by rw [hU], by rw [hU]; exact hPc, va_K.moved hW.alike hK, hDc.weaken (fun _ _ _ _ => trivial), (zN.warm hW hN).sub hL, (hE.sub hE').pass hS hF hW hU, va_AO.moved hW.alike hO⟩⟩
section ZNew
variable {p : Program} {l : Launch} {e : Env} {R : Room} {s : State} {m : MethodId} {args : Array Value} {below : List Frame} {meth : Method} {c : Code} {H : Heap} {locs : List Loc} {cells slots : Nat} {Q : State → Prop}
variable {cc : ByteArray} {pc : Nat} {ls : Array Slot} {rest : List Value} {D : va_G} {cl : List vw_C} {tys : List (ClassId × FieldType)} {ws : va_W} {A : Nat → Prop} {H0 : Heap}
theorem zz_newa (hexec : p.tables.exec = Jvm.exec) (hb : c.code = cc) {atype : ArrayType} (harr : (Cond.arrayClass (newarray.typeOf atype)).before args s = true) {ty : FieldType} (hty : newarray.typeOf atype = ty) (hK : va_K D cl tys s) (t0 : Nat) {cA : ClassId} (ht : tys[t0]? = some (cA, ty)) (hP : va_P D cl ws H) (hD : va_D A ws) (hS : va_S A H0 H locs) (hA : ∀ q, H0.size ≤ q → A q)
    {n : Int32} {N' : Nat} {a0 : vp_A} (ha : ∀ cA : ClassId, vp_cell cA a0 = arrV cA N' (fun _ => defaultValue ty)) (hn : ¬ n < 0) (hN : n.toNatClampNeg = N') (hbytes : N' * componentBytes ty ≤ 536870912) (hcells : cells + 1 ≤ R.cells) (hslots : slots + N' ≤ R.slots) (hdg : decode cc pc = .ok (.newarray atype, 2))
    (kk : ∀ (q : Nat) (H1 : Heap), va_P D cl (ws ++ [(q, .inl (cA, a0))]) H1 → va_D A (ws ++ [(q, .inl (cA, a0))]) → va_S A H0 H1 locs →
      W p l e R s m args below meth c H1 locs (cells + 1) (slots + N') Q (F0 m (pc + 2) ls (.ref q :: rest))) : W p l e R s m args below meth c H locs cells slots Q (F0 m pc ls (.int n :: rest)) := by
  refine va_newa hexec hb harr hty hK hP hD hS hA ha hn hN hbytes hcells hslots hdg (fun q cA' H1 hK1 hP1 hD1 hS1 => ?_)
  have hlt : t0 < tys.length := (List.getElem?_eq_some_iff.mp ht).1
  have e1 : cA' = cA := zz_one (c1 := cA') (c2 := cA) (ty := ty) hK1 tys.length t0 (by simp) (by rw [List.getElem?_append_left hlt]; exact ht)
  subst e1
  exact kk q H1 hP1 hD1 hS1
theorem zz_newq (hexec : p.tables.exec = Jvm.exec) (hb : c.code = cc) {own C : String} {index : Nat} (hown : s.vm.findClass own = some m.cls) (hclink : (Cond.classLink own index C).before args s = true) (hover : va_AO C s) (hK : va_K D cl tys s) (t0 : Nat) {cA : ClassId} (ht : tys[t0]? = some (cA, .object C)) (hP : va_P D cl ws H) (hD : va_D A ws) (hS : va_S A H0 H locs) (hA : ∀ q, H0.size ≤ q → A q)
    {n : Int32} {N' : Nat} (hn : ¬ n < 0) (hN : n.toNatClampNeg = N') (hbytes : N' * 4 ≤ 536870912) (hcells : cells + 1 ≤ R.cells) (hslots : slots + N' ≤ R.slots) (hdg : decode cc pc = .ok (.anewarray index, 3))
    (kk : ∀ (q : Nat) (H1 : Heap), va_P D cl (ws ++ [(q, .inl (cA, N', .inr (.inr (.inr (.inr (fun _ => none))))))]) H1 → va_D A (ws ++ [(q, .inl (cA, N', .inr (.inr (.inr (.inr (fun _ => none))))))]) → va_S A H0 H1 locs →
      W p l e R s m args below meth c H1 locs (cells + 1) (slots + N') Q (F0 m (pc + 3) ls (.ref q :: rest))) : W p l e R s m args below meth c H locs cells slots Q (F0 m pc ls (.int n :: rest)) := by
  refine va_newq hexec hb hown hclink hover hK hP hD hS hA hn hN hbytes hcells hslots hdg (fun q cA' H1 hK1 hP1 hD1 hS1 => ?_)
  have hlt : t0 < tys.length := (List.getElem?_eq_some_iff.mp ht).1
  have e1 : cA' = cA := zz_one (c1 := cA') (c2 := cA) (ty := .object C) hK1 tys.length t0 (by simp) (by rw [List.getElem?_append_left hlt]; exact ht)
  subst e1
  exact kk q H1 hP1 hD1 hS1
end ZNew
theorem zz_aB (n : Nat) (cA : ClassId) : vp_cell cA (n, .inl (fun _ => 0)) = arrV cA n (fun _ => defaultValue .byte) := rfl
theorem zz_aI (n : Nat) (cA : ClassId) : vp_cell cA (n, .inl (fun _ => 0)) = arrV cA n (fun _ => defaultValue .int) := rfl
theorem zz_aZ (n : Nat) (cA : ClassId) : vp_cell cA (n, .inl (fun _ => 0)) = arrV cA n (fun _ => defaultValue .boolean) := rfl
theorem zz_aJ (n : Nat) (cA : ClassId) : vp_cell cA (n, .inr (.inl (fun _ => 0))) = arrV cA n (fun _ => defaultValue .long) := rfl
end
section
def wz_c_X10_init_X10 : List Cond := .code yX10_init cX10_init 4 none :: ([.methodLink RX10 1 objectInit, .instanceMethod objectInit, .code objectInit ⟨#[0xb1]⟩ 1 none, .fieldLink RX10 7 "SignetRing$Span" "row" "[B", .fieldLink RX10 13 "SignetRing$Span" "from" "I", .fieldLink RX10 17 "SignetRing$Span" "size" "I"] ++ (wsX100 ++ ([])))
set_option maxHeartbeats 4000000 in
set_option maxRecDepth 100000 in
theorem c_X10_init_X10 (l : Launch) (D : va_G) (y : Nat → ClassId) (sz : Nat) (h0 : Nat) (b : Nat) (i1 : Int32) (i2 : Int32) : Met l yX10_init wz_c_X10_init_X10 ({ frames := 1, cells := 0, slots := 0, locals := 12 }) (va_Pc [.ref h0, .ref b, .int i1, .int i2] (zB D y [(h0, .inr (14, [.null, .int 0, .int 0]))] sz [] [])) (va_Qv (fun _ : Unit => True) (fun _ t => va_P D vwCl [(h0, .inr (14, [.ref b, .int i1, .int i2]))] t.heap ∧ va_D (va_A [(h0, .inr (14, [.null, .int 0, .int 0]))] sz) [(h0, .inr (14, [.ref b, .int i1, .int i2]))]) (va_A [(h0, .inr (14, [.null, .int 0, .int 0]))] sz)) 0 0 (va_A [(h0, .inr (14, [.null, .int 0, .int 0]))] sz) := by
  refine Met.ofW (cc := cX10_init) (maxL := 4) (ret := none) (by decide) rfl ?_
  intro p e s m args below meth c s₁ B hml hv
  obtain ⟨rfl, hsz, hP, hK, hD0, hN, hE, hO⟩ := hv
  have hx := B.exec
  have hb := B.bytes
  have hr := B.returns
  have hts := atoms_spec (ws := wz_c_X10_init_X10) B.pre
  have hown : s.vm.findClass RX10 = some m.cls := findClass_of_methodNamed B.named
  have hlocks := B.notSynchronized
  have hin : meth.name = "<init>" := (name_of_methodNamed B.named B.method).1
  subst hsz
  have hD := hD0.self (sz := s.heap.size)
  generalize hAe : va_A [(h0, .inr (14, [.null, .int 0, .int 0]))] s.heap.size = A at hD hE ⊢
  have hA : ∀ q : Nat, s.heap.size ≤ q → A q := fun q h => by rw [← hAe]; exact Or.inr h
  have hS : va_S A s.heap s.heap [] := va_S.rf
  have hl := lv_entry ([.ref h0, .ref b, .int i1, .int i2]) (n := 4) (Nat.le_of_ble_eq_true rfl)
  rw [lg_entry_eq]
  generalize (lg_sl ([.ref h0, .ref b, .int i1, .int i2]) ++ List.replicate (4 - (lg_sl ([.ref h0, .ref b, .int i1, .int i2])).length) Slot.unset).toArray = ls at hl ⊢
  have hl : lv_has ls 4 [(0, .ref h0), (1, .ref b), (2, .int i1), (3, .int i2)] := hl
  refine lv_aload_n hx hb dX10_init_0 rfl (lv_at hl 0 rfl) ?_
  refine W.objInit hx hb hown (hts (.methodLink RX10 1 objectInit) (by decide +kernel)) (hts (.instanceMethod objectInit) (by decide +kernel)) (hts (.code objectInit ⟨#[0xb1]⟩ 1 none) (by decide +kernel)) rfl (by rw [hml]; exact hl.1) rfl dX10_init_1 (Nat.le_of_ble_eq_true rfl) (Nat.le_of_ble_eq_true rfl) ?_
  refine W.eq (g2 := F0 m 4 ls []) rfl ?_
  refine lv_aload_n hx hb dX10_init_4 rfl (lv_at hl 0 rfl) ?_
  refine lv_aload_n hx hb dX10_init_5 rfl (lv_at hl 1 rfl) ?_
  refine va_put (D := D) (ci := 14) (v := .ref b) (ty := (.array .byte)) (C := RX10) (T := TX10) (N := 3) hx hb hts (by decide +kernel) tyX10 tyX10_ok nmX10 hown hK hP hD hS 0 rfl rfl 0 (by decide) (hts (.fieldLink RX10 7 "SignetRing$Span" "row" "[B") (by decide +kernel)) (fun _ h9 => h9) rfl (by decide +kernel) rfl rfl (Nat.le_of_ble_eq_true rfl) dX10_init_6 (fun H locs hP hD hS => ?_)
  have hP : va_P D vwCl [(h0, .inr (14, [.ref b, .int 0, .int 0]))] H := hP
  have hD : va_D A [(h0, .inr (14, [.ref b, .int 0, .int 0]))] := hD
  refine lv_aload_n hx hb dX10_init_9 rfl (lv_at hl 0 rfl) ?_
  refine lv_iload_n hx hb dX10_init_10 rfl (lv_at hl 2 rfl) ?_
  refine va_put (D := D) (ci := 14) (v := .int i1) (ty := .int) (C := RX10) (T := TX10) (N := 3) hx hb hts (by decide +kernel) tyX10 tyX10_ok nmX10 hown hK hP hD hS 0 rfl rfl 1 (by decide) (hts (.fieldLink RX10 13 "SignetRing$Span" "from" "I") (by decide +kernel)) (fun _ h9 => h9) rfl (by decide +kernel) rfl rfl (Nat.le_of_ble_eq_true rfl) dX10_init_11 (fun H locs hP hD hS => ?_)
  have hP : va_P D vwCl [(h0, .inr (14, [.ref b, .int i1, .int 0]))] H := hP
  have hD : va_D A [(h0, .inr (14, [.ref b, .int i1, .int 0]))] := hD
  refine lv_aload_n hx hb dX10_init_14 rfl (lv_at hl 0 rfl) ?_
  refine lv_iload_n hx hb dX10_init_15 rfl (lv_at hl 3 rfl) ?_
  refine va_put (D := D) (ci := 14) (v := .int i2) (ty := .int) (C := RX10) (T := TX10) (N := 3) hx hb hts (by decide +kernel) tyX10 tyX10_ok nmX10 hown hK hP hD hS 0 rfl rfl 2 (by decide) (hts (.fieldLink RX10 17 "SignetRing$Span" "size" "I") (by decide +kernel)) (fun _ h9 => h9) rfl (by decide +kernel) rfl rfl (Nat.le_of_ble_eq_true rfl) dX10_init_16 (fun H locs hP hD hS => ?_)
  have hP : va_P D vwCl [(h0, .inr (14, [.ref b, .int i1, .int i2]))] H := hP
  have hD : va_D A [(h0, .inr (14, [.ref b, .int i1, .int i2]))] := hD
  have hP9 := hP.sub (ws' := [(h0, .inr (14, [.ref b, .int i1, .int i2]))]) [0] rfl
  have hD9 := hD.sub (ws' := [(h0, .inr (14, [.ref b, .int i1, .int i2]))]) [0] (by decide) rfl
  refine W.widen (k := 0) (n := 0) (Nat.le_of_ble_eq_true rfl) (Nat.le_of_ble_eq_true rfl) ?_
  exact W.vret hx hb hr (fun t ht hW => ⟨⟨(), rfl, trivial, by rw [ht]; exact hP9, hD9⟩, hS.F ht⟩) hS.2.2 dX10_init_19
def wz_c_X10_init_X0 : List Cond := .code yX10_init cX10_init 4 none :: ([.methodLink RX10 1 objectInit, .instanceMethod objectInit, .code objectInit ⟨#[0xb1]⟩ 1 none, .fieldLink RX10 7 "SignetRing$Span" "row" "[B", .fieldLink RX10 13 "SignetRing$Span" "from" "I", .fieldLink RX10 17 "SignetRing$Span" "size" "I"] ++ (wsX00 ++ ([])))
set_option maxHeartbeats 4000000 in
set_option maxRecDepth 100000 in
theorem c_X10_init_X0 (l : Launch) (D : va_G) (y : Nat → ClassId) (sz : Nat) (h0 : Nat) (b : Nat) (i1 : Int32) (i2 : Int32) : Met l yX10_init wz_c_X10_init_X0 ({ frames := 1, cells := 0, slots := 0, locals := 12 }) (va_Pc [.ref h0, .ref b, .int i1, .int i2] (zB D y [(h0, .inr (4, [.null, .int 0, .int 0]))] sz [] [])) (va_Qv (fun _ : Unit => True) (fun _ t => va_P D vwCl [(h0, .inr (4, [.ref b, .int i1, .int i2]))] t.heap ∧ va_D (va_A [(h0, .inr (4, [.null, .int 0, .int 0]))] sz) [(h0, .inr (4, [.ref b, .int i1, .int i2]))]) (va_A [(h0, .inr (4, [.null, .int 0, .int 0]))] sz)) 0 0 (va_A [(h0, .inr (4, [.null, .int 0, .int 0]))] sz) := by
  refine Met.ofW (cc := cX10_init) (maxL := 4) (ret := none) (by decide) rfl ?_
  intro p e s m args below meth c s₁ B hml hv
  obtain ⟨rfl, hsz, hP, hK, hD0, hN, hE, hO⟩ := hv
  have hx := B.exec
  have hb := B.bytes
  have hr := B.returns
  have hts := atoms_spec (ws := wz_c_X10_init_X0) B.pre
  have hown : s.vm.findClass RX10 = some m.cls := findClass_of_methodNamed B.named
  have hlocks := B.notSynchronized
  have hin : meth.name = "<init>" := (name_of_methodNamed B.named B.method).1
  subst hsz
  have hD := hD0.self (sz := s.heap.size)
  generalize hAe : va_A [(h0, .inr (4, [.null, .int 0, .int 0]))] s.heap.size = A at hD hE ⊢
  have hA : ∀ q : Nat, s.heap.size ≤ q → A q := fun q h => by rw [← hAe]; exact Or.inr h
  have hS : va_S A s.heap s.heap [] := va_S.rf
  have hl := lv_entry ([.ref h0, .ref b, .int i1, .int i2]) (n := 4) (Nat.le_of_ble_eq_true rfl)
  rw [lg_entry_eq]
  generalize (lg_sl ([.ref h0, .ref b, .int i1, .int i2]) ++ List.replicate (4 - (lg_sl ([.ref h0, .ref b, .int i1, .int i2])).length) Slot.unset).toArray = ls at hl ⊢
  have hl : lv_has ls 4 [(0, .ref h0), (1, .ref b), (2, .int i1), (3, .int i2)] := hl
  refine lv_aload_n hx hb dX10_init_0 rfl (lv_at hl 0 rfl) ?_
  refine W.objInit hx hb hown (hts (.methodLink RX10 1 objectInit) (by decide +kernel)) (hts (.instanceMethod objectInit) (by decide +kernel)) (hts (.code objectInit ⟨#[0xb1]⟩ 1 none) (by decide +kernel)) rfl (by rw [hml]; exact hl.1) rfl dX10_init_1 (Nat.le_of_ble_eq_true rfl) (Nat.le_of_ble_eq_true rfl) ?_
  refine W.eq (g2 := F0 m 4 ls []) rfl ?_
  refine lv_aload_n hx hb dX10_init_4 rfl (lv_at hl 0 rfl) ?_
  refine lv_aload_n hx hb dX10_init_5 rfl (lv_at hl 1 rfl) ?_
  refine va_put (D := D) (ci := 4) (v := .ref b) (ty := (.array .byte)) (C := RX0) (T := TX0) (N := 3) hx hb hts (by decide +kernel) tyX0 tyX0_ok nmX0 hown hK hP hD hS 0 rfl rfl 0 (by decide) (hts (.fieldLink RX10 7 "SignetRing$Span" "row" "[B") (by decide +kernel)) (fun _ h9 => h9) rfl (by decide +kernel) rfl rfl (Nat.le_of_ble_eq_true rfl) dX10_init_6 (fun H locs hP hD hS => ?_)
  have hP : va_P D vwCl [(h0, .inr (4, [.ref b, .int 0, .int 0]))] H := hP
  have hD : va_D A [(h0, .inr (4, [.ref b, .int 0, .int 0]))] := hD
  refine lv_aload_n hx hb dX10_init_9 rfl (lv_at hl 0 rfl) ?_
  refine lv_iload_n hx hb dX10_init_10 rfl (lv_at hl 2 rfl) ?_
  refine va_put (D := D) (ci := 4) (v := .int i1) (ty := .int) (C := RX0) (T := TX0) (N := 3) hx hb hts (by decide +kernel) tyX0 tyX0_ok nmX0 hown hK hP hD hS 0 rfl rfl 1 (by decide) (hts (.fieldLink RX10 13 "SignetRing$Span" "from" "I") (by decide +kernel)) (fun _ h9 => h9) rfl (by decide +kernel) rfl rfl (Nat.le_of_ble_eq_true rfl) dX10_init_11 (fun H locs hP hD hS => ?_)
  have hP : va_P D vwCl [(h0, .inr (4, [.ref b, .int i1, .int 0]))] H := hP
  have hD : va_D A [(h0, .inr (4, [.ref b, .int i1, .int 0]))] := hD
  refine lv_aload_n hx hb dX10_init_14 rfl (lv_at hl 0 rfl) ?_
  refine lv_iload_n hx hb dX10_init_15 rfl (lv_at hl 3 rfl) ?_
  refine va_put (D := D) (ci := 4) (v := .int i2) (ty := .int) (C := RX0) (T := TX0) (N := 3) hx hb hts (by decide +kernel) tyX0 tyX0_ok nmX0 hown hK hP hD hS 0 rfl rfl 2 (by decide) (hts (.fieldLink RX10 17 "SignetRing$Span" "size" "I") (by decide +kernel)) (fun _ h9 => h9) rfl (by decide +kernel) rfl rfl (Nat.le_of_ble_eq_true rfl) dX10_init_16 (fun H locs hP hD hS => ?_)
  have hP : va_P D vwCl [(h0, .inr (4, [.ref b, .int i1, .int i2]))] H := hP
  have hD : va_D A [(h0, .inr (4, [.ref b, .int i1, .int i2]))] := hD
  have hP9 := hP.sub (ws' := [(h0, .inr (4, [.ref b, .int i1, .int i2]))]) [0] rfl
  have hD9 := hD.sub (ws' := [(h0, .inr (4, [.ref b, .int i1, .int i2]))]) [0] (by decide) rfl
  refine W.widen (k := 0) (n := 0) (Nat.le_of_ble_eq_true rfl) (Nat.le_of_ble_eq_true rfl) ?_
  exact W.vret hx hb hr (fun t ht hW => ⟨⟨(), rfl, trivial, by rw [ht]; exact hP9, hD9⟩, hS.F ht⟩) hS.2.2 dX10_init_19
def wz_c_X10_init_X8 : List Cond := .code yX10_init cX10_init 4 none :: ([.methodLink RX10 1 objectInit, .instanceMethod objectInit, .code objectInit ⟨#[0xb1]⟩ 1 none, .fieldLink RX10 7 "SignetRing$Span" "row" "[B", .fieldLink RX10 13 "SignetRing$Span" "from" "I", .fieldLink RX10 17 "SignetRing$Span" "size" "I"] ++ (wsX80 ++ ([])))
set_option maxHeartbeats 4000000 in
set_option maxRecDepth 100000 in
theorem c_X10_init_X8 (l : Launch) (D : va_G) (y : Nat → ClassId) (sz : Nat) (h0 : Nat) (b : Nat) (i1 : Int32) (i2 : Int32) : Met l yX10_init wz_c_X10_init_X8 ({ frames := 1, cells := 0, slots := 0, locals := 12 }) (va_Pc [.ref h0, .ref b, .int i1, .int i2] (zB D y [(h0, .inr (12, [.null, .int 0, .int 0, .int 0, .int 0, .int 0, .int 0, .int 0, .long 0, .long 0, .long 0, .int 0, .int 0, .int 0, .int 0, .int 0, .int 0, .int 0]))] sz [] [])) (va_Qv (fun _ : Unit => True) (fun _ t => va_P D vwCl [(h0, .inr (12, [.ref b, .int i1, .int i2, .int 0, .int 0, .int 0, .int 0, .int 0, .long 0, .long 0, .long 0, .int 0, .int 0, .int 0, .int 0, .int 0, .int 0, .int 0]))] t.heap ∧ va_D (va_A [(h0, .inr (12, [.null, .int 0, .int 0, .int 0, .int 0, .int 0, .int 0, .int 0, .long 0, .long 0, .long 0, .int 0, .int 0, .int 0, .int 0, .int 0, .int 0, .int 0]))] sz) [(h0, .inr (12, [.ref b, .int i1, .int i2, .int 0, .int 0, .int 0, .int 0, .int 0, .long 0, .long 0, .long 0, .int 0, .int 0, .int 0, .int 0, .int 0, .int 0, .int 0]))]) (va_A [(h0, .inr (12, [.null, .int 0, .int 0, .int 0, .int 0, .int 0, .int 0, .int 0, .long 0, .long 0, .long 0, .int 0, .int 0, .int 0, .int 0, .int 0, .int 0, .int 0]))] sz)) 0 0 (va_A [(h0, .inr (12, [.null, .int 0, .int 0, .int 0, .int 0, .int 0, .int 0, .int 0, .long 0, .long 0, .long 0, .int 0, .int 0, .int 0, .int 0, .int 0, .int 0, .int 0]))] sz) := by
  refine Met.ofW (cc := cX10_init) (maxL := 4) (ret := none) (by decide) rfl ?_
  intro p e s m args below meth c s₁ B hml hv
  obtain ⟨rfl, hsz, hP, hK, hD0, hN, hE, hO⟩ := hv
  have hx := B.exec
  have hb := B.bytes
  have hr := B.returns
  have hts := atoms_spec (ws := wz_c_X10_init_X8) B.pre
  have hown : s.vm.findClass RX10 = some m.cls := findClass_of_methodNamed B.named
  have hlocks := B.notSynchronized
  have hin : meth.name = "<init>" := (name_of_methodNamed B.named B.method).1
  subst hsz
  have hD := hD0.self (sz := s.heap.size)
  generalize hAe : va_A [(h0, .inr (12, [.null, .int 0, .int 0, .int 0, .int 0, .int 0, .int 0, .int 0, .long 0, .long 0, .long 0, .int 0, .int 0, .int 0, .int 0, .int 0, .int 0, .int 0]))] s.heap.size = A at hD hE ⊢
  have hA : ∀ q : Nat, s.heap.size ≤ q → A q := fun q h => by rw [← hAe]; exact Or.inr h
  have hS : va_S A s.heap s.heap [] := va_S.rf
  have hl := lv_entry ([.ref h0, .ref b, .int i1, .int i2]) (n := 4) (Nat.le_of_ble_eq_true rfl)
  rw [lg_entry_eq]
  generalize (lg_sl ([.ref h0, .ref b, .int i1, .int i2]) ++ List.replicate (4 - (lg_sl ([.ref h0, .ref b, .int i1, .int i2])).length) Slot.unset).toArray = ls at hl ⊢
  have hl : lv_has ls 4 [(0, .ref h0), (1, .ref b), (2, .int i1), (3, .int i2)] := hl
  refine lv_aload_n hx hb dX10_init_0 rfl (lv_at hl 0 rfl) ?_
  refine W.objInit hx hb hown (hts (.methodLink RX10 1 objectInit) (by decide +kernel)) (hts (.instanceMethod objectInit) (by decide +kernel)) (hts (.code objectInit ⟨#[0xb1]⟩ 1 none) (by decide +kernel)) rfl (by rw [hml]; exact hl.1) rfl dX10_init_1 (Nat.le_of_ble_eq_true rfl) (Nat.le_of_ble_eq_true rfl) ?_
  refine W.eq (g2 := F0 m 4 ls []) rfl ?_
  refine lv_aload_n hx hb dX10_init_4 rfl (lv_at hl 0 rfl) ?_
  refine lv_aload_n hx hb dX10_init_5 rfl (lv_at hl 1 rfl) ?_
  refine va_put (D := D) (ci := 12) (v := .ref b) (ty := (.array .byte)) (C := RX8) (T := TX8) (N := 18) hx hb hts (by decide +kernel) tyX8 tyX8_ok nmX8 hown hK hP hD hS 0 rfl rfl 0 (by decide) (hts (.fieldLink RX10 7 "SignetRing$Span" "row" "[B") (by decide +kernel)) (fun _ h9 => h9) rfl (by decide +kernel) rfl rfl (Nat.le_of_ble_eq_true rfl) dX10_init_6 (fun H locs hP hD hS => ?_)
  have hP : va_P D vwCl [(h0, .inr (12, [.ref b, .int 0, .int 0, .int 0, .int 0, .int 0, .int 0, .int 0, .long 0, .long 0, .long 0, .int 0, .int 0, .int 0, .int 0, .int 0, .int 0, .int 0]))] H := hP
  have hD : va_D A [(h0, .inr (12, [.ref b, .int 0, .int 0, .int 0, .int 0, .int 0, .int 0, .int 0, .long 0, .long 0, .long 0, .int 0, .int 0, .int 0, .int 0, .int 0, .int 0, .int 0]))] := hD
  refine lv_aload_n hx hb dX10_init_9 rfl (lv_at hl 0 rfl) ?_
  refine lv_iload_n hx hb dX10_init_10 rfl (lv_at hl 2 rfl) ?_
  refine va_put (D := D) (ci := 12) (v := .int i1) (ty := .int) (C := RX8) (T := TX8) (N := 18) hx hb hts (by decide +kernel) tyX8 tyX8_ok nmX8 hown hK hP hD hS 0 rfl rfl 1 (by decide) (hts (.fieldLink RX10 13 "SignetRing$Span" "from" "I") (by decide +kernel)) (fun _ h9 => h9) rfl (by decide +kernel) rfl rfl (Nat.le_of_ble_eq_true rfl) dX10_init_11 (fun H locs hP hD hS => ?_)
  have hP : va_P D vwCl [(h0, .inr (12, [.ref b, .int i1, .int 0, .int 0, .int 0, .int 0, .int 0, .int 0, .long 0, .long 0, .long 0, .int 0, .int 0, .int 0, .int 0, .int 0, .int 0, .int 0]))] H := hP
  have hD : va_D A [(h0, .inr (12, [.ref b, .int i1, .int 0, .int 0, .int 0, .int 0, .int 0, .int 0, .long 0, .long 0, .long 0, .int 0, .int 0, .int 0, .int 0, .int 0, .int 0, .int 0]))] := hD
  refine lv_aload_n hx hb dX10_init_14 rfl (lv_at hl 0 rfl) ?_
  refine lv_iload_n hx hb dX10_init_15 rfl (lv_at hl 3 rfl) ?_
  refine va_put (D := D) (ci := 12) (v := .int i2) (ty := .int) (C := RX8) (T := TX8) (N := 18) hx hb hts (by decide +kernel) tyX8 tyX8_ok nmX8 hown hK hP hD hS 0 rfl rfl 2 (by decide) (hts (.fieldLink RX10 17 "SignetRing$Span" "size" "I") (by decide +kernel)) (fun _ h9 => h9) rfl (by decide +kernel) rfl rfl (Nat.le_of_ble_eq_true rfl) dX10_init_16 (fun H locs hP hD hS => ?_)
  have hP : va_P D vwCl [(h0, .inr (12, [.ref b, .int i1, .int i2, .int 0, .int 0, .int 0, .int 0, .int 0, .long 0, .long 0, .long 0, .int 0, .int 0, .int 0, .int 0, .int 0, .int 0, .int 0]))] H := hP
  have hD : va_D A [(h0, .inr (12, [.ref b, .int i1, .int i2, .int 0, .int 0, .int 0, .int 0, .int 0, .long 0, .long 0, .long 0, .int 0, .int 0, .int 0, .int 0, .int 0, .int 0, .int 0]))] := hD
  have hP9 := hP.sub (ws' := [(h0, .inr (12, [.ref b, .int i1, .int i2, .int 0, .int 0, .int 0, .int 0, .int 0, .long 0, .long 0, .long 0, .int 0, .int 0, .int 0, .int 0, .int 0, .int 0, .int 0]))]) [0] rfl
  have hD9 := hD.sub (ws' := [(h0, .inr (12, [.ref b, .int i1, .int i2, .int 0, .int 0, .int 0, .int 0, .int 0, .long 0, .long 0, .long 0, .int 0, .int 0, .int 0, .int 0, .int 0, .int 0, .int 0]))]) [0] (by decide) rfl
  refine W.widen (k := 0) (n := 0) (Nat.le_of_ble_eq_true rfl) (Nat.le_of_ble_eq_true rfl) ?_
  exact W.vret hx hb hr (fun t ht hW => ⟨⟨(), rfl, trivial, by rw [ht]; exact hP9, hD9⟩, hS.F ht⟩) hS.2.2 dX10_init_19
def wz_c_X10_init_X5 : List Cond := .code yX10_init cX10_init 4 none :: ([.methodLink RX10 1 objectInit, .instanceMethod objectInit, .code objectInit ⟨#[0xb1]⟩ 1 none, .fieldLink RX10 7 "SignetRing$Span" "row" "[B", .fieldLink RX10 13 "SignetRing$Span" "from" "I", .fieldLink RX10 17 "SignetRing$Span" "size" "I"] ++ (wsX50 ++ ([])))
set_option maxHeartbeats 4000000 in
set_option maxRecDepth 100000 in
theorem c_X10_init_X5 (l : Launch) (D : va_G) (y : Nat → ClassId) (sz : Nat) (h0 : Nat) (b : Nat) (i1 : Int32) (i2 : Int32) : Met l yX10_init wz_c_X10_init_X5 ({ frames := 1, cells := 0, slots := 0, locals := 12 }) (va_Pc [.ref h0, .ref b, .int i1, .int i2] (zB D y [(h0, .inr (9, [.null, .int 0, .int 0, .null, .int 0]))] sz [] [])) (va_Qv (fun _ : Unit => True) (fun _ t => va_P D vwCl [(h0, .inr (9, [.ref b, .int i1, .int i2, .null, .int 0]))] t.heap ∧ va_D (va_A [(h0, .inr (9, [.null, .int 0, .int 0, .null, .int 0]))] sz) [(h0, .inr (9, [.ref b, .int i1, .int i2, .null, .int 0]))]) (va_A [(h0, .inr (9, [.null, .int 0, .int 0, .null, .int 0]))] sz)) 0 0 (va_A [(h0, .inr (9, [.null, .int 0, .int 0, .null, .int 0]))] sz) := by
  refine Met.ofW (cc := cX10_init) (maxL := 4) (ret := none) (by decide) rfl ?_
  intro p e s m args below meth c s₁ B hml hv
  obtain ⟨rfl, hsz, hP, hK, hD0, hN, hE, hO⟩ := hv
  have hx := B.exec
  have hb := B.bytes
  have hr := B.returns
  have hts := atoms_spec (ws := wz_c_X10_init_X5) B.pre
  have hown : s.vm.findClass RX10 = some m.cls := findClass_of_methodNamed B.named
  have hlocks := B.notSynchronized
  have hin : meth.name = "<init>" := (name_of_methodNamed B.named B.method).1
  subst hsz
  have hD := hD0.self (sz := s.heap.size)
  generalize hAe : va_A [(h0, .inr (9, [.null, .int 0, .int 0, .null, .int 0]))] s.heap.size = A at hD hE ⊢
  have hA : ∀ q : Nat, s.heap.size ≤ q → A q := fun q h => by rw [← hAe]; exact Or.inr h
  have hS : va_S A s.heap s.heap [] := va_S.rf
  have hl := lv_entry ([.ref h0, .ref b, .int i1, .int i2]) (n := 4) (Nat.le_of_ble_eq_true rfl)
  rw [lg_entry_eq]
  generalize (lg_sl ([.ref h0, .ref b, .int i1, .int i2]) ++ List.replicate (4 - (lg_sl ([.ref h0, .ref b, .int i1, .int i2])).length) Slot.unset).toArray = ls at hl ⊢
  have hl : lv_has ls 4 [(0, .ref h0), (1, .ref b), (2, .int i1), (3, .int i2)] := hl
  refine lv_aload_n hx hb dX10_init_0 rfl (lv_at hl 0 rfl) ?_
  refine W.objInit hx hb hown (hts (.methodLink RX10 1 objectInit) (by decide +kernel)) (hts (.instanceMethod objectInit) (by decide +kernel)) (hts (.code objectInit ⟨#[0xb1]⟩ 1 none) (by decide +kernel)) rfl (by rw [hml]; exact hl.1) rfl dX10_init_1 (Nat.le_of_ble_eq_true rfl) (Nat.le_of_ble_eq_true rfl) ?_
  refine W.eq (g2 := F0 m 4 ls []) rfl ?_
  refine lv_aload_n hx hb dX10_init_4 rfl (lv_at hl 0 rfl) ?_
  refine lv_aload_n hx hb dX10_init_5 rfl (lv_at hl 1 rfl) ?_
  refine va_put (D := D) (ci := 9) (v := .ref b) (ty := (.array .byte)) (C := RX5) (T := TX5) (N := 5) hx hb hts (by decide +kernel) tyX5 tyX5_ok nmX5 hown hK hP hD hS 0 rfl rfl 0 (by decide) (hts (.fieldLink RX10 7 "SignetRing$Span" "row" "[B") (by decide +kernel)) (fun _ h9 => h9) rfl (by decide +kernel) rfl rfl (Nat.le_of_ble_eq_true rfl) dX10_init_6 (fun H locs hP hD hS => ?_)
  have hP : va_P D vwCl [(h0, .inr (9, [.ref b, .int 0, .int 0, .null, .int 0]))] H := hP
  have hD : va_D A [(h0, .inr (9, [.ref b, .int 0, .int 0, .null, .int 0]))] := hD
  refine lv_aload_n hx hb dX10_init_9 rfl (lv_at hl 0 rfl) ?_
  refine lv_iload_n hx hb dX10_init_10 rfl (lv_at hl 2 rfl) ?_
  refine va_put (D := D) (ci := 9) (v := .int i1) (ty := .int) (C := RX5) (T := TX5) (N := 5) hx hb hts (by decide +kernel) tyX5 tyX5_ok nmX5 hown hK hP hD hS 0 rfl rfl 1 (by decide) (hts (.fieldLink RX10 13 "SignetRing$Span" "from" "I") (by decide +kernel)) (fun _ h9 => h9) rfl (by decide +kernel) rfl rfl (Nat.le_of_ble_eq_true rfl) dX10_init_11 (fun H locs hP hD hS => ?_)
  have hP : va_P D vwCl [(h0, .inr (9, [.ref b, .int i1, .int 0, .null, .int 0]))] H := hP
  have hD : va_D A [(h0, .inr (9, [.ref b, .int i1, .int 0, .null, .int 0]))] := hD
  refine lv_aload_n hx hb dX10_init_14 rfl (lv_at hl 0 rfl) ?_
  refine lv_iload_n hx hb dX10_init_15 rfl (lv_at hl 3 rfl) ?_
  refine va_put (D := D) (ci := 9) (v := .int i2) (ty := .int) (C := RX5) (T := TX5) (N := 5) hx hb hts (by decide +kernel) tyX5 tyX5_ok nmX5 hown hK hP hD hS 0 rfl rfl 2 (by decide) (hts (.fieldLink RX10 17 "SignetRing$Span" "size" "I") (by decide +kernel)) (fun _ h9 => h9) rfl (by decide +kernel) rfl rfl (Nat.le_of_ble_eq_true rfl) dX10_init_16 (fun H locs hP hD hS => ?_)
  have hP : va_P D vwCl [(h0, .inr (9, [.ref b, .int i1, .int i2, .null, .int 0]))] H := hP
  have hD : va_D A [(h0, .inr (9, [.ref b, .int i1, .int i2, .null, .int 0]))] := hD
  have hP9 := hP.sub (ws' := [(h0, .inr (9, [.ref b, .int i1, .int i2, .null, .int 0]))]) [0] rfl
  have hD9 := hD.sub (ws' := [(h0, .inr (9, [.ref b, .int i1, .int i2, .null, .int 0]))]) [0] (by decide) rfl
  refine W.widen (k := 0) (n := 0) (Nat.le_of_ble_eq_true rfl) (Nat.le_of_ble_eq_true rfl) ?_
  exact W.vret hx hb hr (fun t ht hW => ⟨⟨(), rfl, trivial, by rw [ht]; exact hP9, hD9⟩, hS.F ht⟩) hS.2.2 dX10_init_19
def wz_c_X10_init_X3 : List Cond := .code yX10_init cX10_init 4 none :: ([.methodLink RX10 1 objectInit, .instanceMethod objectInit, .code objectInit ⟨#[0xb1]⟩ 1 none, .fieldLink RX10 7 "SignetRing$Span" "row" "[B", .fieldLink RX10 13 "SignetRing$Span" "from" "I", .fieldLink RX10 17 "SignetRing$Span" "size" "I"] ++ (wsX30 ++ ([])))
set_option maxHeartbeats 4000000 in
set_option maxRecDepth 100000 in
theorem c_X10_init_X3 (l : Launch) (D : va_G) (y : Nat → ClassId) (sz : Nat) (h0 : Nat) (b : Nat) (i1 : Int32) (i2 : Int32) : Met l yX10_init wz_c_X10_init_X3 ({ frames := 1, cells := 0, slots := 0, locals := 12 }) (va_Pc [.ref h0, .ref b, .int i1, .int i2] (zB D y [(h0, .inr (7, [.null, .int 0, .null, .int 0, .int 0, .null, .null, .null, .null, .int 0, .int 0, .long 0, .int 0, .int 0, .int 0, .null, .int 0]))] sz [] [])) (va_Qv (fun _ : Unit => True) (fun _ t => va_P D vwCl [(h0, .inr (7, [.null, .int 0, .ref b, .int i1, .int i2, .null, .null, .null, .null, .int 0, .int 0, .long 0, .int 0, .int 0, .int 0, .null, .int 0]))] t.heap ∧ va_D (va_A [(h0, .inr (7, [.null, .int 0, .null, .int 0, .int 0, .null, .null, .null, .null, .int 0, .int 0, .long 0, .int 0, .int 0, .int 0, .null, .int 0]))] sz) [(h0, .inr (7, [.null, .int 0, .ref b, .int i1, .int i2, .null, .null, .null, .null, .int 0, .int 0, .long 0, .int 0, .int 0, .int 0, .null, .int 0]))]) (va_A [(h0, .inr (7, [.null, .int 0, .null, .int 0, .int 0, .null, .null, .null, .null, .int 0, .int 0, .long 0, .int 0, .int 0, .int 0, .null, .int 0]))] sz)) 0 0 (va_A [(h0, .inr (7, [.null, .int 0, .null, .int 0, .int 0, .null, .null, .null, .null, .int 0, .int 0, .long 0, .int 0, .int 0, .int 0, .null, .int 0]))] sz) := by
  refine Met.ofW (cc := cX10_init) (maxL := 4) (ret := none) (by decide) rfl ?_
  intro p e s m args below meth c s₁ B hml hv
  obtain ⟨rfl, hsz, hP, hK, hD0, hN, hE, hO⟩ := hv
  have hx := B.exec
  have hb := B.bytes
  have hr := B.returns
  have hts := atoms_spec (ws := wz_c_X10_init_X3) B.pre
  have hown : s.vm.findClass RX10 = some m.cls := findClass_of_methodNamed B.named
  have hlocks := B.notSynchronized
  have hin : meth.name = "<init>" := (name_of_methodNamed B.named B.method).1
  subst hsz
  have hD := hD0.self (sz := s.heap.size)
  generalize hAe : va_A [(h0, .inr (7, [.null, .int 0, .null, .int 0, .int 0, .null, .null, .null, .null, .int 0, .int 0, .long 0, .int 0, .int 0, .int 0, .null, .int 0]))] s.heap.size = A at hD hE ⊢
  have hA : ∀ q : Nat, s.heap.size ≤ q → A q := fun q h => by rw [← hAe]; exact Or.inr h
  have hS : va_S A s.heap s.heap [] := va_S.rf
  have hl := lv_entry ([.ref h0, .ref b, .int i1, .int i2]) (n := 4) (Nat.le_of_ble_eq_true rfl)
  rw [lg_entry_eq]
  generalize (lg_sl ([.ref h0, .ref b, .int i1, .int i2]) ++ List.replicate (4 - (lg_sl ([.ref h0, .ref b, .int i1, .int i2])).length) Slot.unset).toArray = ls at hl ⊢
  have hl : lv_has ls 4 [(0, .ref h0), (1, .ref b), (2, .int i1), (3, .int i2)] := hl
  refine lv_aload_n hx hb dX10_init_0 rfl (lv_at hl 0 rfl) ?_
  refine W.objInit hx hb hown (hts (.methodLink RX10 1 objectInit) (by decide +kernel)) (hts (.instanceMethod objectInit) (by decide +kernel)) (hts (.code objectInit ⟨#[0xb1]⟩ 1 none) (by decide +kernel)) rfl (by rw [hml]; exact hl.1) rfl dX10_init_1 (Nat.le_of_ble_eq_true rfl) (Nat.le_of_ble_eq_true rfl) ?_
  refine W.eq (g2 := F0 m 4 ls []) rfl ?_
  refine lv_aload_n hx hb dX10_init_4 rfl (lv_at hl 0 rfl) ?_
  refine lv_aload_n hx hb dX10_init_5 rfl (lv_at hl 1 rfl) ?_
  refine va_put (D := D) (ci := 7) (v := .ref b) (ty := (.array .byte)) (C := RX3) (T := TX3) (N := 17) hx hb hts (by decide +kernel) tyX3 tyX3_ok nmX3 hown hK hP hD hS 0 rfl rfl 2 (by decide) (hts (.fieldLink RX10 7 "SignetRing$Span" "row" "[B") (by decide +kernel)) (fun _ h9 => h9) rfl (by decide +kernel) rfl rfl (Nat.le_of_ble_eq_true rfl) dX10_init_6 (fun H locs hP hD hS => ?_)
  have hP : va_P D vwCl [(h0, .inr (7, [.null, .int 0, .ref b, .int 0, .int 0, .null, .null, .null, .null, .int 0, .int 0, .long 0, .int 0, .int 0, .int 0, .null, .int 0]))] H := hP
  have hD : va_D A [(h0, .inr (7, [.null, .int 0, .ref b, .int 0, .int 0, .null, .null, .null, .null, .int 0, .int 0, .long 0, .int 0, .int 0, .int 0, .null, .int 0]))] := hD
  refine lv_aload_n hx hb dX10_init_9 rfl (lv_at hl 0 rfl) ?_
  refine lv_iload_n hx hb dX10_init_10 rfl (lv_at hl 2 rfl) ?_
  refine va_put (D := D) (ci := 7) (v := .int i1) (ty := .int) (C := RX3) (T := TX3) (N := 17) hx hb hts (by decide +kernel) tyX3 tyX3_ok nmX3 hown hK hP hD hS 0 rfl rfl 3 (by decide) (hts (.fieldLink RX10 13 "SignetRing$Span" "from" "I") (by decide +kernel)) (fun _ h9 => h9) rfl (by decide +kernel) rfl rfl (Nat.le_of_ble_eq_true rfl) dX10_init_11 (fun H locs hP hD hS => ?_)
  have hP : va_P D vwCl [(h0, .inr (7, [.null, .int 0, .ref b, .int i1, .int 0, .null, .null, .null, .null, .int 0, .int 0, .long 0, .int 0, .int 0, .int 0, .null, .int 0]))] H := hP
  have hD : va_D A [(h0, .inr (7, [.null, .int 0, .ref b, .int i1, .int 0, .null, .null, .null, .null, .int 0, .int 0, .long 0, .int 0, .int 0, .int 0, .null, .int 0]))] := hD
  refine lv_aload_n hx hb dX10_init_14 rfl (lv_at hl 0 rfl) ?_
  refine lv_iload_n hx hb dX10_init_15 rfl (lv_at hl 3 rfl) ?_
  refine va_put (D := D) (ci := 7) (v := .int i2) (ty := .int) (C := RX3) (T := TX3) (N := 17) hx hb hts (by decide +kernel) tyX3 tyX3_ok nmX3 hown hK hP hD hS 0 rfl rfl 4 (by decide) (hts (.fieldLink RX10 17 "SignetRing$Span" "size" "I") (by decide +kernel)) (fun _ h9 => h9) rfl (by decide +kernel) rfl rfl (Nat.le_of_ble_eq_true rfl) dX10_init_16 (fun H locs hP hD hS => ?_)
  have hP : va_P D vwCl [(h0, .inr (7, [.null, .int 0, .ref b, .int i1, .int i2, .null, .null, .null, .null, .int 0, .int 0, .long 0, .int 0, .int 0, .int 0, .null, .int 0]))] H := hP
  have hD : va_D A [(h0, .inr (7, [.null, .int 0, .ref b, .int i1, .int i2, .null, .null, .null, .null, .int 0, .int 0, .long 0, .int 0, .int 0, .int 0, .null, .int 0]))] := hD
  have hP9 := hP.sub (ws' := [(h0, .inr (7, [.null, .int 0, .ref b, .int i1, .int i2, .null, .null, .null, .null, .int 0, .int 0, .long 0, .int 0, .int 0, .int 0, .null, .int 0]))]) [0] rfl
  have hD9 := hD.sub (ws' := [(h0, .inr (7, [.null, .int 0, .ref b, .int i1, .int i2, .null, .null, .null, .null, .int 0, .int 0, .long 0, .int 0, .int 0, .int 0, .null, .int 0]))]) [0] (by decide) rfl
  refine W.widen (k := 0) (n := 0) (Nat.le_of_ble_eq_true rfl) (Nat.le_of_ble_eq_true rfl) ?_
  exact W.vret hx hb hr (fun t ht hW => ⟨⟨(), rfl, trivial, by rw [ht]; exact hP9, hD9⟩, hS.F ht⟩) hS.2.2 dX10_init_19
def wz_c_X0_init_4096 : List Cond := .code yX0_init cX0_init 2 none :: ([.methodLink RX0 1 Lib.Math.max.name, .static Lib.Math.max.name, .initialized "java/lang/Math", .code Lib.Math.max.name Lib.Math.max.code 2 (some .int), .arrayClass .byte, .initialized RX10, .methodLink RX0 7 yX10_init, .instanceMethod yX10_init] ++ (wz_c_X10_init_X0 ++ ([])))
set_option maxRecDepth 100000 in
theorem gz_c_X0_init_4096_c_X10_init_X0 : GoodIn wz_c_X0_init_4096 wz_c_X10_init_X0 := goodIn_sub (fun w h => List.mem_cons_of_mem _ (List.mem_append_right _ (List.mem_append_left _ h))) (by decide +kernel)
set_option maxHeartbeats 4000000 in
set_option maxRecDepth 100000 in
theorem c_X0_init_4096 (l : Launch) (D : va_G) (y : Nat → ClassId) (sz : Nat) (h0 : Nat) : Met l yX0_init wz_c_X0_init_4096 ({ frames := 2, cells := 1, slots := 4096, locals := 35 }) (va_Pc [.ref h0, .int 4096] (zB D y [(h0, .inr (4, [.null, .int 0, .int 0]))] sz [] [])) (va_Qv (fun _ : Unit => True) (fun _ t => ∃ q2 : Nat, va_P D vwCl [(h0, .inr (4, [.ref q2, .int 0, .int 0])), (q2, .inl (y 0, 4096, .inl (fun _ => 0)))] t.heap ∧ va_D (va_A [(h0, .inr (4, [.null, .int 0, .int 0]))] sz) [(h0, .inr (4, [.ref q2, .int 0, .int 0])), (q2, .inl (y 0, 4096, .inl (fun _ => 0)))]) (va_A [(h0, .inr (4, [.null, .int 0, .int 0]))] sz)) 1 4096 (va_A [(h0, .inr (4, [.null, .int 0, .int 0]))] sz) := by
  refine Met.ofW (cc := cX0_init) (maxL := 2) (ret := none) (by decide) rfl ?_
  intro p e s m args below meth c s₁ B hml hv
  obtain ⟨rfl, hsz, hP, hK, hD0, hN, hE, hO⟩ := hv
  have hx := B.exec
  have hb := B.bytes
  have hr := B.returns
  have hts := atoms_spec (ws := wz_c_X0_init_4096) B.pre
  have hown : s.vm.findClass RX0 = some m.cls := findClass_of_methodNamed B.named
  have hlocks := B.notSynchronized
  have hin : meth.name = "<init>" := (name_of_methodNamed B.named B.method).1
  subst hsz
  have hD := hD0.self (sz := s.heap.size)
  generalize hAe : va_A [(h0, .inr (4, [.null, .int 0, .int 0]))] s.heap.size = A at hD hE ⊢
  have hA : ∀ q : Nat, s.heap.size ≤ q → A q := fun q h => by rw [← hAe]; exact Or.inr h
  have hS : va_S A s.heap s.heap [] := va_S.rf
  have hl := lv_entry ([.ref h0, .int 4096]) (n := 2) (Nat.le_of_ble_eq_true rfl)
  rw [lg_entry_eq]
  generalize (lg_sl ([.ref h0, .int 4096]) ++ List.replicate (2 - (lg_sl ([.ref h0, .int 4096])).length) Slot.unset).toArray = ls at hl ⊢
  have hl : lv_has ls 2 [(0, .ref h0), (1, .int 4096)] := hl
  refine lv_aload_n hx hb dX0_init_0 rfl (lv_at hl 0 rfl) ?_
  refine lv_iload_n hx hb dX0_init_1 rfl (lv_at hl 1 rfl) ?_
  refine lv_iconst (v := 1) hx hb dX0_init_2 (by decide) ?_
  refine va_mmax hx hb (hml.trans hl.1.symm) hown (hts (.methodLink RX0 1 Lib.Math.max.name) (by decide +kernel)) (hts (.static Lib.Math.max.name) (by decide +kernel)) (hts (.initialized "java/lang/Math") (by decide +kernel)) (hts (.code Lib.Math.max.name Lib.Math.max.code 2 (some .int)) (by decide +kernel)) (Nat.le_of_ble_eq_true rfl) (Nat.le_of_ble_eq_true rfl) (Nat.le_of_ble_eq_true rfl) (Nat.le_of_ble_eq_true rfl) dX0_init_3 ?_
  refine lv_topi (fun v1 ev1 => ?_)
  have ev1 : v1 = 4096 := ev1.trans (by decide +kernel)
  subst ev1
  refine zz_newa (atype := .byte) (n := 4096) (N' := 4096) (a0 := (4096, .inl (fun _ => 0))) (ty := .byte) hx hb (hts (.arrayClass .byte) (by decide +kernel)) rfl hK 0 rfl hP hD hS hA (zz_aB 4096) (by decide +kernel) (by decide +kernel) (by decide +kernel) (Nat.le_of_ble_eq_true rfl) (Nat.le_of_ble_eq_true rfl) dX0_init_6 (fun q2 H hP hD hS => ?_)
  have hP : va_P D vwCl [(h0, .inr (4, [.null, .int 0, .int 0])), (q2, .inl (y 0, 4096, .inl (fun _ => 0)))] H := hP
  have hD : va_D A [(h0, .inr (4, [.null, .int 0, .int 0])), (q2, .inl (y 0, 4096, .inl (fun _ => 0)))] := hD
  refine lv_iconst (v := 0) hx hb dX0_init_8 (by decide) ?_
  refine lv_iconst (v := 0) hx hb dX0_init_9 (by decide) ?_
  have hPc := hP.sub (ws' := [(h0, .inr (4, [.null, .int 0, .int 0]))]) [0] rfl
  have hDc := hD.sub (ws' := [(h0, .inr (4, [.null, .int 0, .int 0]))]) [0] (by decide) rfl
  have hFc := va_free (wc := [(h0, .inr (4, [.null, .int 0, .int 0]))]) hD hS hA [0] rfl
  refine va_callv (va_runI (As := [.ref q2, .int 0, .int 0]) (rest := []) ⟨hx, hb, hml, hown, hts⟩ (c_X10_init_X0 l D y H.size h0 q2 0 0) (cwI 3 hts gz_c_X0_init_4096_c_X10_init_X0 rfl rfl rfl (hts (.initialized RX10) (by decide +kernel)) (hts (.methodLink RX0 7 yX10_init) (by decide +kernel)) (hts (.instanceMethod yX10_init) (by decide +kernel)) rfl (by decide +kernel) ⟨(Nat.le_of_ble_eq_true rfl), (Nat.le_of_ble_eq_true rfl)⟩) (zB.preS hPc hDc hK hN hE hO hS hFc (fun _ h => nomatch h) (fun _ h => nomatch h)) rfl rfl hl.1 rfl (lv_room (Nat.le_of_ble_eq_true rfl)) dX0_init_10 ⟨(Nat.le_of_ble_eq_true rfl), (Nat.le_of_ble_eq_true rfl)⟩) hS (fun q _ h => hFc q h) hFc (fun u t H1 locs ht hvm hw hB hz1 hk1 hS => ?_)
  obtain ⟨hP1, hD1⟩ := hB
  rw [ht] at hP1
  obtain ⟨hP, hD⟩ := va_join (wr := [(q2, .inl (y 0, 4096, .inl (fun _ => 0)))]) (w1 := [(h0, .inr (4, [.ref q2, .int 0, .int 0]))]) hP hD [0] [1] rfl rfl (by decide) (by decide) hk1 hFc hP1 hD1
  generalize H1 = H at hP hS ⊢
  have hP : va_P D vwCl [(q2, .inl (y 0, 4096, .inl (fun _ => 0))), (h0, .inr (4, [.ref q2, .int 0, .int 0]))] H := hP
  have hD : va_D A [(q2, .inl (y 0, 4096, .inl (fun _ => 0))), (h0, .inr (4, [.ref q2, .int 0, .int 0]))] := hD
  have hP9 := hP.sub (ws' := [(h0, .inr (4, [.ref q2, .int 0, .int 0])), (q2, .inl (y 0, 4096, .inl (fun _ => 0)))]) [1, 0] rfl
  have hD9 := hD.sub (ws' := [(h0, .inr (4, [.ref q2, .int 0, .int 0])), (q2, .inl (y 0, 4096, .inl (fun _ => 0)))]) [1, 0] (by decide) rfl
  refine W.widen (k := 1) (n := 4096) (Nat.le_of_ble_eq_true rfl) (Nat.le_of_ble_eq_true rfl) ?_
  exact W.vret hx hb hr (fun t ht hW => ⟨⟨(), rfl, trivial, q2, by rw [ht]; exact hP9, hD9⟩, hS.F ht⟩) hS.2.2 dX0_init_13
def wz_c_X0_init_1024 : List Cond := .code yX0_init cX0_init 2 none :: ([.methodLink RX0 1 Lib.Math.max.name, .static Lib.Math.max.name, .initialized "java/lang/Math", .code Lib.Math.max.name Lib.Math.max.code 2 (some .int), .arrayClass .byte, .initialized RX10, .methodLink RX0 7 yX10_init, .instanceMethod yX10_init] ++ (wz_c_X10_init_X0 ++ ([])))
set_option maxRecDepth 100000 in
theorem gz_c_X0_init_1024_c_X10_init_X0 : GoodIn wz_c_X0_init_1024 wz_c_X10_init_X0 := goodIn_sub (fun w h => List.mem_cons_of_mem _ (List.mem_append_right _ (List.mem_append_left _ h))) (by decide +kernel)
set_option maxHeartbeats 4000000 in
set_option maxRecDepth 100000 in
theorem c_X0_init_1024 (l : Launch) (D : va_G) (y : Nat → ClassId) (sz : Nat) (h0 : Nat) : Met l yX0_init wz_c_X0_init_1024 ({ frames := 2, cells := 1, slots := 1024, locals := 35 }) (va_Pc [.ref h0, .int 1024] (zB D y [(h0, .inr (4, [.null, .int 0, .int 0]))] sz [] [])) (va_Qv (fun _ : Unit => True) (fun _ t => ∃ q2 : Nat, va_P D vwCl [(h0, .inr (4, [.ref q2, .int 0, .int 0])), (q2, .inl (y 0, 1024, .inl (fun _ => 0)))] t.heap ∧ va_D (va_A [(h0, .inr (4, [.null, .int 0, .int 0]))] sz) [(h0, .inr (4, [.ref q2, .int 0, .int 0])), (q2, .inl (y 0, 1024, .inl (fun _ => 0)))]) (va_A [(h0, .inr (4, [.null, .int 0, .int 0]))] sz)) 1 1024 (va_A [(h0, .inr (4, [.null, .int 0, .int 0]))] sz) := by
  refine Met.ofW (cc := cX0_init) (maxL := 2) (ret := none) (by decide) rfl ?_
  intro p e s m args below meth c s₁ B hml hv
  obtain ⟨rfl, hsz, hP, hK, hD0, hN, hE, hO⟩ := hv
  have hx := B.exec
  have hb := B.bytes
  have hr := B.returns
  have hts := atoms_spec (ws := wz_c_X0_init_1024) B.pre
  have hown : s.vm.findClass RX0 = some m.cls := findClass_of_methodNamed B.named
  have hlocks := B.notSynchronized
  have hin : meth.name = "<init>" := (name_of_methodNamed B.named B.method).1
  subst hsz
  have hD := hD0.self (sz := s.heap.size)
  generalize hAe : va_A [(h0, .inr (4, [.null, .int 0, .int 0]))] s.heap.size = A at hD hE ⊢
  have hA : ∀ q : Nat, s.heap.size ≤ q → A q := fun q h => by rw [← hAe]; exact Or.inr h
  have hS : va_S A s.heap s.heap [] := va_S.rf
  have hl := lv_entry ([.ref h0, .int 1024]) (n := 2) (Nat.le_of_ble_eq_true rfl)
  rw [lg_entry_eq]
  generalize (lg_sl ([.ref h0, .int 1024]) ++ List.replicate (2 - (lg_sl ([.ref h0, .int 1024])).length) Slot.unset).toArray = ls at hl ⊢
  have hl : lv_has ls 2 [(0, .ref h0), (1, .int 1024)] := hl
  refine lv_aload_n hx hb dX0_init_0 rfl (lv_at hl 0 rfl) ?_
  refine lv_iload_n hx hb dX0_init_1 rfl (lv_at hl 1 rfl) ?_
  refine lv_iconst (v := 1) hx hb dX0_init_2 (by decide) ?_
  refine va_mmax hx hb (hml.trans hl.1.symm) hown (hts (.methodLink RX0 1 Lib.Math.max.name) (by decide +kernel)) (hts (.static Lib.Math.max.name) (by decide +kernel)) (hts (.initialized "java/lang/Math") (by decide +kernel)) (hts (.code Lib.Math.max.name Lib.Math.max.code 2 (some .int)) (by decide +kernel)) (Nat.le_of_ble_eq_true rfl) (Nat.le_of_ble_eq_true rfl) (Nat.le_of_ble_eq_true rfl) (Nat.le_of_ble_eq_true rfl) dX0_init_3 ?_
  refine lv_topi (fun v1 ev1 => ?_)
  have ev1 : v1 = 1024 := ev1.trans (by decide +kernel)
  subst ev1
  refine zz_newa (atype := .byte) (n := 1024) (N' := 1024) (a0 := (1024, .inl (fun _ => 0))) (ty := .byte) hx hb (hts (.arrayClass .byte) (by decide +kernel)) rfl hK 0 rfl hP hD hS hA (zz_aB 1024) (by decide +kernel) (by decide +kernel) (by decide +kernel) (Nat.le_of_ble_eq_true rfl) (Nat.le_of_ble_eq_true rfl) dX0_init_6 (fun q2 H hP hD hS => ?_)
  have hP : va_P D vwCl [(h0, .inr (4, [.null, .int 0, .int 0])), (q2, .inl (y 0, 1024, .inl (fun _ => 0)))] H := hP
  have hD : va_D A [(h0, .inr (4, [.null, .int 0, .int 0])), (q2, .inl (y 0, 1024, .inl (fun _ => 0)))] := hD
  refine lv_iconst (v := 0) hx hb dX0_init_8 (by decide) ?_
  refine lv_iconst (v := 0) hx hb dX0_init_9 (by decide) ?_
  have hPc := hP.sub (ws' := [(h0, .inr (4, [.null, .int 0, .int 0]))]) [0] rfl
  have hDc := hD.sub (ws' := [(h0, .inr (4, [.null, .int 0, .int 0]))]) [0] (by decide) rfl
  have hFc := va_free (wc := [(h0, .inr (4, [.null, .int 0, .int 0]))]) hD hS hA [0] rfl
  refine va_callv (va_runI (As := [.ref q2, .int 0, .int 0]) (rest := []) ⟨hx, hb, hml, hown, hts⟩ (c_X10_init_X0 l D y H.size h0 q2 0 0) (cwI 3 hts gz_c_X0_init_1024_c_X10_init_X0 rfl rfl rfl (hts (.initialized RX10) (by decide +kernel)) (hts (.methodLink RX0 7 yX10_init) (by decide +kernel)) (hts (.instanceMethod yX10_init) (by decide +kernel)) rfl (by decide +kernel) ⟨(Nat.le_of_ble_eq_true rfl), (Nat.le_of_ble_eq_true rfl)⟩) (zB.preS hPc hDc hK hN hE hO hS hFc (fun _ h => nomatch h) (fun _ h => nomatch h)) rfl rfl hl.1 rfl (lv_room (Nat.le_of_ble_eq_true rfl)) dX0_init_10 ⟨(Nat.le_of_ble_eq_true rfl), (Nat.le_of_ble_eq_true rfl)⟩) hS (fun q _ h => hFc q h) hFc (fun u t H1 locs ht hvm hw hB hz1 hk1 hS => ?_)
  obtain ⟨hP1, hD1⟩ := hB
  rw [ht] at hP1
  obtain ⟨hP, hD⟩ := va_join (wr := [(q2, .inl (y 0, 1024, .inl (fun _ => 0)))]) (w1 := [(h0, .inr (4, [.ref q2, .int 0, .int 0]))]) hP hD [0] [1] rfl rfl (by decide) (by decide) hk1 hFc hP1 hD1
  generalize H1 = H at hP hS ⊢
  have hP : va_P D vwCl [(q2, .inl (y 0, 1024, .inl (fun _ => 0))), (h0, .inr (4, [.ref q2, .int 0, .int 0]))] H := hP
  have hD : va_D A [(q2, .inl (y 0, 1024, .inl (fun _ => 0))), (h0, .inr (4, [.ref q2, .int 0, .int 0]))] := hD
  have hP9 := hP.sub (ws' := [(h0, .inr (4, [.ref q2, .int 0, .int 0])), (q2, .inl (y 0, 1024, .inl (fun _ => 0)))]) [1, 0] rfl
  have hD9 := hD.sub (ws' := [(h0, .inr (4, [.ref q2, .int 0, .int 0])), (q2, .inl (y 0, 1024, .inl (fun _ => 0)))]) [1, 0] (by decide) rfl
  refine W.widen (k := 1) (n := 1024) (Nat.le_of_ble_eq_true rfl) (Nat.le_of_ble_eq_true rfl) ?_
  exact W.vret hx hb hr (fun t ht hW => ⟨⟨(), rfl, trivial, q2, by rw [ht]; exact hP9, hD9⟩, hS.F ht⟩) hS.2.2 dX0_init_13
def wz_c_X0_init_256 : List Cond := .code yX0_init cX0_init 2 none :: ([.methodLink RX0 1 Lib.Math.max.name, .static Lib.Math.max.name, .initialized "java/lang/Math", .code Lib.Math.max.name Lib.Math.max.code 2 (some .int), .arrayClass .byte, .initialized RX10, .methodLink RX0 7 yX10_init, .instanceMethod yX10_init] ++ (wz_c_X10_init_X0 ++ ([])))
set_option maxRecDepth 100000 in
theorem gz_c_X0_init_256_c_X10_init_X0 : GoodIn wz_c_X0_init_256 wz_c_X10_init_X0 := goodIn_sub (fun w h => List.mem_cons_of_mem _ (List.mem_append_right _ (List.mem_append_left _ h))) (by decide +kernel)
set_option maxHeartbeats 4000000 in
set_option maxRecDepth 100000 in
theorem c_X0_init_256 (l : Launch) (D : va_G) (y : Nat → ClassId) (sz : Nat) (h0 : Nat) : Met l yX0_init wz_c_X0_init_256 ({ frames := 2, cells := 1, slots := 256, locals := 35 }) (va_Pc [.ref h0, .int 256] (zB D y [(h0, .inr (4, [.null, .int 0, .int 0]))] sz [] [])) (va_Qv (fun _ : Unit => True) (fun _ t => ∃ q2 : Nat, va_P D vwCl [(h0, .inr (4, [.ref q2, .int 0, .int 0])), (q2, .inl (y 0, 256, .inl (fun _ => 0)))] t.heap ∧ va_D (va_A [(h0, .inr (4, [.null, .int 0, .int 0]))] sz) [(h0, .inr (4, [.ref q2, .int 0, .int 0])), (q2, .inl (y 0, 256, .inl (fun _ => 0)))]) (va_A [(h0, .inr (4, [.null, .int 0, .int 0]))] sz)) 1 256 (va_A [(h0, .inr (4, [.null, .int 0, .int 0]))] sz) := by
  refine Met.ofW (cc := cX0_init) (maxL := 2) (ret := none) (by decide) rfl ?_
  intro p e s m args below meth c s₁ B hml hv
  obtain ⟨rfl, hsz, hP, hK, hD0, hN, hE, hO⟩ := hv
  have hx := B.exec
  have hb := B.bytes
  have hr := B.returns
  have hts := atoms_spec (ws := wz_c_X0_init_256) B.pre
  have hown : s.vm.findClass RX0 = some m.cls := findClass_of_methodNamed B.named
  have hlocks := B.notSynchronized
  have hin : meth.name = "<init>" := (name_of_methodNamed B.named B.method).1
  subst hsz
  have hD := hD0.self (sz := s.heap.size)
  generalize hAe : va_A [(h0, .inr (4, [.null, .int 0, .int 0]))] s.heap.size = A at hD hE ⊢
  have hA : ∀ q : Nat, s.heap.size ≤ q → A q := fun q h => by rw [← hAe]; exact Or.inr h
  have hS : va_S A s.heap s.heap [] := va_S.rf
  have hl := lv_entry ([.ref h0, .int 256]) (n := 2) (Nat.le_of_ble_eq_true rfl)
  rw [lg_entry_eq]
  generalize (lg_sl ([.ref h0, .int 256]) ++ List.replicate (2 - (lg_sl ([.ref h0, .int 256])).length) Slot.unset).toArray = ls at hl ⊢
  have hl : lv_has ls 2 [(0, .ref h0), (1, .int 256)] := hl
  refine lv_aload_n hx hb dX0_init_0 rfl (lv_at hl 0 rfl) ?_
  refine lv_iload_n hx hb dX0_init_1 rfl (lv_at hl 1 rfl) ?_
  refine lv_iconst (v := 1) hx hb dX0_init_2 (by decide) ?_
  refine va_mmax hx hb (hml.trans hl.1.symm) hown (hts (.methodLink RX0 1 Lib.Math.max.name) (by decide +kernel)) (hts (.static Lib.Math.max.name) (by decide +kernel)) (hts (.initialized "java/lang/Math") (by decide +kernel)) (hts (.code Lib.Math.max.name Lib.Math.max.code 2 (some .int)) (by decide +kernel)) (Nat.le_of_ble_eq_true rfl) (Nat.le_of_ble_eq_true rfl) (Nat.le_of_ble_eq_true rfl) (Nat.le_of_ble_eq_true rfl) dX0_init_3 ?_
  refine lv_topi (fun v1 ev1 => ?_)
  have ev1 : v1 = 256 := ev1.trans (by decide +kernel)
  subst ev1
  refine zz_newa (atype := .byte) (n := 256) (N' := 256) (a0 := (256, .inl (fun _ => 0))) (ty := .byte) hx hb (hts (.arrayClass .byte) (by decide +kernel)) rfl hK 0 rfl hP hD hS hA (zz_aB 256) (by decide +kernel) (by decide +kernel) (by decide +kernel) (Nat.le_of_ble_eq_true rfl) (Nat.le_of_ble_eq_true rfl) dX0_init_6 (fun q2 H hP hD hS => ?_)
  have hP : va_P D vwCl [(h0, .inr (4, [.null, .int 0, .int 0])), (q2, .inl (y 0, 256, .inl (fun _ => 0)))] H := hP
  have hD : va_D A [(h0, .inr (4, [.null, .int 0, .int 0])), (q2, .inl (y 0, 256, .inl (fun _ => 0)))] := hD
  refine lv_iconst (v := 0) hx hb dX0_init_8 (by decide) ?_
  refine lv_iconst (v := 0) hx hb dX0_init_9 (by decide) ?_
  have hPc := hP.sub (ws' := [(h0, .inr (4, [.null, .int 0, .int 0]))]) [0] rfl
  have hDc := hD.sub (ws' := [(h0, .inr (4, [.null, .int 0, .int 0]))]) [0] (by decide) rfl
  have hFc := va_free (wc := [(h0, .inr (4, [.null, .int 0, .int 0]))]) hD hS hA [0] rfl
  refine va_callv (va_runI (As := [.ref q2, .int 0, .int 0]) (rest := []) ⟨hx, hb, hml, hown, hts⟩ (c_X10_init_X0 l D y H.size h0 q2 0 0) (cwI 3 hts gz_c_X0_init_256_c_X10_init_X0 rfl rfl rfl (hts (.initialized RX10) (by decide +kernel)) (hts (.methodLink RX0 7 yX10_init) (by decide +kernel)) (hts (.instanceMethod yX10_init) (by decide +kernel)) rfl (by decide +kernel) ⟨(Nat.le_of_ble_eq_true rfl), (Nat.le_of_ble_eq_true rfl)⟩) (zB.preS hPc hDc hK hN hE hO hS hFc (fun _ h => nomatch h) (fun _ h => nomatch h)) rfl rfl hl.1 rfl (lv_room (Nat.le_of_ble_eq_true rfl)) dX0_init_10 ⟨(Nat.le_of_ble_eq_true rfl), (Nat.le_of_ble_eq_true rfl)⟩) hS (fun q _ h => hFc q h) hFc (fun u t H1 locs ht hvm hw hB hz1 hk1 hS => ?_)
  obtain ⟨hP1, hD1⟩ := hB
  rw [ht] at hP1
  obtain ⟨hP, hD⟩ := va_join (wr := [(q2, .inl (y 0, 256, .inl (fun _ => 0)))]) (w1 := [(h0, .inr (4, [.ref q2, .int 0, .int 0]))]) hP hD [0] [1] rfl rfl (by decide) (by decide) hk1 hFc hP1 hD1
  generalize H1 = H at hP hS ⊢
  have hP : va_P D vwCl [(q2, .inl (y 0, 256, .inl (fun _ => 0))), (h0, .inr (4, [.ref q2, .int 0, .int 0]))] H := hP
  have hD : va_D A [(q2, .inl (y 0, 256, .inl (fun _ => 0))), (h0, .inr (4, [.ref q2, .int 0, .int 0]))] := hD
  have hP9 := hP.sub (ws' := [(h0, .inr (4, [.ref q2, .int 0, .int 0])), (q2, .inl (y 0, 256, .inl (fun _ => 0)))]) [1, 0] rfl
  have hD9 := hD.sub (ws' := [(h0, .inr (4, [.ref q2, .int 0, .int 0])), (q2, .inl (y 0, 256, .inl (fun _ => 0)))]) [1, 0] (by decide) rfl
  refine W.widen (k := 1) (n := 256) (Nat.le_of_ble_eq_true rfl) (Nat.le_of_ble_eq_true rfl) ?_
  exact W.vret hx hb hr (fun t ht hW => ⟨⟨(), rfl, trivial, q2, by rw [ht]; exact hP9, hD9⟩, hS.F ht⟩) hS.2.2 dX0_init_13
def wz_c_X0_init_128 : List Cond := .code yX0_init cX0_init 2 none :: ([.methodLink RX0 1 Lib.Math.max.name, .static Lib.Math.max.name, .initialized "java/lang/Math", .code Lib.Math.max.name Lib.Math.max.code 2 (some .int), .arrayClass .byte, .initialized RX10, .methodLink RX0 7 yX10_init, .instanceMethod yX10_init] ++ (wz_c_X10_init_X0 ++ ([])))
set_option maxRecDepth 100000 in
theorem gz_c_X0_init_128_c_X10_init_X0 : GoodIn wz_c_X0_init_128 wz_c_X10_init_X0 := goodIn_sub (fun w h => List.mem_cons_of_mem _ (List.mem_append_right _ (List.mem_append_left _ h))) (by decide +kernel)
set_option maxHeartbeats 4000000 in
set_option maxRecDepth 100000 in
theorem c_X0_init_128 (l : Launch) (D : va_G) (y : Nat → ClassId) (sz : Nat) (h0 : Nat) : Met l yX0_init wz_c_X0_init_128 ({ frames := 2, cells := 1, slots := 128, locals := 35 }) (va_Pc [.ref h0, .int 128] (zB D y [(h0, .inr (4, [.null, .int 0, .int 0]))] sz [] [])) (va_Qv (fun _ : Unit => True) (fun _ t => ∃ q2 : Nat, va_P D vwCl [(h0, .inr (4, [.ref q2, .int 0, .int 0])), (q2, .inl (y 0, 128, .inl (fun _ => 0)))] t.heap ∧ va_D (va_A [(h0, .inr (4, [.null, .int 0, .int 0]))] sz) [(h0, .inr (4, [.ref q2, .int 0, .int 0])), (q2, .inl (y 0, 128, .inl (fun _ => 0)))]) (va_A [(h0, .inr (4, [.null, .int 0, .int 0]))] sz)) 1 128 (va_A [(h0, .inr (4, [.null, .int 0, .int 0]))] sz) := by
  refine Met.ofW (cc := cX0_init) (maxL := 2) (ret := none) (by decide) rfl ?_
  intro p e s m args below meth c s₁ B hml hv
  obtain ⟨rfl, hsz, hP, hK, hD0, hN, hE, hO⟩ := hv
  have hx := B.exec
  have hb := B.bytes
  have hr := B.returns
  have hts := atoms_spec (ws := wz_c_X0_init_128) B.pre
  have hown : s.vm.findClass RX0 = some m.cls := findClass_of_methodNamed B.named
  have hlocks := B.notSynchronized
  have hin : meth.name = "<init>" := (name_of_methodNamed B.named B.method).1
  subst hsz
  have hD := hD0.self (sz := s.heap.size)
  generalize hAe : va_A [(h0, .inr (4, [.null, .int 0, .int 0]))] s.heap.size = A at hD hE ⊢
  have hA : ∀ q : Nat, s.heap.size ≤ q → A q := fun q h => by rw [← hAe]; exact Or.inr h
  have hS : va_S A s.heap s.heap [] := va_S.rf
  have hl := lv_entry ([.ref h0, .int 128]) (n := 2) (Nat.le_of_ble_eq_true rfl)
  rw [lg_entry_eq]
  generalize (lg_sl ([.ref h0, .int 128]) ++ List.replicate (2 - (lg_sl ([.ref h0, .int 128])).length) Slot.unset).toArray = ls at hl ⊢
  have hl : lv_has ls 2 [(0, .ref h0), (1, .int 128)] := hl
  refine lv_aload_n hx hb dX0_init_0 rfl (lv_at hl 0 rfl) ?_
  refine lv_iload_n hx hb dX0_init_1 rfl (lv_at hl 1 rfl) ?_
  refine lv_iconst (v := 1) hx hb dX0_init_2 (by decide) ?_
  refine va_mmax hx hb (hml.trans hl.1.symm) hown (hts (.methodLink RX0 1 Lib.Math.max.name) (by decide +kernel)) (hts (.static Lib.Math.max.name) (by decide +kernel)) (hts (.initialized "java/lang/Math") (by decide +kernel)) (hts (.code Lib.Math.max.name Lib.Math.max.code 2 (some .int)) (by decide +kernel)) (Nat.le_of_ble_eq_true rfl) (Nat.le_of_ble_eq_true rfl) (Nat.le_of_ble_eq_true rfl) (Nat.le_of_ble_eq_true rfl) dX0_init_3 ?_
  refine lv_topi (fun v1 ev1 => ?_)
  have ev1 : v1 = 128 := ev1.trans (by decide +kernel)
  subst ev1
  refine zz_newa (atype := .byte) (n := 128) (N' := 128) (a0 := (128, .inl (fun _ => 0))) (ty := .byte) hx hb (hts (.arrayClass .byte) (by decide +kernel)) rfl hK 0 rfl hP hD hS hA (zz_aB 128) (by decide +kernel) (by decide +kernel) (by decide +kernel) (Nat.le_of_ble_eq_true rfl) (Nat.le_of_ble_eq_true rfl) dX0_init_6 (fun q2 H hP hD hS => ?_)
  have hP : va_P D vwCl [(h0, .inr (4, [.null, .int 0, .int 0])), (q2, .inl (y 0, 128, .inl (fun _ => 0)))] H := hP
  have hD : va_D A [(h0, .inr (4, [.null, .int 0, .int 0])), (q2, .inl (y 0, 128, .inl (fun _ => 0)))] := hD
  refine lv_iconst (v := 0) hx hb dX0_init_8 (by decide) ?_
  refine lv_iconst (v := 0) hx hb dX0_init_9 (by decide) ?_
  have hPc := hP.sub (ws' := [(h0, .inr (4, [.null, .int 0, .int 0]))]) [0] rfl
  have hDc := hD.sub (ws' := [(h0, .inr (4, [.null, .int 0, .int 0]))]) [0] (by decide) rfl
  have hFc := va_free (wc := [(h0, .inr (4, [.null, .int 0, .int 0]))]) hD hS hA [0] rfl
  refine va_callv (va_runI (As := [.ref q2, .int 0, .int 0]) (rest := []) ⟨hx, hb, hml, hown, hts⟩ (c_X10_init_X0 l D y H.size h0 q2 0 0) (cwI 3 hts gz_c_X0_init_128_c_X10_init_X0 rfl rfl rfl (hts (.initialized RX10) (by decide +kernel)) (hts (.methodLink RX0 7 yX10_init) (by decide +kernel)) (hts (.instanceMethod yX10_init) (by decide +kernel)) rfl (by decide +kernel) ⟨(Nat.le_of_ble_eq_true rfl), (Nat.le_of_ble_eq_true rfl)⟩) (zB.preS hPc hDc hK hN hE hO hS hFc (fun _ h => nomatch h) (fun _ h => nomatch h)) rfl rfl hl.1 rfl (lv_room (Nat.le_of_ble_eq_true rfl)) dX0_init_10 ⟨(Nat.le_of_ble_eq_true rfl), (Nat.le_of_ble_eq_true rfl)⟩) hS (fun q _ h => hFc q h) hFc (fun u t H1 locs ht hvm hw hB hz1 hk1 hS => ?_)
  obtain ⟨hP1, hD1⟩ := hB
  rw [ht] at hP1
  obtain ⟨hP, hD⟩ := va_join (wr := [(q2, .inl (y 0, 128, .inl (fun _ => 0)))]) (w1 := [(h0, .inr (4, [.ref q2, .int 0, .int 0]))]) hP hD [0] [1] rfl rfl (by decide) (by decide) hk1 hFc hP1 hD1
  generalize H1 = H at hP hS ⊢
  have hP : va_P D vwCl [(q2, .inl (y 0, 128, .inl (fun _ => 0))), (h0, .inr (4, [.ref q2, .int 0, .int 0]))] H := hP
  have hD : va_D A [(q2, .inl (y 0, 128, .inl (fun _ => 0))), (h0, .inr (4, [.ref q2, .int 0, .int 0]))] := hD
  have hP9 := hP.sub (ws' := [(h0, .inr (4, [.ref q2, .int 0, .int 0])), (q2, .inl (y 0, 128, .inl (fun _ => 0)))]) [1, 0] rfl
  have hD9 := hD.sub (ws' := [(h0, .inr (4, [.ref q2, .int 0, .int 0])), (q2, .inl (y 0, 128, .inl (fun _ => 0)))]) [1, 0] (by decide) rfl
  refine W.widen (k := 1) (n := 128) (Nat.le_of_ble_eq_true rfl) (Nat.le_of_ble_eq_true rfl) ?_
  exact W.vret hx hb hr (fun t ht hW => ⟨⟨(), rfl, trivial, q2, by rw [ht]; exact hP9, hD9⟩, hS.F ht⟩) hS.2.2 dX0_init_13
def wz_c_X1_init : List Cond := .code yX1_init cX1_init 1 none :: ([.methodLink RX1 3 objectInit, .instanceMethod objectInit, .code objectInit ⟨#[0xb1]⟩ 1 none, .arrayClass .int, .fieldLink RX1 9 "SignetRing$Digest" "state" "[I", .fieldLink RX1 15 "SignetRing$Digest" "words" "[I"] ++ (wsX10 ++ ([])))
set_option maxHeartbeats 4000000 in
set_option maxRecDepth 100000 in
theorem c_X1_init (l : Launch) (D : va_G) (y : Nat → ClassId) (sz : Nat) (h0 : Nat) : Met l yX1_init wz_c_X1_init ({ frames := 1, cells := 2, slots := 88, locals := 12 }) (va_Pc [.ref h0] (zB D y [(h0, .inr (5, [.null, .null, .int 0]))] sz [] [])) (va_Qv (fun _ : Unit => True) (fun _ t => ∃ q1 q2 : Nat, va_P D vwCl [(h0, .inr (5, [.ref q1, .ref q2, .int 0])), (q1, .inl (y 1, 8, .inl (fun _ => 0))), (q2, .inl (y 1, 80, .inl (fun _ => 0)))] t.heap ∧ va_D (va_A [(h0, .inr (5, [.null, .null, .int 0]))] sz) [(h0, .inr (5, [.ref q1, .ref q2, .int 0])), (q1, .inl (y 1, 8, .inl (fun _ => 0))), (q2, .inl (y 1, 80, .inl (fun _ => 0)))]) (va_A [(h0, .inr (5, [.null, .null, .int 0]))] sz)) 2 88 (va_A [(h0, .inr (5, [.null, .null, .int 0]))] sz) := by
  refine Met.ofW (cc := cX1_init) (maxL := 1) (ret := none) (by decide) rfl ?_
  intro p e s m args below meth c s₁ B hml hv
  obtain ⟨rfl, hsz, hP, hK, hD0, hN, hE, hO⟩ := hv
  have hx := B.exec
  have hb := B.bytes
  have hr := B.returns
  have hts := atoms_spec (ws := wz_c_X1_init) B.pre
  have hown : s.vm.findClass RX1 = some m.cls := findClass_of_methodNamed B.named
  have hlocks := B.notSynchronized
  have hin : meth.name = "<init>" := (name_of_methodNamed B.named B.method).1
  subst hsz
  have hD := hD0.self (sz := s.heap.size)
  generalize hAe : va_A [(h0, .inr (5, [.null, .null, .int 0]))] s.heap.size = A at hD hE ⊢
  have hA : ∀ q : Nat, s.heap.size ≤ q → A q := fun q h => by rw [← hAe]; exact Or.inr h
  have hS : va_S A s.heap s.heap [] := va_S.rf
  have hl := lv_entry ([.ref h0]) (n := 1) (Nat.le_of_ble_eq_true rfl)
  rw [lg_entry_eq]
  generalize (lg_sl ([.ref h0]) ++ List.replicate (1 - (lg_sl ([.ref h0])).length) Slot.unset).toArray = ls at hl ⊢
  have hl : lv_has ls 1 [(0, .ref h0)] := hl
  refine lv_aload_n hx hb dX1_init_0 rfl (lv_at hl 0 rfl) ?_
  refine W.objInit hx hb hown (hts (.methodLink RX1 3 objectInit) (by decide +kernel)) (hts (.instanceMethod objectInit) (by decide +kernel)) (hts (.code objectInit ⟨#[0xb1]⟩ 1 none) (by decide +kernel)) rfl (by rw [hml]; exact hl.1) rfl dX1_init_1 (Nat.le_of_ble_eq_true rfl) (Nat.le_of_ble_eq_true rfl) ?_
  refine W.eq (g2 := F0 m 4 ls []) rfl ?_
  refine lv_aload_n hx hb dX1_init_4 rfl (lv_at hl 0 rfl) ?_
  refine lv_bipush (v := 8) hx hb dX1_init_5 (by decide) ?_
  refine zz_newa (atype := .int) (n := 8) (N' := 8) (a0 := (8, .inl (fun _ => 0))) (ty := .int) hx hb (hts (.arrayClass .int) (by decide +kernel)) rfl hK 1 rfl hP hD hS hA (zz_aI 8) (by decide +kernel) (by decide +kernel) (by decide +kernel) (Nat.le_of_ble_eq_true rfl) (Nat.le_of_ble_eq_true rfl) dX1_init_7 (fun q1 H hP hD hS => ?_)
  have hP : va_P D vwCl [(h0, .inr (5, [.null, .null, .int 0])), (q1, .inl (y 1, 8, .inl (fun _ => 0)))] H := hP
  have hD : va_D A [(h0, .inr (5, [.null, .null, .int 0])), (q1, .inl (y 1, 8, .inl (fun _ => 0)))] := hD
  refine va_putF (D := D) (ci := 5) (v := .ref q1) (ty := (.array .int)) (C := RX1) (T := TX1) (N := 3) hx hb hts (by decide +kernel) tyX1 tyX1_ok nmX1 hown hK hP hD hS 0 rfl rfl 0 (by decide) (hts (.fieldLink RX1 9 "SignetRing$Digest" "state" "[I") (by decide +kernel)) (fun _ h9 => h9) rfl hin rfl (by decide +kernel) rfl rfl (Nat.le_of_ble_eq_true rfl) dX1_init_9 (fun H locs hP hD hS => ?_)
  have hP : va_P D vwCl [(h0, .inr (5, [.ref q1, .null, .int 0])), (q1, .inl (y 1, 8, .inl (fun _ => 0)))] H := hP
  have hD : va_D A [(h0, .inr (5, [.ref q1, .null, .int 0])), (q1, .inl (y 1, 8, .inl (fun _ => 0)))] := hD
  refine lv_aload_n hx hb dX1_init_12 rfl (lv_at hl 0 rfl) ?_
  refine lv_bipush (v := 80) hx hb dX1_init_13 (by decide) ?_
  refine zz_newa (atype := .int) (n := 80) (N' := 80) (a0 := (80, .inl (fun _ => 0))) (ty := .int) hx hb (hts (.arrayClass .int) (by decide +kernel)) rfl hK 1 rfl hP hD hS hA (zz_aI 80) (by decide +kernel) (by decide +kernel) (by decide +kernel) (Nat.le_of_ble_eq_true rfl) (Nat.le_of_ble_eq_true rfl) dX1_init_15 (fun q2 H hP hD hS => ?_)
  have hP : va_P D vwCl [(h0, .inr (5, [.ref q1, .null, .int 0])), (q1, .inl (y 1, 8, .inl (fun _ => 0))), (q2, .inl (y 1, 80, .inl (fun _ => 0)))] H := hP
  have hD : va_D A [(h0, .inr (5, [.ref q1, .null, .int 0])), (q1, .inl (y 1, 8, .inl (fun _ => 0))), (q2, .inl (y 1, 80, .inl (fun _ => 0)))] := hD
  refine va_putF (D := D) (ci := 5) (v := .ref q2) (ty := (.array .int)) (C := RX1) (T := TX1) (N := 3) hx hb hts (by decide +kernel) tyX1 tyX1_ok nmX1 hown hK hP hD hS 0 rfl rfl 1 (by decide) (hts (.fieldLink RX1 15 "SignetRing$Digest" "words" "[I") (by decide +kernel)) (fun _ h9 => h9) rfl hin rfl (by decide +kernel) rfl rfl (Nat.le_of_ble_eq_true rfl) dX1_init_17 (fun H locs hP hD hS => ?_)
  have hP : va_P D vwCl [(h0, .inr (5, [.ref q1, .ref q2, .int 0])), (q1, .inl (y 1, 8, .inl (fun _ => 0))), (q2, .inl (y 1, 80, .inl (fun _ => 0)))] H := hP
  have hD : va_D A [(h0, .inr (5, [.ref q1, .ref q2, .int 0])), (q1, .inl (y 1, 8, .inl (fun _ => 0))), (q2, .inl (y 1, 80, .inl (fun _ => 0)))] := hD
  have hP9 := hP.sub (ws' := [(h0, .inr (5, [.ref q1, .ref q2, .int 0])), (q1, .inl (y 1, 8, .inl (fun _ => 0))), (q2, .inl (y 1, 80, .inl (fun _ => 0)))]) [0, 1, 2] rfl
  have hD9 := hD.sub (ws' := [(h0, .inr (5, [.ref q1, .ref q2, .int 0])), (q1, .inl (y 1, 8, .inl (fun _ => 0))), (q2, .inl (y 1, 80, .inl (fun _ => 0)))]) [0, 1, 2] (by decide) rfl
  refine W.widen (k := 2) (n := 88) (Nat.le_of_ble_eq_true rfl) (Nat.le_of_ble_eq_true rfl) ?_
  exact W.vret hx hb hr (fun t ht hW => ⟨⟨(), rfl, trivial, q1, q2, by rw [ht]; exact hP9, hD9⟩, hS.F ht⟩) hS.2.2 dX1_init_20
def wz_c_X4_init : List Cond := .code yX4_init cX4_init 1 none :: ([.methodLink RX4 3 objectInit, .instanceMethod objectInit, .code objectInit ⟨#[0xb1]⟩ 1 none, .classLink RX4 9 RX10, .instantiable RX10 3, .initialized RX10, .arrayClass .byte, .methodLink RX4 11 yX10_init, .instanceMethod yX10_init, .fieldLink RX4 14 "SignetRing$Packets" "body" "LSignetRing$Span;", .classLink RX4 20 RX0, .instantiable RX0 3, .initialized RX0, .methodLink RX4 22 yX0_init, .instanceMethod yX0_init, .fieldLink RX4 25 "SignetRing$Packets" "parts" "LSignetRing$Bytes;", .fieldLink RX4 29 "SignetRing$Packets" "in" "LSignetRing$Span;"] ++ (wsX100 ++ (wsX40 ++ (wsX00 ++ (wz_c_X10_init_X10 ++ (wz_c_X0_init_256 ++ ([])))))))
set_option maxRecDepth 100000 in
theorem gz_c_X4_init_c_X10_init_X10 : GoodIn wz_c_X4_init wz_c_X10_init_X10 := goodIn_sub (fun w h => List.mem_cons_of_mem _ (List.mem_append_right _ (List.mem_append_right _ (List.mem_append_right _ (List.mem_append_right _ (List.mem_append_left _ h)))))) (by decide +kernel)
set_option maxRecDepth 100000 in
theorem gz_c_X4_init_c_X0_init_256 : GoodIn wz_c_X4_init wz_c_X0_init_256 := goodIn_sub (fun w h => List.mem_cons_of_mem _ (List.mem_append_right _ (List.mem_append_right _ (List.mem_append_right _ (List.mem_append_right _ (List.mem_append_right _ (List.mem_append_left _ h))))))) (by decide +kernel)
set_option maxHeartbeats 4000000 in
set_option maxRecDepth 100000 in
theorem c_X4_init (l : Launch) (D : va_G) (y : Nat → ClassId) (sz : Nat) (h0 : Nat) : Met l yX4_init wz_c_X4_init ({ frames := 3, cells := 4, slots := 262, locals := 56 }) (va_Pc [.ref h0] (zB D y [(h0, .inr (8, [.null, .null, .null, .int 0, .int 0, .int 0]))] sz [] [])) (va_Qv (fun _ : Unit => True) (fun _ t => ∃ q2 q1 q3 q4 : Nat, va_P D vwCl [(h0, .inr (8, [.ref q1, .ref q3, .ref q1, .int 0, .int 0, .int 0])), (q2, .inl (y 0, 0, .inl (fun _ => 0))), (q1, .inr (14, [.ref q2, .int 0, .int 0])), (q3, .inr (4, [.ref q4, .int 0, .int 0])), (q4, .inl (y 0, 256, .inl (fun _ => 0)))] t.heap ∧ va_D (va_A [(h0, .inr (8, [.null, .null, .null, .int 0, .int 0, .int 0]))] sz) [(h0, .inr (8, [.ref q1, .ref q3, .ref q1, .int 0, .int 0, .int 0])), (q2, .inl (y 0, 0, .inl (fun _ => 0))), (q1, .inr (14, [.ref q2, .int 0, .int 0])), (q3, .inr (4, [.ref q4, .int 0, .int 0])), (q4, .inl (y 0, 256, .inl (fun _ => 0)))]) (va_A [(h0, .inr (8, [.null, .null, .null, .int 0, .int 0, .int 0]))] sz)) 4 262 (va_A [(h0, .inr (8, [.null, .null, .null, .int 0, .int 0, .int 0]))] sz) := by
  refine Met.ofW (cc := cX4_init) (maxL := 1) (ret := none) (by decide) rfl ?_
  intro p e s m args below meth c s₁ B hml hv
  obtain ⟨rfl, hsz, hP, hK, hD0, hN, hE, hO⟩ := hv
  have hx := B.exec
  have hb := B.bytes
  have hr := B.returns
  have hts := atoms_spec (ws := wz_c_X4_init) B.pre
  have hown : s.vm.findClass RX4 = some m.cls := findClass_of_methodNamed B.named
  have hlocks := B.notSynchronized
  have hin : meth.name = "<init>" := (name_of_methodNamed B.named B.method).1
  subst hsz
  have hD := hD0.self (sz := s.heap.size)
  generalize hAe : va_A [(h0, .inr (8, [.null, .null, .null, .int 0, .int 0, .int 0]))] s.heap.size = A at hD hE ⊢
  have hA : ∀ q : Nat, s.heap.size ≤ q → A q := fun q h => by rw [← hAe]; exact Or.inr h
  have hS : va_S A s.heap s.heap [] := va_S.rf
  have hl := lv_entry ([.ref h0]) (n := 1) (Nat.le_of_ble_eq_true rfl)
  rw [lg_entry_eq]
  generalize (lg_sl ([.ref h0]) ++ List.replicate (1 - (lg_sl ([.ref h0])).length) Slot.unset).toArray = ls at hl ⊢
  have hl : lv_has ls 1 [(0, .ref h0)] := hl
  refine lv_aload_n hx hb dX4_init_0 rfl (lv_at hl 0 rfl) ?_
  refine W.objInit hx hb hown (hts (.methodLink RX4 3 objectInit) (by decide +kernel)) (hts (.instanceMethod objectInit) (by decide +kernel)) (hts (.code objectInit ⟨#[0xb1]⟩ 1 none) (by decide +kernel)) rfl (by rw [hml]; exact hl.1) rfl dX4_init_1 (Nat.le_of_ble_eq_true rfl) (Nat.le_of_ble_eq_true rfl) ?_
  refine W.eq (g2 := F0 m 4 ls []) rfl ?_
  refine lv_aload_n hx hb dX4_init_4 rfl (lv_at hl 0 rfl) ?_
  refine va_new (ci := 14) (fs := [.null, .int 0, .int 0]) (C := RX10) (T := TX10) (N := 3) hx hb hts (by decide +kernel) tyX10 tyX10_ok hown (hts (.classLink RX4 9 RX10) (by decide +kernel)) (hts (.instantiable RX10 3) (by decide +kernel)) (hts (.initialized RX10) (by decide +kernel)) hK hP hD hS hA rfl (by decide) (Nat.le_of_ble_eq_true rfl) (Nat.le_of_ble_eq_true rfl) dX4_init_5 (fun q1 H hP hD hS => ?_)
  have hP : va_P D vwCl [(h0, .inr (8, [.null, .null, .null, .int 0, .int 0, .int 0])), (q1, .inr (14, [.null, .int 0, .int 0]))] H := hP
  have hD : va_D A [(h0, .inr (8, [.null, .null, .null, .int 0, .int 0, .int 0])), (q1, .inr (14, [.null, .int 0, .int 0]))] := hD
  refine lv_dup hx hb dX4_init_8 rfl ?_
  refine lv_iconst (v := 0) hx hb dX4_init_9 (by decide) ?_
  refine zz_newa (atype := .byte) (n := 0) (N' := 0) (a0 := (0, .inl (fun _ => 0))) (ty := .byte) hx hb (hts (.arrayClass .byte) (by decide +kernel)) rfl hK 0 rfl hP hD hS hA (zz_aB 0) (by decide +kernel) (by decide +kernel) (by decide +kernel) (Nat.le_of_ble_eq_true rfl) (Nat.le_of_ble_eq_true rfl) dX4_init_10 (fun q2 H hP hD hS => ?_)
  have hP : va_P D vwCl [(h0, .inr (8, [.null, .null, .null, .int 0, .int 0, .int 0])), (q1, .inr (14, [.null, .int 0, .int 0])), (q2, .inl (y 0, 0, .inl (fun _ => 0)))] H := hP
  have hD : va_D A [(h0, .inr (8, [.null, .null, .null, .int 0, .int 0, .int 0])), (q1, .inr (14, [.null, .int 0, .int 0])), (q2, .inl (y 0, 0, .inl (fun _ => 0)))] := hD
  refine lv_iconst (v := 0) hx hb dX4_init_12 (by decide) ?_
  refine lv_iconst (v := 0) hx hb dX4_init_13 (by decide) ?_
  have hPc := hP.sub (ws' := [(q1, .inr (14, [.null, .int 0, .int 0]))]) [1] rfl
  have hDc := hD.sub (ws' := [(q1, .inr (14, [.null, .int 0, .int 0]))]) [1] (by decide) rfl
  have hFc := va_free (wc := [(q1, .inr (14, [.null, .int 0, .int 0]))]) hD hS hA [1] rfl
  refine va_callv (va_runI (As := [.ref q2, .int 0, .int 0]) (rest := [.ref q1, .ref h0]) ⟨hx, hb, hml, hown, hts⟩ (c_X10_init_X10 l D y H.size q1 q2 0 0) (cwI 3 hts gz_c_X4_init_c_X10_init_X10 rfl rfl rfl (hts (.initialized RX10) (by decide +kernel)) (hts (.methodLink RX4 11 yX10_init) (by decide +kernel)) (hts (.instanceMethod yX10_init) (by decide +kernel)) rfl (by decide +kernel) ⟨(Nat.le_of_ble_eq_true rfl), (Nat.le_of_ble_eq_true rfl)⟩) (zB.preS hPc hDc hK hN hE hO hS hFc (fun _ h => nomatch h) (fun _ h => nomatch h)) rfl rfl hl.1 rfl (lv_room (Nat.le_of_ble_eq_true rfl)) dX4_init_14 ⟨(Nat.le_of_ble_eq_true rfl), (Nat.le_of_ble_eq_true rfl)⟩) hS (fun q _ h => hFc q h) hFc (fun u t H1 locs ht hvm hw hB hz1 hk1 hS => ?_)
  obtain ⟨hP1, hD1⟩ := hB
  rw [ht] at hP1
  obtain ⟨hP, hD⟩ := va_join (wr := [(h0, .inr (8, [.null, .null, .null, .int 0, .int 0, .int 0])), (q2, .inl (y 0, 0, .inl (fun _ => 0)))]) (w1 := [(q1, .inr (14, [.ref q2, .int 0, .int 0]))]) hP hD [1] [0, 2] rfl rfl (by decide) (by decide) hk1 hFc hP1 hD1
  generalize H1 = H at hP hS ⊢
  have hP : va_P D vwCl [(h0, .inr (8, [.null, .null, .null, .int 0, .int 0, .int 0])), (q2, .inl (y 0, 0, .inl (fun _ => 0))), (q1, .inr (14, [.ref q2, .int 0, .int 0]))] H := hP
  have hD : va_D A [(h0, .inr (8, [.null, .null, .null, .int 0, .int 0, .int 0])), (q2, .inl (y 0, 0, .inl (fun _ => 0))), (q1, .inr (14, [.ref q2, .int 0, .int 0]))] := hD
  refine va_putF (D := D) (ci := 8) (v := .ref q1) (ty := (.object "SignetRing$Span")) (C := RX4) (T := TX4) (N := 6) hx hb hts (by decide +kernel) tyX4 tyX4_ok nmX4 hown hK hP hD hS 0 rfl rfl 0 (by decide) (hts (.fieldLink RX4 14 "SignetRing$Packets" "body" "LSignetRing$Span;") (by decide +kernel)) (fun _ h9 => h9) rfl hin rfl (by decide +kernel) rfl rfl (Nat.le_of_ble_eq_true rfl) dX4_init_17 (fun H locs hP hD hS => ?_)
  have hP : va_P D vwCl [(h0, .inr (8, [.ref q1, .null, .null, .int 0, .int 0, .int 0])), (q2, .inl (y 0, 0, .inl (fun _ => 0))), (q1, .inr (14, [.ref q2, .int 0, .int 0]))] H := hP
  have hD : va_D A [(h0, .inr (8, [.ref q1, .null, .null, .int 0, .int 0, .int 0])), (q2, .inl (y 0, 0, .inl (fun _ => 0))), (q1, .inr (14, [.ref q2, .int 0, .int 0]))] := hD
  refine lv_aload_n hx hb dX4_init_20 rfl (lv_at hl 0 rfl) ?_
  refine va_new (ci := 4) (fs := [.null, .int 0, .int 0]) (C := RX0) (T := TX0) (N := 3) hx hb hts (by decide +kernel) tyX0 tyX0_ok hown (hts (.classLink RX4 20 RX0) (by decide +kernel)) (hts (.instantiable RX0 3) (by decide +kernel)) (hts (.initialized RX0) (by decide +kernel)) hK hP hD hS hA rfl (by decide) (Nat.le_of_ble_eq_true rfl) (Nat.le_of_ble_eq_true rfl) dX4_init_21 (fun q3 H hP hD hS => ?_)
  have hP : va_P D vwCl [(h0, .inr (8, [.ref q1, .null, .null, .int 0, .int 0, .int 0])), (q2, .inl (y 0, 0, .inl (fun _ => 0))), (q1, .inr (14, [.ref q2, .int 0, .int 0])), (q3, .inr (4, [.null, .int 0, .int 0]))] H := hP
  have hD : va_D A [(h0, .inr (8, [.ref q1, .null, .null, .int 0, .int 0, .int 0])), (q2, .inl (y 0, 0, .inl (fun _ => 0))), (q1, .inr (14, [.ref q2, .int 0, .int 0])), (q3, .inr (4, [.null, .int 0, .int 0]))] := hD
  refine lv_dup hx hb dX4_init_24 rfl ?_
  refine lv_sipush (v := 256) hx hb dX4_init_25 (by decide) ?_
  have hPc := hP.sub (ws' := [(q3, .inr (4, [.null, .int 0, .int 0]))]) [3] rfl
  have hDc := hD.sub (ws' := [(q3, .inr (4, [.null, .int 0, .int 0]))]) [3] (by decide) rfl
  have hFc := va_free (wc := [(q3, .inr (4, [.null, .int 0, .int 0]))]) hD hS hA [3] rfl
  refine va_callv (va_runI (As := [.int 256]) (rest := [.ref q3, .ref h0]) ⟨hx, hb, hml, hown, hts⟩ (c_X0_init_256 l D y H.size q3) (cwI 1 hts gz_c_X4_init_c_X0_init_256 rfl rfl rfl (hts (.initialized RX0) (by decide +kernel)) (hts (.methodLink RX4 22 yX0_init) (by decide +kernel)) (hts (.instanceMethod yX0_init) (by decide +kernel)) rfl (by decide +kernel) ⟨(Nat.le_of_ble_eq_true rfl), (Nat.le_of_ble_eq_true rfl)⟩) (zB.preS hPc hDc hK hN hE hO hS hFc (fun _ h => nomatch h) (fun _ h => nomatch h)) rfl rfl hl.1 rfl (lv_room (Nat.le_of_ble_eq_true rfl)) dX4_init_28 ⟨(Nat.le_of_ble_eq_true rfl), (Nat.le_of_ble_eq_true rfl)⟩) hS (fun q _ h => hFc q h) hFc (fun u t H1 locs ht hvm hw hB hz1 hk1 hS => ?_)
  obtain ⟨q4, hP1, hD1⟩ := hB
  rw [ht] at hP1
  obtain ⟨hP, hD⟩ := va_join (wr := [(h0, .inr (8, [.ref q1, .null, .null, .int 0, .int 0, .int 0])), (q2, .inl (y 0, 0, .inl (fun _ => 0))), (q1, .inr (14, [.ref q2, .int 0, .int 0]))]) (w1 := [(q3, .inr (4, [.ref q4, .int 0, .int 0])), (q4, .inl (y 0, 256, .inl (fun _ => 0)))]) hP hD [3] [0, 1, 2] rfl rfl (by decide) (by decide) hk1 hFc hP1 hD1
  generalize H1 = H at hP hS ⊢
  have hP : va_P D vwCl [(h0, .inr (8, [.ref q1, .null, .null, .int 0, .int 0, .int 0])), (q2, .inl (y 0, 0, .inl (fun _ => 0))), (q1, .inr (14, [.ref q2, .int 0, .int 0])), (q3, .inr (4, [.ref q4, .int 0, .int 0])), (q4, .inl (y 0, 256, .inl (fun _ => 0)))] H := hP
  have hD : va_D A [(h0, .inr (8, [.ref q1, .null, .null, .int 0, .int 0, .int 0])), (q2, .inl (y 0, 0, .inl (fun _ => 0))), (q1, .inr (14, [.ref q2, .int 0, .int 0])), (q3, .inr (4, [.ref q4, .int 0, .int 0])), (q4, .inl (y 0, 256, .inl (fun _ => 0)))] := hD
  refine va_putF (D := D) (ci := 8) (v := .ref q3) (ty := (.object "SignetRing$Bytes")) (C := RX4) (T := TX4) (N := 6) hx hb hts (by decide +kernel) tyX4 tyX4_ok nmX4 hown hK hP hD hS 0 rfl rfl 1 (by decide) (hts (.fieldLink RX4 25 "SignetRing$Packets" "parts" "LSignetRing$Bytes;") (by decide +kernel)) (fun _ h9 => h9) rfl hin rfl (by decide +kernel) rfl rfl (Nat.le_of_ble_eq_true rfl) dX4_init_31 (fun H locs hP hD hS => ?_)
  have hP : va_P D vwCl [(h0, .inr (8, [.ref q1, .ref q3, .null, .int 0, .int 0, .int 0])), (q2, .inl (y 0, 0, .inl (fun _ => 0))), (q1, .inr (14, [.ref q2, .int 0, .int 0])), (q3, .inr (4, [.ref q4, .int 0, .int 0])), (q4, .inl (y 0, 256, .inl (fun _ => 0)))] H := hP
  have hD : va_D A [(h0, .inr (8, [.ref q1, .ref q3, .null, .int 0, .int 0, .int 0])), (q2, .inl (y 0, 0, .inl (fun _ => 0))), (q1, .inr (14, [.ref q2, .int 0, .int 0])), (q3, .inr (4, [.ref q4, .int 0, .int 0])), (q4, .inl (y 0, 256, .inl (fun _ => 0)))] := hD
  refine lv_aload_n hx hb dX4_init_34 rfl (lv_at hl 0 rfl) ?_
  refine lv_aload_n hx hb dX4_init_35 rfl (lv_at hl 0 rfl) ?_
  refine va_get (D := D) (ci := 8) (v := .ref q1) (C := RX4) (T := TX4) (N := 6) hx hb hts (by decide +kernel) hown hK hP 0 rfl rfl 0 (by decide) (hts (.fieldLink RX4 14 "SignetRing$Packets" "body" "LSignetRing$Span;") (by decide +kernel)) (fun _ h9 => h9) rfl dX4_init_36 ?_
  refine va_put (D := D) (ci := 8) (v := .ref q1) (ty := (.object "SignetRing$Span")) (C := RX4) (T := TX4) (N := 6) hx hb hts (by decide +kernel) tyX4 tyX4_ok nmX4 hown hK hP hD hS 0 rfl rfl 2 (by decide) (hts (.fieldLink RX4 29 "SignetRing$Packets" "in" "LSignetRing$Span;") (by decide +kernel)) (fun _ h9 => h9) rfl (by decide +kernel) rfl rfl (Nat.le_of_ble_eq_true rfl) dX4_init_39 (fun H locs hP hD hS => ?_)
  have hP : va_P D vwCl [(h0, .inr (8, [.ref q1, .ref q3, .ref q1, .int 0, .int 0, .int 0])), (q2, .inl (y 0, 0, .inl (fun _ => 0))), (q1, .inr (14, [.ref q2, .int 0, .int 0])), (q3, .inr (4, [.ref q4, .int 0, .int 0])), (q4, .inl (y 0, 256, .inl (fun _ => 0)))] H := hP
  have hD : va_D A [(h0, .inr (8, [.ref q1, .ref q3, .ref q1, .int 0, .int 0, .int 0])), (q2, .inl (y 0, 0, .inl (fun _ => 0))), (q1, .inr (14, [.ref q2, .int 0, .int 0])), (q3, .inr (4, [.ref q4, .int 0, .int 0])), (q4, .inl (y 0, 256, .inl (fun _ => 0)))] := hD
  have hP9 := hP.sub (ws' := [(h0, .inr (8, [.ref q1, .ref q3, .ref q1, .int 0, .int 0, .int 0])), (q2, .inl (y 0, 0, .inl (fun _ => 0))), (q1, .inr (14, [.ref q2, .int 0, .int 0])), (q3, .inr (4, [.ref q4, .int 0, .int 0])), (q4, .inl (y 0, 256, .inl (fun _ => 0)))]) [0, 1, 2, 3, 4] rfl
  have hD9 := hD.sub (ws' := [(h0, .inr (8, [.ref q1, .ref q3, .ref q1, .int 0, .int 0, .int 0])), (q2, .inl (y 0, 0, .inl (fun _ => 0))), (q1, .inr (14, [.ref q2, .int 0, .int 0])), (q3, .inr (4, [.ref q4, .int 0, .int 0])), (q4, .inl (y 0, 256, .inl (fun _ => 0)))]) [0, 1, 2, 3, 4] (by decide) rfl
  refine W.widen (k := 4) (n := 262) (Nat.le_of_ble_eq_true rfl) (Nat.le_of_ble_eq_true rfl) ?_
  exact W.vret hx hb hr (fun t ht hW => ⟨⟨(), rfl, trivial, q2, q1, q3, q4, by rw [ht]; exact hP9, hD9⟩, hS.F ht⟩) hS.2.2 dX4_init_42
def wz_c_X9_init : List Cond := .code yX9_init cX9_init 1 none :: ([.methodLink RX9 3 objectInit, .instanceMethod objectInit, .code objectInit ⟨#[0xb1]⟩ 1 none, .classLink RX9 9 RX0, .instantiable RX0 3, .initialized RX0, .methodLink RX9 11 yX0_init, .instanceMethod yX0_init, .fieldLink RX9 14 "SignetRing$Signs" "plain" "LSignetRing$Bytes;", .fieldLink RX9 20 "SignetRing$Signs" "in" "LSignetRing$Span;"] ++ (wsX00 ++ (wsX90 ++ (wz_c_X0_init_1024 ++ ([])))))
set_option maxRecDepth 100000 in
theorem gz_c_X9_init_c_X0_init_1024 : GoodIn wz_c_X9_init wz_c_X0_init_1024 := goodIn_sub (fun w h => List.mem_cons_of_mem _ (List.mem_append_right _ (List.mem_append_right _ (List.mem_append_right _ (List.mem_append_left _ h))))) (by decide +kernel)
set_option maxHeartbeats 4000000 in
set_option maxRecDepth 100000 in
theorem c_X9_init (l : Launch) (D : va_G) (y : Nat → ClassId) (sz : Nat) (h0 : Nat) : Met l yX9_init wz_c_X9_init ({ frames := 3, cells := 2, slots := 1027, locals := 56 }) (va_Pc [.ref h0] (zB D y [(h0, .inr (13, [.null, .null, .int 0, .int 0, .int 0, .int 0, .int 0]))] sz [] [])) (va_Qv (fun _ : Unit => True) (fun _ t => ∃ q1 q2 : Nat, va_P D vwCl [(h0, .inr (13, [.ref q1, .ref q1, .int 0, .int 0, .int 0, .int 0, .int 0])), (q1, .inr (4, [.ref q2, .int 0, .int 0])), (q2, .inl (y 0, 1024, .inl (fun _ => 0)))] t.heap ∧ va_D (va_A [(h0, .inr (13, [.null, .null, .int 0, .int 0, .int 0, .int 0, .int 0]))] sz) [(h0, .inr (13, [.ref q1, .ref q1, .int 0, .int 0, .int 0, .int 0, .int 0])), (q1, .inr (4, [.ref q2, .int 0, .int 0])), (q2, .inl (y 0, 1024, .inl (fun _ => 0)))]) (va_A [(h0, .inr (13, [.null, .null, .int 0, .int 0, .int 0, .int 0, .int 0]))] sz)) 2 1027 (va_A [(h0, .inr (13, [.null, .null, .int 0, .int 0, .int 0, .int 0, .int 0]))] sz) := by
  refine Met.ofW (cc := cX9_init) (maxL := 1) (ret := none) (by decide) rfl ?_
  intro p e s m args below meth c s₁ B hml hv
  obtain ⟨rfl, hsz, hP, hK, hD0, hN, hE, hO⟩ := hv
  have hx := B.exec
  have hb := B.bytes
  have hr := B.returns
  have hts := atoms_spec (ws := wz_c_X9_init) B.pre
  have hown : s.vm.findClass RX9 = some m.cls := findClass_of_methodNamed B.named
  have hlocks := B.notSynchronized
  have hin : meth.name = "<init>" := (name_of_methodNamed B.named B.method).1
  subst hsz
  have hD := hD0.self (sz := s.heap.size)
  generalize hAe : va_A [(h0, .inr (13, [.null, .null, .int 0, .int 0, .int 0, .int 0, .int 0]))] s.heap.size = A at hD hE ⊢
  have hA : ∀ q : Nat, s.heap.size ≤ q → A q := fun q h => by rw [← hAe]; exact Or.inr h
  have hS : va_S A s.heap s.heap [] := va_S.rf
  have hl := lv_entry ([.ref h0]) (n := 1) (Nat.le_of_ble_eq_true rfl)
  rw [lg_entry_eq]
  generalize (lg_sl ([.ref h0]) ++ List.replicate (1 - (lg_sl ([.ref h0])).length) Slot.unset).toArray = ls at hl ⊢
  have hl : lv_has ls 1 [(0, .ref h0)] := hl
  refine lv_aload_n hx hb dX9_init_0 rfl (lv_at hl 0 rfl) ?_
  refine W.objInit hx hb hown (hts (.methodLink RX9 3 objectInit) (by decide +kernel)) (hts (.instanceMethod objectInit) (by decide +kernel)) (hts (.code objectInit ⟨#[0xb1]⟩ 1 none) (by decide +kernel)) rfl (by rw [hml]; exact hl.1) rfl dX9_init_1 (Nat.le_of_ble_eq_true rfl) (Nat.le_of_ble_eq_true rfl) ?_
  refine W.eq (g2 := F0 m 4 ls []) rfl ?_
  refine lv_aload_n hx hb dX9_init_4 rfl (lv_at hl 0 rfl) ?_
  refine va_new (ci := 4) (fs := [.null, .int 0, .int 0]) (C := RX0) (T := TX0) (N := 3) hx hb hts (by decide +kernel) tyX0 tyX0_ok hown (hts (.classLink RX9 9 RX0) (by decide +kernel)) (hts (.instantiable RX0 3) (by decide +kernel)) (hts (.initialized RX0) (by decide +kernel)) hK hP hD hS hA rfl (by decide) (Nat.le_of_ble_eq_true rfl) (Nat.le_of_ble_eq_true rfl) dX9_init_5 (fun q1 H hP hD hS => ?_)
  have hP : va_P D vwCl [(h0, .inr (13, [.null, .null, .int 0, .int 0, .int 0, .int 0, .int 0])), (q1, .inr (4, [.null, .int 0, .int 0]))] H := hP
  have hD : va_D A [(h0, .inr (13, [.null, .null, .int 0, .int 0, .int 0, .int 0, .int 0])), (q1, .inr (4, [.null, .int 0, .int 0]))] := hD
  refine lv_dup hx hb dX9_init_8 rfl ?_
  refine lv_sipush (v := 1024) hx hb dX9_init_9 (by decide) ?_
  have hPc := hP.sub (ws' := [(q1, .inr (4, [.null, .int 0, .int 0]))]) [1] rfl
  have hDc := hD.sub (ws' := [(q1, .inr (4, [.null, .int 0, .int 0]))]) [1] (by decide) rfl
  have hFc := va_free (wc := [(q1, .inr (4, [.null, .int 0, .int 0]))]) hD hS hA [1] rfl
  refine va_callv (va_runI (As := [.int 1024]) (rest := [.ref q1, .ref h0]) ⟨hx, hb, hml, hown, hts⟩ (c_X0_init_1024 l D y H.size q1) (cwI 1 hts gz_c_X9_init_c_X0_init_1024 rfl rfl rfl (hts (.initialized RX0) (by decide +kernel)) (hts (.methodLink RX9 11 yX0_init) (by decide +kernel)) (hts (.instanceMethod yX0_init) (by decide +kernel)) rfl (by decide +kernel) ⟨(Nat.le_of_ble_eq_true rfl), (Nat.le_of_ble_eq_true rfl)⟩) (zB.preS hPc hDc hK hN hE hO hS hFc (fun _ h => nomatch h) (fun _ h => nomatch h)) rfl rfl hl.1 rfl (lv_room (Nat.le_of_ble_eq_true rfl)) dX9_init_12 ⟨(Nat.le_of_ble_eq_true rfl), (Nat.le_of_ble_eq_true rfl)⟩) hS (fun q _ h => hFc q h) hFc (fun u t H1 locs ht hvm hw hB hz1 hk1 hS => ?_)
  obtain ⟨q2, hP1, hD1⟩ := hB
  rw [ht] at hP1
  obtain ⟨hP, hD⟩ := va_join (wr := [(h0, .inr (13, [.null, .null, .int 0, .int 0, .int 0, .int 0, .int 0]))]) (w1 := [(q1, .inr (4, [.ref q2, .int 0, .int 0])), (q2, .inl (y 0, 1024, .inl (fun _ => 0)))]) hP hD [1] [0] rfl rfl (by decide) (by decide) hk1 hFc hP1 hD1
  generalize H1 = H at hP hS ⊢
  have hP : va_P D vwCl [(h0, .inr (13, [.null, .null, .int 0, .int 0, .int 0, .int 0, .int 0])), (q1, .inr (4, [.ref q2, .int 0, .int 0])), (q2, .inl (y 0, 1024, .inl (fun _ => 0)))] H := hP
  have hD : va_D A [(h0, .inr (13, [.null, .null, .int 0, .int 0, .int 0, .int 0, .int 0])), (q1, .inr (4, [.ref q2, .int 0, .int 0])), (q2, .inl (y 0, 1024, .inl (fun _ => 0)))] := hD
  refine va_putF (D := D) (ci := 13) (v := .ref q1) (ty := (.object "SignetRing$Bytes")) (C := RX9) (T := TX9) (N := 7) hx hb hts (by decide +kernel) tyX9 tyX9_ok nmX9 hown hK hP hD hS 0 rfl rfl 0 (by decide) (hts (.fieldLink RX9 14 "SignetRing$Signs" "plain" "LSignetRing$Bytes;") (by decide +kernel)) (fun _ h9 => h9) rfl hin rfl (by decide +kernel) rfl rfl (Nat.le_of_ble_eq_true rfl) dX9_init_15 (fun H locs hP hD hS => ?_)
  have hP : va_P D vwCl [(h0, .inr (13, [.ref q1, .null, .int 0, .int 0, .int 0, .int 0, .int 0])), (q1, .inr (4, [.ref q2, .int 0, .int 0])), (q2, .inl (y 0, 1024, .inl (fun _ => 0)))] H := hP
  have hD : va_D A [(h0, .inr (13, [.ref q1, .null, .int 0, .int 0, .int 0, .int 0, .int 0])), (q1, .inr (4, [.ref q2, .int 0, .int 0])), (q2, .inl (y 0, 1024, .inl (fun _ => 0)))] := hD
  refine lv_aload_n hx hb dX9_init_18 rfl (lv_at hl 0 rfl) ?_
  refine lv_aload_n hx hb dX9_init_19 rfl (lv_at hl 0 rfl) ?_
  refine va_get (D := D) (ci := 13) (v := .ref q1) (C := RX9) (T := TX9) (N := 7) hx hb hts (by decide +kernel) hown hK hP 0 rfl rfl 0 (by decide) (hts (.fieldLink RX9 14 "SignetRing$Signs" "plain" "LSignetRing$Bytes;") (by decide +kernel)) (fun _ h9 => h9) rfl dX9_init_20 ?_
  refine va_put (D := D) (ci := 13) (v := .ref q1) (ty := (.object "SignetRing$Span")) (C := RX9) (T := TX9) (N := 7) hx hb hts (by decide +kernel) tyX9 tyX9_ok nmX9 hown hK hP hD hS 0 rfl rfl 1 (by decide) (hts (.fieldLink RX9 20 "SignetRing$Signs" "in" "LSignetRing$Span;") (by decide +kernel)) (fun _ h9 => h9) rfl (by decide +kernel) rfl rfl (Nat.le_of_ble_eq_true rfl) dX9_init_23 (fun H locs hP hD hS => ?_)
  have hP : va_P D vwCl [(h0, .inr (13, [.ref q1, .ref q1, .int 0, .int 0, .int 0, .int 0, .int 0])), (q1, .inr (4, [.ref q2, .int 0, .int 0])), (q2, .inl (y 0, 1024, .inl (fun _ => 0)))] H := hP
  have hD : va_D A [(h0, .inr (13, [.ref q1, .ref q1, .int 0, .int 0, .int 0, .int 0, .int 0])), (q1, .inr (4, [.ref q2, .int 0, .int 0])), (q2, .inl (y 0, 1024, .inl (fun _ => 0)))] := hD
  have hP9 := hP.sub (ws' := [(h0, .inr (13, [.ref q1, .ref q1, .int 0, .int 0, .int 0, .int 0, .int 0])), (q1, .inr (4, [.ref q2, .int 0, .int 0])), (q2, .inl (y 0, 1024, .inl (fun _ => 0)))]) [0, 1, 2] rfl
  have hD9 := hD.sub (ws' := [(h0, .inr (13, [.ref q1, .ref q1, .int 0, .int 0, .int 0, .int 0, .int 0])), (q1, .inr (4, [.ref q2, .int 0, .int 0])), (q2, .inl (y 0, 1024, .inl (fun _ => 0)))]) [0, 1, 2] (by decide) rfl
  refine W.widen (k := 2) (n := 1027) (Nat.le_of_ble_eq_true rfl) (Nat.le_of_ble_eq_true rfl) ?_
  exact W.vret hx hb hr (fun t ht hW => ⟨⟨(), rfl, trivial, q1, q2, by rw [ht]; exact hP9, hD9⟩, hS.F ht⟩) hS.2.2 dX9_init_26
def wz_c_X6_init : List Cond := .code yX6_init cX6_init 1 none :: ([.methodLink RX6 3 objectInit, .instanceMethod objectInit, .code objectInit ⟨#[0xb1]⟩ 1 none, .arrayClass .long, .fieldLink RX6 9 "SignetRing$Power" "modulus" "[J", .fieldLink RX6 13 "SignetRing$Power" "quotient" "[J", .fieldLink RX6 16 "SignetRing$Power" "one" "[J", .fieldLink RX6 19 "SignetRing$Power" "unit" "[J", .fieldLink RX6 22 "SignetRing$Power" "square" "[J", .fieldLink RX6 25 "SignetRing$Power" "base" "[J", .fieldLink RX6 28 "SignetRing$Power" "power" "[J", .fieldLink RX6 31 "SignetRing$Power" "limbs" "I"] ++ (wsX60 ++ ([])))
set_option maxHeartbeats 4000000 in
set_option maxRecDepth 100000 in
theorem c_X6_init (l : Launch) (D : va_G) (y : Nat → ClassId) (sz : Nat) (h0 : Nat) : Met l yX6_init wz_c_X6_init ({ frames := 1, cells := 7, slots := 266, locals := 12 }) (va_Pc [.ref h0] (zB D y [(h0, .inr (10, [.null, .null, .null, .null, .null, .null, .null, .null, .int 0, .int 0, .long 0]))] sz [] [])) (va_Qv (fun _ : Unit => True) (fun _ t => ∃ q1 q2 q3 q4 q5 q6 q7 : Nat, va_P D vwCl [(h0, .inr (10, [.ref q1, .ref q2, .ref q3, .ref q4, .ref q5, .ref q6, .ref q7, .null, .int 1, .int 0, .long 0])), (q1, .inl (y 2, 38, .inr (.inl (fun _ => 0)))), (q2, .inl (y 2, 38, .inr (.inl (fun _ => 0)))), (q3, .inl (y 2, 38, .inr (.inl (vp_updL (fun _ => 0) (0 : Int32).toNatClampNeg 1)))), (q4, .inl (y 2, 38, .inr (.inl (fun _ => 0)))), (q5, .inl (y 2, 38, .inr (.inl (fun _ => 0)))), (q6, .inl (y 2, 38, .inr (.inl (fun _ => 0)))), (q7, .inl (y 2, 38, .inr (.inl (fun _ => 0))))] t.heap ∧ va_D (va_A [(h0, .inr (10, [.null, .null, .null, .null, .null, .null, .null, .null, .int 0, .int 0, .long 0]))] sz) [(h0, .inr (10, [.ref q1, .ref q2, .ref q3, .ref q4, .ref q5, .ref q6, .ref q7, .null, .int 1, .int 0, .long 0])), (q1, .inl (y 2, 38, .inr (.inl (fun _ => 0)))), (q2, .inl (y 2, 38, .inr (.inl (fun _ => 0)))), (q3, .inl (y 2, 38, .inr (.inl (vp_updL (fun _ => 0) (0 : Int32).toNatClampNeg 1)))), (q4, .inl (y 2, 38, .inr (.inl (fun _ => 0)))), (q5, .inl (y 2, 38, .inr (.inl (fun _ => 0)))), (q6, .inl (y 2, 38, .inr (.inl (fun _ => 0)))), (q7, .inl (y 2, 38, .inr (.inl (fun _ => 0))))]) (va_A [(h0, .inr (10, [.null, .null, .null, .null, .null, .null, .null, .null, .int 0, .int 0, .long 0]))] sz)) 7 266 (va_A [(h0, .inr (10, [.null, .null, .null, .null, .null, .null, .null, .null, .int 0, .int 0, .long 0]))] sz) := by
  refine Met.ofW (cc := cX6_init) (maxL := 1) (ret := none) (by decide) rfl ?_
  intro p e s m args below meth c s₁ B hml hv
  obtain ⟨rfl, hsz, hP, hK, hD0, hN, hE, hO⟩ := hv
  have hx := B.exec
  have hb := B.bytes
  have hr := B.returns
  have hts := atoms_spec (ws := wz_c_X6_init) B.pre
  have hown : s.vm.findClass RX6 = some m.cls := findClass_of_methodNamed B.named
  have hlocks := B.notSynchronized
  have hin : meth.name = "<init>" := (name_of_methodNamed B.named B.method).1
  subst hsz
  have hD := hD0.self (sz := s.heap.size)
  generalize hAe : va_A [(h0, .inr (10, [.null, .null, .null, .null, .null, .null, .null, .null, .int 0, .int 0, .long 0]))] s.heap.size = A at hD hE ⊢
  have hA : ∀ q : Nat, s.heap.size ≤ q → A q := fun q h => by rw [← hAe]; exact Or.inr h
  have hS : va_S A s.heap s.heap [] := va_S.rf
  have hl := lv_entry ([.ref h0]) (n := 1) (Nat.le_of_ble_eq_true rfl)
  rw [lg_entry_eq]
  generalize (lg_sl ([.ref h0]) ++ List.replicate (1 - (lg_sl ([.ref h0])).length) Slot.unset).toArray = ls at hl ⊢
  have hl : lv_has ls 1 [(0, .ref h0)] := hl
  refine lv_aload_n hx hb dX6_init_0 rfl (lv_at hl 0 rfl) ?_
  refine W.objInit hx hb hown (hts (.methodLink RX6 3 objectInit) (by decide +kernel)) (hts (.instanceMethod objectInit) (by decide +kernel)) (hts (.code objectInit ⟨#[0xb1]⟩ 1 none) (by decide +kernel)) rfl (by rw [hml]; exact hl.1) rfl dX6_init_1 (Nat.le_of_ble_eq_true rfl) (Nat.le_of_ble_eq_true rfl) ?_
  refine W.eq (g2 := F0 m 4 ls []) rfl ?_
  refine lv_aload_n hx hb dX6_init_4 rfl (lv_at hl 0 rfl) ?_
  refine lv_bipush (v := 38) hx hb dX6_init_5 (by decide) ?_
  refine zz_newa (atype := .long) (n := 38) (N' := 38) (a0 := (38, .inr (.inl (fun _ => 0)))) (ty := .long) hx hb (hts (.arrayClass .long) (by decide +kernel)) rfl hK 2 rfl hP hD hS hA (zz_aJ 38) (by decide +kernel) (by decide +kernel) (by decide +kernel) (Nat.le_of_ble_eq_true rfl) (Nat.le_of_ble_eq_true rfl) dX6_init_7 (fun q1 H hP hD hS => ?_)
  have hP : va_P D vwCl [(h0, .inr (10, [.null, .null, .null, .null, .null, .null, .null, .null, .int 0, .int 0, .long 0])), (q1, .inl (y 2, 38, .inr (.inl (fun _ => 0))))] H := hP
  have hD : va_D A [(h0, .inr (10, [.null, .null, .null, .null, .null, .null, .null, .null, .int 0, .int 0, .long 0])), (q1, .inl (y 2, 38, .inr (.inl (fun _ => 0))))] := hD
  refine va_putF (D := D) (ci := 10) (v := .ref q1) (ty := (.array .long)) (C := RX6) (T := TX6) (N := 11) hx hb hts (by decide +kernel) tyX6 tyX6_ok nmX6 hown hK hP hD hS 0 rfl rfl 0 (by decide) (hts (.fieldLink RX6 9 "SignetRing$Power" "modulus" "[J") (by decide +kernel)) (fun _ h9 => h9) rfl hin rfl (by decide +kernel) rfl rfl (Nat.le_of_ble_eq_true rfl) dX6_init_9 (fun H locs hP hD hS => ?_)
  have hP : va_P D vwCl [(h0, .inr (10, [.ref q1, .null, .null, .null, .null, .null, .null, .null, .int 0, .int 0, .long 0])), (q1, .inl (y 2, 38, .inr (.inl (fun _ => 0))))] H := hP
  have hD : va_D A [(h0, .inr (10, [.ref q1, .null, .null, .null, .null, .null, .null, .null, .int 0, .int 0, .long 0])), (q1, .inl (y 2, 38, .inr (.inl (fun _ => 0))))] := hD
  refine lv_aload_n hx hb dX6_init_12 rfl (lv_at hl 0 rfl) ?_
  refine lv_bipush (v := 38) hx hb dX6_init_13 (by decide) ?_
  refine zz_newa (atype := .long) (n := 38) (N' := 38) (a0 := (38, .inr (.inl (fun _ => 0)))) (ty := .long) hx hb (hts (.arrayClass .long) (by decide +kernel)) rfl hK 2 rfl hP hD hS hA (zz_aJ 38) (by decide +kernel) (by decide +kernel) (by decide +kernel) (Nat.le_of_ble_eq_true rfl) (Nat.le_of_ble_eq_true rfl) dX6_init_15 (fun q2 H hP hD hS => ?_)
  have hP : va_P D vwCl [(h0, .inr (10, [.ref q1, .null, .null, .null, .null, .null, .null, .null, .int 0, .int 0, .long 0])), (q1, .inl (y 2, 38, .inr (.inl (fun _ => 0)))), (q2, .inl (y 2, 38, .inr (.inl (fun _ => 0))))] H := hP
  have hD : va_D A [(h0, .inr (10, [.ref q1, .null, .null, .null, .null, .null, .null, .null, .int 0, .int 0, .long 0])), (q1, .inl (y 2, 38, .inr (.inl (fun _ => 0)))), (q2, .inl (y 2, 38, .inr (.inl (fun _ => 0))))] := hD
  refine va_putF (D := D) (ci := 10) (v := .ref q2) (ty := (.array .long)) (C := RX6) (T := TX6) (N := 11) hx hb hts (by decide +kernel) tyX6 tyX6_ok nmX6 hown hK hP hD hS 0 rfl rfl 1 (by decide) (hts (.fieldLink RX6 13 "SignetRing$Power" "quotient" "[J") (by decide +kernel)) (fun _ h9 => h9) rfl hin rfl (by decide +kernel) rfl rfl (Nat.le_of_ble_eq_true rfl) dX6_init_17 (fun H locs hP hD hS => ?_)
  have hP : va_P D vwCl [(h0, .inr (10, [.ref q1, .ref q2, .null, .null, .null, .null, .null, .null, .int 0, .int 0, .long 0])), (q1, .inl (y 2, 38, .inr (.inl (fun _ => 0)))), (q2, .inl (y 2, 38, .inr (.inl (fun _ => 0))))] H := hP
  have hD : va_D A [(h0, .inr (10, [.ref q1, .ref q2, .null, .null, .null, .null, .null, .null, .int 0, .int 0, .long 0])), (q1, .inl (y 2, 38, .inr (.inl (fun _ => 0)))), (q2, .inl (y 2, 38, .inr (.inl (fun _ => 0))))] := hD
  refine lv_aload_n hx hb dX6_init_20 rfl (lv_at hl 0 rfl) ?_
  refine lv_bipush (v := 38) hx hb dX6_init_21 (by decide) ?_
  refine zz_newa (atype := .long) (n := 38) (N' := 38) (a0 := (38, .inr (.inl (fun _ => 0)))) (ty := .long) hx hb (hts (.arrayClass .long) (by decide +kernel)) rfl hK 2 rfl hP hD hS hA (zz_aJ 38) (by decide +kernel) (by decide +kernel) (by decide +kernel) (Nat.le_of_ble_eq_true rfl) (Nat.le_of_ble_eq_true rfl) dX6_init_23 (fun q3 H hP hD hS => ?_)
  have hP : va_P D vwCl [(h0, .inr (10, [.ref q1, .ref q2, .null, .null, .null, .null, .null, .null, .int 0, .int 0, .long 0])), (q1, .inl (y 2, 38, .inr (.inl (fun _ => 0)))), (q2, .inl (y 2, 38, .inr (.inl (fun _ => 0)))), (q3, .inl (y 2, 38, .inr (.inl (fun _ => 0))))] H := hP
  have hD : va_D A [(h0, .inr (10, [.ref q1, .ref q2, .null, .null, .null, .null, .null, .null, .int 0, .int 0, .long 0])), (q1, .inl (y 2, 38, .inr (.inl (fun _ => 0)))), (q2, .inl (y 2, 38, .inr (.inl (fun _ => 0)))), (q3, .inl (y 2, 38, .inr (.inl (fun _ => 0))))] := hD
  refine va_putF (D := D) (ci := 10) (v := .ref q3) (ty := (.array .long)) (C := RX6) (T := TX6) (N := 11) hx hb hts (by decide +kernel) tyX6 tyX6_ok nmX6 hown hK hP hD hS 0 rfl rfl 2 (by decide) (hts (.fieldLink RX6 16 "SignetRing$Power" "one" "[J") (by decide +kernel)) (fun _ h9 => h9) rfl hin rfl (by decide +kernel) rfl rfl (Nat.le_of_ble_eq_true rfl) dX6_init_25 (fun H locs hP hD hS => ?_)
  have hP : va_P D vwCl [(h0, .inr (10, [.ref q1, .ref q2, .ref q3, .null, .null, .null, .null, .null, .int 0, .int 0, .long 0])), (q1, .inl (y 2, 38, .inr (.inl (fun _ => 0)))), (q2, .inl (y 2, 38, .inr (.inl (fun _ => 0)))), (q3, .inl (y 2, 38, .inr (.inl (fun _ => 0))))] H := hP
  have hD : va_D A [(h0, .inr (10, [.ref q1, .ref q2, .ref q3, .null, .null, .null, .null, .null, .int 0, .int 0, .long 0])), (q1, .inl (y 2, 38, .inr (.inl (fun _ => 0)))), (q2, .inl (y 2, 38, .inr (.inl (fun _ => 0)))), (q3, .inl (y 2, 38, .inr (.inl (fun _ => 0))))] := hD
  refine lv_aload_n hx hb dX6_init_28 rfl (lv_at hl 0 rfl) ?_
  refine lv_bipush (v := 38) hx hb dX6_init_29 (by decide) ?_
  refine zz_newa (atype := .long) (n := 38) (N' := 38) (a0 := (38, .inr (.inl (fun _ => 0)))) (ty := .long) hx hb (hts (.arrayClass .long) (by decide +kernel)) rfl hK 2 rfl hP hD hS hA (zz_aJ 38) (by decide +kernel) (by decide +kernel) (by decide +kernel) (Nat.le_of_ble_eq_true rfl) (Nat.le_of_ble_eq_true rfl) dX6_init_31 (fun q4 H hP hD hS => ?_)
  have hP : va_P D vwCl [(h0, .inr (10, [.ref q1, .ref q2, .ref q3, .null, .null, .null, .null, .null, .int 0, .int 0, .long 0])), (q1, .inl (y 2, 38, .inr (.inl (fun _ => 0)))), (q2, .inl (y 2, 38, .inr (.inl (fun _ => 0)))), (q3, .inl (y 2, 38, .inr (.inl (fun _ => 0)))), (q4, .inl (y 2, 38, .inr (.inl (fun _ => 0))))] H := hP
  have hD : va_D A [(h0, .inr (10, [.ref q1, .ref q2, .ref q3, .null, .null, .null, .null, .null, .int 0, .int 0, .long 0])), (q1, .inl (y 2, 38, .inr (.inl (fun _ => 0)))), (q2, .inl (y 2, 38, .inr (.inl (fun _ => 0)))), (q3, .inl (y 2, 38, .inr (.inl (fun _ => 0)))), (q4, .inl (y 2, 38, .inr (.inl (fun _ => 0))))] := hD
  refine va_putF (D := D) (ci := 10) (v := .ref q4) (ty := (.array .long)) (C := RX6) (T := TX6) (N := 11) hx hb hts (by decide +kernel) tyX6 tyX6_ok nmX6 hown hK hP hD hS 0 rfl rfl 3 (by decide) (hts (.fieldLink RX6 19 "SignetRing$Power" "unit" "[J") (by decide +kernel)) (fun _ h9 => h9) rfl hin rfl (by decide +kernel) rfl rfl (Nat.le_of_ble_eq_true rfl) dX6_init_33 (fun H locs hP hD hS => ?_)
  have hP : va_P D vwCl [(h0, .inr (10, [.ref q1, .ref q2, .ref q3, .ref q4, .null, .null, .null, .null, .int 0, .int 0, .long 0])), (q1, .inl (y 2, 38, .inr (.inl (fun _ => 0)))), (q2, .inl (y 2, 38, .inr (.inl (fun _ => 0)))), (q3, .inl (y 2, 38, .inr (.inl (fun _ => 0)))), (q4, .inl (y 2, 38, .inr (.inl (fun _ => 0))))] H := hP
  have hD : va_D A [(h0, .inr (10, [.ref q1, .ref q2, .ref q3, .ref q4, .null, .null, .null, .null, .int 0, .int 0, .long 0])), (q1, .inl (y 2, 38, .inr (.inl (fun _ => 0)))), (q2, .inl (y 2, 38, .inr (.inl (fun _ => 0)))), (q3, .inl (y 2, 38, .inr (.inl (fun _ => 0)))), (q4, .inl (y 2, 38, .inr (.inl (fun _ => 0))))] := hD
  refine lv_aload_n hx hb dX6_init_36 rfl (lv_at hl 0 rfl) ?_
  refine lv_bipush (v := 38) hx hb dX6_init_37 (by decide) ?_
  refine zz_newa (atype := .long) (n := 38) (N' := 38) (a0 := (38, .inr (.inl (fun _ => 0)))) (ty := .long) hx hb (hts (.arrayClass .long) (by decide +kernel)) rfl hK 2 rfl hP hD hS hA (zz_aJ 38) (by decide +kernel) (by decide +kernel) (by decide +kernel) (Nat.le_of_ble_eq_true rfl) (Nat.le_of_ble_eq_true rfl) dX6_init_39 (fun q5 H hP hD hS => ?_)
  have hP : va_P D vwCl [(h0, .inr (10, [.ref q1, .ref q2, .ref q3, .ref q4, .null, .null, .null, .null, .int 0, .int 0, .long 0])), (q1, .inl (y 2, 38, .inr (.inl (fun _ => 0)))), (q2, .inl (y 2, 38, .inr (.inl (fun _ => 0)))), (q3, .inl (y 2, 38, .inr (.inl (fun _ => 0)))), (q4, .inl (y 2, 38, .inr (.inl (fun _ => 0)))), (q5, .inl (y 2, 38, .inr (.inl (fun _ => 0))))] H := hP
  have hD : va_D A [(h0, .inr (10, [.ref q1, .ref q2, .ref q3, .ref q4, .null, .null, .null, .null, .int 0, .int 0, .long 0])), (q1, .inl (y 2, 38, .inr (.inl (fun _ => 0)))), (q2, .inl (y 2, 38, .inr (.inl (fun _ => 0)))), (q3, .inl (y 2, 38, .inr (.inl (fun _ => 0)))), (q4, .inl (y 2, 38, .inr (.inl (fun _ => 0)))), (q5, .inl (y 2, 38, .inr (.inl (fun _ => 0))))] := hD
  refine va_putF (D := D) (ci := 10) (v := .ref q5) (ty := (.array .long)) (C := RX6) (T := TX6) (N := 11) hx hb hts (by decide +kernel) tyX6 tyX6_ok nmX6 hown hK hP hD hS 0 rfl rfl 4 (by decide) (hts (.fieldLink RX6 22 "SignetRing$Power" "square" "[J") (by decide +kernel)) (fun _ h9 => h9) rfl hin rfl (by decide +kernel) rfl rfl (Nat.le_of_ble_eq_true rfl) dX6_init_41 (fun H locs hP hD hS => ?_)
  have hP : va_P D vwCl [(h0, .inr (10, [.ref q1, .ref q2, .ref q3, .ref q4, .ref q5, .null, .null, .null, .int 0, .int 0, .long 0])), (q1, .inl (y 2, 38, .inr (.inl (fun _ => 0)))), (q2, .inl (y 2, 38, .inr (.inl (fun _ => 0)))), (q3, .inl (y 2, 38, .inr (.inl (fun _ => 0)))), (q4, .inl (y 2, 38, .inr (.inl (fun _ => 0)))), (q5, .inl (y 2, 38, .inr (.inl (fun _ => 0))))] H := hP
  have hD : va_D A [(h0, .inr (10, [.ref q1, .ref q2, .ref q3, .ref q4, .ref q5, .null, .null, .null, .int 0, .int 0, .long 0])), (q1, .inl (y 2, 38, .inr (.inl (fun _ => 0)))), (q2, .inl (y 2, 38, .inr (.inl (fun _ => 0)))), (q3, .inl (y 2, 38, .inr (.inl (fun _ => 0)))), (q4, .inl (y 2, 38, .inr (.inl (fun _ => 0)))), (q5, .inl (y 2, 38, .inr (.inl (fun _ => 0))))] := hD
  refine lv_aload_n hx hb dX6_init_44 rfl (lv_at hl 0 rfl) ?_
  refine lv_bipush (v := 38) hx hb dX6_init_45 (by decide) ?_
  refine zz_newa (atype := .long) (n := 38) (N' := 38) (a0 := (38, .inr (.inl (fun _ => 0)))) (ty := .long) hx hb (hts (.arrayClass .long) (by decide +kernel)) rfl hK 2 rfl hP hD hS hA (zz_aJ 38) (by decide +kernel) (by decide +kernel) (by decide +kernel) (Nat.le_of_ble_eq_true rfl) (Nat.le_of_ble_eq_true rfl) dX6_init_47 (fun q6 H hP hD hS => ?_)
  have hP : va_P D vwCl [(h0, .inr (10, [.ref q1, .ref q2, .ref q3, .ref q4, .ref q5, .null, .null, .null, .int 0, .int 0, .long 0])), (q1, .inl (y 2, 38, .inr (.inl (fun _ => 0)))), (q2, .inl (y 2, 38, .inr (.inl (fun _ => 0)))), (q3, .inl (y 2, 38, .inr (.inl (fun _ => 0)))), (q4, .inl (y 2, 38, .inr (.inl (fun _ => 0)))), (q5, .inl (y 2, 38, .inr (.inl (fun _ => 0)))), (q6, .inl (y 2, 38, .inr (.inl (fun _ => 0))))] H := hP
  have hD : va_D A [(h0, .inr (10, [.ref q1, .ref q2, .ref q3, .ref q4, .ref q5, .null, .null, .null, .int 0, .int 0, .long 0])), (q1, .inl (y 2, 38, .inr (.inl (fun _ => 0)))), (q2, .inl (y 2, 38, .inr (.inl (fun _ => 0)))), (q3, .inl (y 2, 38, .inr (.inl (fun _ => 0)))), (q4, .inl (y 2, 38, .inr (.inl (fun _ => 0)))), (q5, .inl (y 2, 38, .inr (.inl (fun _ => 0)))), (q6, .inl (y 2, 38, .inr (.inl (fun _ => 0))))] := hD
  refine va_putF (D := D) (ci := 10) (v := .ref q6) (ty := (.array .long)) (C := RX6) (T := TX6) (N := 11) hx hb hts (by decide +kernel) tyX6 tyX6_ok nmX6 hown hK hP hD hS 0 rfl rfl 5 (by decide) (hts (.fieldLink RX6 25 "SignetRing$Power" "base" "[J") (by decide +kernel)) (fun _ h9 => h9) rfl hin rfl (by decide +kernel) rfl rfl (Nat.le_of_ble_eq_true rfl) dX6_init_49 (fun H locs hP hD hS => ?_)
  have hP : va_P D vwCl [(h0, .inr (10, [.ref q1, .ref q2, .ref q3, .ref q4, .ref q5, .ref q6, .null, .null, .int 0, .int 0, .long 0])), (q1, .inl (y 2, 38, .inr (.inl (fun _ => 0)))), (q2, .inl (y 2, 38, .inr (.inl (fun _ => 0)))), (q3, .inl (y 2, 38, .inr (.inl (fun _ => 0)))), (q4, .inl (y 2, 38, .inr (.inl (fun _ => 0)))), (q5, .inl (y 2, 38, .inr (.inl (fun _ => 0)))), (q6, .inl (y 2, 38, .inr (.inl (fun _ => 0))))] H := hP
  have hD : va_D A [(h0, .inr (10, [.ref q1, .ref q2, .ref q3, .ref q4, .ref q5, .ref q6, .null, .null, .int 0, .int 0, .long 0])), (q1, .inl (y 2, 38, .inr (.inl (fun _ => 0)))), (q2, .inl (y 2, 38, .inr (.inl (fun _ => 0)))), (q3, .inl (y 2, 38, .inr (.inl (fun _ => 0)))), (q4, .inl (y 2, 38, .inr (.inl (fun _ => 0)))), (q5, .inl (y 2, 38, .inr (.inl (fun _ => 0)))), (q6, .inl (y 2, 38, .inr (.inl (fun _ => 0))))] := hD
  refine lv_aload_n hx hb dX6_init_52 rfl (lv_at hl 0 rfl) ?_
  refine lv_bipush (v := 38) hx hb dX6_init_53 (by decide) ?_
  refine zz_newa (atype := .long) (n := 38) (N' := 38) (a0 := (38, .inr (.inl (fun _ => 0)))) (ty := .long) hx hb (hts (.arrayClass .long) (by decide +kernel)) rfl hK 2 rfl hP hD hS hA (zz_aJ 38) (by decide +kernel) (by decide +kernel) (by decide +kernel) (Nat.le_of_ble_eq_true rfl) (Nat.le_of_ble_eq_true rfl) dX6_init_55 (fun q7 H hP hD hS => ?_)
  have hP : va_P D vwCl [(h0, .inr (10, [.ref q1, .ref q2, .ref q3, .ref q4, .ref q5, .ref q6, .null, .null, .int 0, .int 0, .long 0])), (q1, .inl (y 2, 38, .inr (.inl (fun _ => 0)))), (q2, .inl (y 2, 38, .inr (.inl (fun _ => 0)))), (q3, .inl (y 2, 38, .inr (.inl (fun _ => 0)))), (q4, .inl (y 2, 38, .inr (.inl (fun _ => 0)))), (q5, .inl (y 2, 38, .inr (.inl (fun _ => 0)))), (q6, .inl (y 2, 38, .inr (.inl (fun _ => 0)))), (q7, .inl (y 2, 38, .inr (.inl (fun _ => 0))))] H := hP
  have hD : va_D A [(h0, .inr (10, [.ref q1, .ref q2, .ref q3, .ref q4, .ref q5, .ref q6, .null, .null, .int 0, .int 0, .long 0])), (q1, .inl (y 2, 38, .inr (.inl (fun _ => 0)))), (q2, .inl (y 2, 38, .inr (.inl (fun _ => 0)))), (q3, .inl (y 2, 38, .inr (.inl (fun _ => 0)))), (q4, .inl (y 2, 38, .inr (.inl (fun _ => 0)))), (q5, .inl (y 2, 38, .inr (.inl (fun _ => 0)))), (q6, .inl (y 2, 38, .inr (.inl (fun _ => 0)))), (q7, .inl (y 2, 38, .inr (.inl (fun _ => 0))))] := hD
  refine va_putF (D := D) (ci := 10) (v := .ref q7) (ty := (.array .long)) (C := RX6) (T := TX6) (N := 11) hx hb hts (by decide +kernel) tyX6 tyX6_ok nmX6 hown hK hP hD hS 0 rfl rfl 6 (by decide) (hts (.fieldLink RX6 28 "SignetRing$Power" "power" "[J") (by decide +kernel)) (fun _ h9 => h9) rfl hin rfl (by decide +kernel) rfl rfl (Nat.le_of_ble_eq_true rfl) dX6_init_57 (fun H locs hP hD hS => ?_)
  have hP : va_P D vwCl [(h0, .inr (10, [.ref q1, .ref q2, .ref q3, .ref q4, .ref q5, .ref q6, .ref q7, .null, .int 0, .int 0, .long 0])), (q1, .inl (y 2, 38, .inr (.inl (fun _ => 0)))), (q2, .inl (y 2, 38, .inr (.inl (fun _ => 0)))), (q3, .inl (y 2, 38, .inr (.inl (fun _ => 0)))), (q4, .inl (y 2, 38, .inr (.inl (fun _ => 0)))), (q5, .inl (y 2, 38, .inr (.inl (fun _ => 0)))), (q6, .inl (y 2, 38, .inr (.inl (fun _ => 0)))), (q7, .inl (y 2, 38, .inr (.inl (fun _ => 0))))] H := hP
  have hD : va_D A [(h0, .inr (10, [.ref q1, .ref q2, .ref q3, .ref q4, .ref q5, .ref q6, .ref q7, .null, .int 0, .int 0, .long 0])), (q1, .inl (y 2, 38, .inr (.inl (fun _ => 0)))), (q2, .inl (y 2, 38, .inr (.inl (fun _ => 0)))), (q3, .inl (y 2, 38, .inr (.inl (fun _ => 0)))), (q4, .inl (y 2, 38, .inr (.inl (fun _ => 0)))), (q5, .inl (y 2, 38, .inr (.inl (fun _ => 0)))), (q6, .inl (y 2, 38, .inr (.inl (fun _ => 0)))), (q7, .inl (y 2, 38, .inr (.inl (fun _ => 0))))] := hD
  refine lv_aload_n hx hb dX6_init_60 rfl (lv_at hl 0 rfl) ?_
  refine lv_iconst (v := 1) hx hb dX6_init_61 (by decide) ?_
  refine va_put (D := D) (ci := 10) (v := .int 1) (ty := .int) (C := RX6) (T := TX6) (N := 11) hx hb hts (by decide +kernel) tyX6 tyX6_ok nmX6 hown hK hP hD hS 0 rfl rfl 8 (by decide) (hts (.fieldLink RX6 31 "SignetRing$Power" "limbs" "I") (by decide +kernel)) (fun _ h9 => h9) rfl (by decide +kernel) rfl rfl (Nat.le_of_ble_eq_true rfl) dX6_init_62 (fun H locs hP hD hS => ?_)
  have hP : va_P D vwCl [(h0, .inr (10, [.ref q1, .ref q2, .ref q3, .ref q4, .ref q5, .ref q6, .ref q7, .null, .int 1, .int 0, .long 0])), (q1, .inl (y 2, 38, .inr (.inl (fun _ => 0)))), (q2, .inl (y 2, 38, .inr (.inl (fun _ => 0)))), (q3, .inl (y 2, 38, .inr (.inl (fun _ => 0)))), (q4, .inl (y 2, 38, .inr (.inl (fun _ => 0)))), (q5, .inl (y 2, 38, .inr (.inl (fun _ => 0)))), (q6, .inl (y 2, 38, .inr (.inl (fun _ => 0)))), (q7, .inl (y 2, 38, .inr (.inl (fun _ => 0))))] H := hP
  have hD : va_D A [(h0, .inr (10, [.ref q1, .ref q2, .ref q3, .ref q4, .ref q5, .ref q6, .ref q7, .null, .int 1, .int 0, .long 0])), (q1, .inl (y 2, 38, .inr (.inl (fun _ => 0)))), (q2, .inl (y 2, 38, .inr (.inl (fun _ => 0)))), (q3, .inl (y 2, 38, .inr (.inl (fun _ => 0)))), (q4, .inl (y 2, 38, .inr (.inl (fun _ => 0)))), (q5, .inl (y 2, 38, .inr (.inl (fun _ => 0)))), (q6, .inl (y 2, 38, .inr (.inl (fun _ => 0)))), (q7, .inl (y 2, 38, .inr (.inl (fun _ => 0))))] := hD
  refine lv_aload_n hx hb dX6_init_65 rfl (lv_at hl 0 rfl) ?_
  refine va_get (D := D) (ci := 10) (v := .ref q3) (C := RX6) (T := TX6) (N := 11) hx hb hts (by decide +kernel) hown hK hP 0 rfl rfl 2 (by decide) (hts (.fieldLink RX6 16 "SignetRing$Power" "one" "[J") (by decide +kernel)) (fun _ h9 => h9) rfl dX6_init_66 ?_
  refine lv_iconst (v := 0) hx hb dX6_init_69 (by decide) ?_
  refine lv_lconst (v := 1) hx hb dX6_init_70 (by decide) ?_
  refine va_last hx hb hK hP hD hS 3 2 rfl rfl (by unfold vp_in; decide) dX6_init_71 (fun H locs hP hD hS => ?_)
  have hP : va_P D vwCl [(h0, .inr (10, [.ref q1, .ref q2, .ref q3, .ref q4, .ref q5, .ref q6, .ref q7, .null, .int 1, .int 0, .long 0])), (q1, .inl (y 2, 38, .inr (.inl (fun _ => 0)))), (q2, .inl (y 2, 38, .inr (.inl (fun _ => 0)))), (q3, .inl (y 2, 38, .inr (.inl (vp_updL (fun _ => 0) (0 : Int32).toNatClampNeg 1)))), (q4, .inl (y 2, 38, .inr (.inl (fun _ => 0)))), (q5, .inl (y 2, 38, .inr (.inl (fun _ => 0)))), (q6, .inl (y 2, 38, .inr (.inl (fun _ => 0)))), (q7, .inl (y 2, 38, .inr (.inl (fun _ => 0))))] H := hP
  have hD : va_D A [(h0, .inr (10, [.ref q1, .ref q2, .ref q3, .ref q4, .ref q5, .ref q6, .ref q7, .null, .int 1, .int 0, .long 0])), (q1, .inl (y 2, 38, .inr (.inl (fun _ => 0)))), (q2, .inl (y 2, 38, .inr (.inl (fun _ => 0)))), (q3, .inl (y 2, 38, .inr (.inl (vp_updL (fun _ => 0) (0 : Int32).toNatClampNeg 1)))), (q4, .inl (y 2, 38, .inr (.inl (fun _ => 0)))), (q5, .inl (y 2, 38, .inr (.inl (fun _ => 0)))), (q6, .inl (y 2, 38, .inr (.inl (fun _ => 0)))), (q7, .inl (y 2, 38, .inr (.inl (fun _ => 0))))] := hD
  have hP9 := hP.sub (ws' := [(h0, .inr (10, [.ref q1, .ref q2, .ref q3, .ref q4, .ref q5, .ref q6, .ref q7, .null, .int 1, .int 0, .long 0])), (q1, .inl (y 2, 38, .inr (.inl (fun _ => 0)))), (q2, .inl (y 2, 38, .inr (.inl (fun _ => 0)))), (q3, .inl (y 2, 38, .inr (.inl (vp_updL (fun _ => 0) (0 : Int32).toNatClampNeg 1)))), (q4, .inl (y 2, 38, .inr (.inl (fun _ => 0)))), (q5, .inl (y 2, 38, .inr (.inl (fun _ => 0)))), (q6, .inl (y 2, 38, .inr (.inl (fun _ => 0)))), (q7, .inl (y 2, 38, .inr (.inl (fun _ => 0))))]) [0, 1, 2, 3, 4, 5, 6, 7] rfl
  have hD9 := hD.sub (ws' := [(h0, .inr (10, [.ref q1, .ref q2, .ref q3, .ref q4, .ref q5, .ref q6, .ref q7, .null, .int 1, .int 0, .long 0])), (q1, .inl (y 2, 38, .inr (.inl (fun _ => 0)))), (q2, .inl (y 2, 38, .inr (.inl (fun _ => 0)))), (q3, .inl (y 2, 38, .inr (.inl (vp_updL (fun _ => 0) (0 : Int32).toNatClampNeg 1)))), (q4, .inl (y 2, 38, .inr (.inl (fun _ => 0)))), (q5, .inl (y 2, 38, .inr (.inl (fun _ => 0)))), (q6, .inl (y 2, 38, .inr (.inl (fun _ => 0)))), (q7, .inl (y 2, 38, .inr (.inl (fun _ => 0))))]) [0, 1, 2, 3, 4, 5, 6, 7] (by decide) rfl
  refine W.widen (k := 7) (n := 266) (Nat.le_of_ble_eq_true rfl) (Nat.le_of_ble_eq_true rfl) ?_
  exact W.vret hx hb hr (fun t ht hW => ⟨⟨(), rfl, trivial, q1, q2, q3, q4, q5, q6, q7, by rw [ht]; exact hP9, hD9⟩, hS.F ht⟩) hS.2.2 dX6_init_72
end
section
def wz_c_X8_init : List Cond := .code yX8_init cX8_init 2 none :: ([.initialized RX10, .methodLink RX8 3 yX10_init, .instanceMethod yX10_init] ++ (wz_c_X10_init_X8 ++ ([])))
set_option maxRecDepth 100000 in
theorem gz_c_X8_init_c_X10_init_X8 : GoodIn wz_c_X8_init wz_c_X10_init_X8 := goodIn_sub (fun w h => List.mem_cons_of_mem _ (List.mem_append_right _ (List.mem_append_left _ h))) (by decide +kernel)
set_option maxHeartbeats 4000000 in
set_option maxRecDepth 100000 in
theorem c_X8_init (l : Launch) (D : va_G) (y : Nat → ClassId) (sz : Nat) (h0 : Nat) (b : Nat) : Met l yX8_init wz_c_X8_init ({ frames := 2, cells := 0, slots := 0, locals := 35 }) (va_Pc [.ref h0, .ref b] (zB D y [(h0, .inr (12, [.null, .int 0, .int 0, .int 0, .int 0, .int 0, .int 0, .int 0, .long 0, .long 0, .long 0, .int 0, .int 0, .int 0, .int 0, .int 0, .int 0, .int 0])), (b, .inl (y 0, 0, .inl (fun _ => 0)))] sz [] [])) (va_Qv (fun _ : Unit => True) (fun _ t => va_P D vwCl [(h0, .inr (12, [.ref b, .int 0, .int 0, .int 0, .int 0, .int 0, .int 0, .int 0, .long 0, .long 0, .long 0, .int 0, .int 0, .int 0, .int 0, .int 0, .int 0, .int 0])), (b, .inl (y 0, 0, .inl (fun _ => 0)))] t.heap ∧ va_D (va_A [(h0, .inr (12, [.null, .int 0, .int 0, .int 0, .int 0, .int 0, .int 0, .int 0, .long 0, .long 0, .long 0, .int 0, .int 0, .int 0, .int 0, .int 0, .int 0, .int 0])), (b, .inl (y 0, 0, .inl (fun _ => 0)))] sz) [(h0, .inr (12, [.ref b, .int 0, .int 0, .int 0, .int 0, .int 0, .int 0, .int 0, .long 0, .long 0, .long 0, .int 0, .int 0, .int 0, .int 0, .int 0, .int 0, .int 0])), (b, .inl (y 0, 0, .inl (fun _ => 0)))]) (va_A [(h0, .inr (12, [.null, .int 0, .int 0, .int 0, .int 0, .int 0, .int 0, .int 0, .long 0, .long 0, .long 0, .int 0, .int 0, .int 0, .int 0, .int 0, .int 0, .int 0])), (b, .inl (y 0, 0, .inl (fun _ => 0)))] sz)) 0 0 (va_A [(h0, .inr (12, [.null, .int 0, .int 0, .int 0, .int 0, .int 0, .int 0, .int 0, .long 0, .long 0, .long 0, .int 0, .int 0, .int 0, .int 0, .int 0, .int 0, .int 0])), (b, .inl (y 0, 0, .inl (fun _ => 0)))] sz) := by
  refine Met.ofW (cc := cX8_init) (maxL := 2) (ret := none) (by decide) rfl ?_
  intro p e s m args below meth c s₁ B hml hv
  obtain ⟨rfl, hsz, hP, hK, hD0, hN, hE, hO⟩ := hv
  have hx := B.exec
  have hb := B.bytes
  have hr := B.returns
  have hts := atoms_spec (ws := wz_c_X8_init) B.pre
  have hown : s.vm.findClass RX8 = some m.cls := findClass_of_methodNamed B.named
  have hlocks := B.notSynchronized
  have hin : meth.name = "<init>" := (name_of_methodNamed B.named B.method).1
  subst hsz
  have hD := hD0.self (sz := s.heap.size)
  generalize hAe : va_A [(h0, .inr (12, [.null, .int 0, .int 0, .int 0, .int 0, .int 0, .int 0, .int 0, .long 0, .long 0, .long 0, .int 0, .int 0, .int 0, .int 0, .int 0, .int 0, .int 0])), (b, .inl (y 0, 0, .inl (fun _ => 0)))] s.heap.size = A at hD hE ⊢
  have hA : ∀ q : Nat, s.heap.size ≤ q → A q := fun q h => by rw [← hAe]; exact Or.inr h
  have hS : va_S A s.heap s.heap [] := va_S.rf
  have hl := lv_entry ([.ref h0, .ref b]) (n := 2) (Nat.le_of_ble_eq_true rfl)
  rw [lg_entry_eq]
  generalize (lg_sl ([.ref h0, .ref b]) ++ List.replicate (2 - (lg_sl ([.ref h0, .ref b])).length) Slot.unset).toArray = ls at hl ⊢
  have hl : lv_has ls 2 [(0, .ref h0), (1, .ref b)] := hl
  refine lv_aload_n hx hb dX8_init_0 rfl (lv_at hl 0 rfl) ?_
  refine lv_aload_n hx hb dX8_init_1 rfl (lv_at hl 1 rfl) ?_
  refine lv_iconst (v := 0) hx hb dX8_init_2 (by decide) ?_
  refine lv_aload_n hx hb dX8_init_3 rfl (lv_at hl 1 rfl) ?_
  refine va_alen (v := 0) hx hb hK hP 1 0 rfl rfl (by decide) dX8_init_4 ?_
  have hPc := hP.sub (ws' := [(h0, .inr (12, [.null, .int 0, .int 0, .int 0, .int 0, .int 0, .int 0, .int 0, .long 0, .long 0, .long 0, .int 0, .int 0, .int 0, .int 0, .int 0, .int 0, .int 0]))]) [0] rfl
  have hDc := hD.sub (ws' := [(h0, .inr (12, [.null, .int 0, .int 0, .int 0, .int 0, .int 0, .int 0, .int 0, .long 0, .long 0, .long 0, .int 0, .int 0, .int 0, .int 0, .int 0, .int 0, .int 0]))]) [0] (by decide) rfl
  have hFc := va_free (wc := [(h0, .inr (12, [.null, .int 0, .int 0, .int 0, .int 0, .int 0, .int 0, .int 0, .long 0, .long 0, .long 0, .int 0, .int 0, .int 0, .int 0, .int 0, .int 0, .int 0]))]) hD hS hA [0] rfl
  refine va_callv (va_runI (As := [.ref b, .int 0, .int 0]) (rest := []) ⟨hx, hb, hml, hown, hts⟩ (c_X10_init_X8 l D y s.heap.size h0 b 0 0) (cwI 3 hts gz_c_X8_init_c_X10_init_X8 rfl rfl rfl (hts (.initialized RX10) (by decide +kernel)) (hts (.methodLink RX8 3 yX10_init) (by decide +kernel)) (hts (.instanceMethod yX10_init) (by decide +kernel)) rfl (by decide +kernel) ⟨(Nat.le_of_ble_eq_true rfl), (Nat.le_of_ble_eq_true rfl)⟩) (zB.preS hPc hDc hK hN hE hO hS hFc (fun _ h => nomatch h) (fun _ h => nomatch h)) rfl rfl hl.1 rfl (lv_room (Nat.le_of_ble_eq_true rfl)) dX8_init_5 ⟨(Nat.le_of_ble_eq_true rfl), (Nat.le_of_ble_eq_true rfl)⟩) hS (fun q _ h => hFc q h) hFc (fun u t H1 locs ht hvm hw hB hz1 hk1 hS => ?_)
  obtain ⟨hP1, hD1⟩ := hB
  rw [ht] at hP1
  obtain ⟨hP, hD⟩ := va_join (wr := [(b, .inl (y 0, 0, .inl (fun _ => 0)))]) (w1 := [(h0, .inr (12, [.ref b, .int 0, .int 0, .int 0, .int 0, .int 0, .int 0, .int 0, .long 0, .long 0, .long 0, .int 0, .int 0, .int 0, .int 0, .int 0, .int 0, .int 0]))]) hP hD [0] [1] rfl rfl (by decide) (by decide) hk1 hFc hP1 hD1
  generalize H1 = H at hP hS ⊢
  have hP : va_P D vwCl [(b, .inl (y 0, 0, .inl (fun _ => 0))), (h0, .inr (12, [.ref b, .int 0, .int 0, .int 0, .int 0, .int 0, .int 0, .int 0, .long 0, .long 0, .long 0, .int 0, .int 0, .int 0, .int 0, .int 0, .int 0, .int 0]))] H := hP
  have hD : va_D A [(b, .inl (y 0, 0, .inl (fun _ => 0))), (h0, .inr (12, [.ref b, .int 0, .int 0, .int 0, .int 0, .int 0, .int 0, .int 0, .long 0, .long 0, .long 0, .int 0, .int 0, .int 0, .int 0, .int 0, .int 0, .int 0]))] := hD
  have hP9 := hP.sub (ws' := [(h0, .inr (12, [.ref b, .int 0, .int 0, .int 0, .int 0, .int 0, .int 0, .int 0, .long 0, .long 0, .long 0, .int 0, .int 0, .int 0, .int 0, .int 0, .int 0, .int 0])), (b, .inl (y 0, 0, .inl (fun _ => 0)))]) [1, 0] rfl
  have hD9 := hD.sub (ws' := [(h0, .inr (12, [.ref b, .int 0, .int 0, .int 0, .int 0, .int 0, .int 0, .int 0, .long 0, .long 0, .long 0, .int 0, .int 0, .int 0, .int 0, .int 0, .int 0, .int 0])), (b, .inl (y 0, 0, .inl (fun _ => 0)))]) [1, 0] (by decide) rfl
  refine W.widen (k := 0) (n := 0) (Nat.le_of_ble_eq_true rfl) (Nat.le_of_ble_eq_true rfl) ?_
  exact W.vret hx hb hr (fun t ht hW => ⟨⟨(), rfl, trivial, by rw [ht]; exact hP9, hD9⟩, hS.F ht⟩) hS.2.2 dX8_init_8
def wz_c_AbsColl_init : List Cond := .code yJxa1e45_init_da8c8 cJxa1e45_init_da8c8 1 none :: ([.methodLink RJxa1e45 1 objectInit, .instanceMethod objectInit, .code objectInit ⟨#[0xb1]⟩ 1 none] ++ ([]))
set_option maxHeartbeats 4000000 in
set_option maxRecDepth 100000 in
theorem c_AbsColl_init (l : Launch) (D : va_G) (y : Nat → ClassId) (sz : Nat) (h0 : Nat) : Met l yJxa1e45_init_da8c8 wz_c_AbsColl_init ({ frames := 1, cells := 0, slots := 0, locals := 12 }) (va_Pc [.ref h0] (zB D y [(h0, .inr (3, [.int 0, .null, .int 0]))] sz [] [])) (va_Qv (fun _ : Unit => True) (fun _ t => va_P D vwCl [(h0, .inr (3, [.int 0, .null, .int 0]))] t.heap ∧ va_D (va_A [(h0, .inr (3, [.int 0, .null, .int 0]))] sz) [(h0, .inr (3, [.int 0, .null, .int 0]))]) (va_A [(h0, .inr (3, [.int 0, .null, .int 0]))] sz)) 0 0 (va_A [(h0, .inr (3, [.int 0, .null, .int 0]))] sz) := by
  refine Met.ofW (cc := cJxa1e45_init_da8c8) (maxL := 1) (ret := none) (by decide) rfl ?_
  intro p e s m args below meth c s₁ B hml hv
  obtain ⟨rfl, hsz, hP, hK, hD0, hN, hE, hO⟩ := hv
  have hx := B.exec
  have hb := B.bytes
  have hr := B.returns
  have hts := atoms_spec (ws := wz_c_AbsColl_init) B.pre
  have hown : s.vm.findClass RJxa1e45 = some m.cls := findClass_of_methodNamed B.named
  have hlocks := B.notSynchronized
  have hin : meth.name = "<init>" := (name_of_methodNamed B.named B.method).1
  subst hsz
  have hD := hD0.self (sz := s.heap.size)
  generalize hAe : va_A [(h0, .inr (3, [.int 0, .null, .int 0]))] s.heap.size = A at hD hE ⊢
  have hA : ∀ q : Nat, s.heap.size ≤ q → A q := fun q h => by rw [← hAe]; exact Or.inr h
  have hS : va_S A s.heap s.heap [] := va_S.rf
  have hl := lv_entry ([.ref h0]) (n := 1) (Nat.le_of_ble_eq_true rfl)
  rw [lg_entry_eq]
  generalize (lg_sl ([.ref h0]) ++ List.replicate (1 - (lg_sl ([.ref h0])).length) Slot.unset).toArray = ls at hl ⊢
  have hl : lv_has ls 1 [(0, .ref h0)] := hl
  refine lv_aload_n hx hb dJxa1e45_init_da8c8_0 rfl (lv_at hl 0 rfl) ?_
  refine W.objInit hx hb hown (hts (.methodLink RJxa1e45 1 objectInit) (by decide +kernel)) (hts (.instanceMethod objectInit) (by decide +kernel)) (hts (.code objectInit ⟨#[0xb1]⟩ 1 none) (by decide +kernel)) rfl (by rw [hml]; exact hl.1) rfl dJxa1e45_init_da8c8_1 (Nat.le_of_ble_eq_true rfl) (Nat.le_of_ble_eq_true rfl) ?_
  refine W.eq (g2 := F0 m 4 ls []) rfl ?_
  have hP9 := hP.sub (ws' := [(h0, .inr (3, [.int 0, .null, .int 0]))]) [0] rfl
  have hD9 := hD.sub (ws' := [(h0, .inr (3, [.int 0, .null, .int 0]))]) [0] (by decide) rfl
  refine W.widen (k := 0) (n := 0) (Nat.le_of_ble_eq_true rfl) (Nat.le_of_ble_eq_true rfl) ?_
  exact W.vret hx hb hr (fun t ht hW => ⟨⟨(), rfl, trivial, by rw [ht]; exact hP9, hD9⟩, hS.F ht⟩) hS.2.2 dJxa1e45_init_da8c8_4
def wz_c_AbsList_init : List Cond := .code yJxc12de_init_da8c8 cJxc12de_init_da8c8 1 none :: ([.initialized RJxa1e45, .methodLink RJxc12de 1 yJxa1e45_init_da8c8, .instanceMethod yJxa1e45_init_da8c8, .fieldLink RJxc12de 7 "java/util/AbstractList" "modCount" "I"] ++ (wsJx4a65c0 ++ (wz_c_AbsColl_init ++ ([]))))
set_option maxRecDepth 100000 in
theorem gz_c_AbsList_init_c_AbsColl_init : GoodIn wz_c_AbsList_init wz_c_AbsColl_init := goodIn_sub (fun w h => List.mem_cons_of_mem _ (List.mem_append_right _ (List.mem_append_right _ (List.mem_append_left _ h)))) (by decide +kernel)
set_option maxHeartbeats 4000000 in
set_option maxRecDepth 100000 in
theorem c_AbsList_init (l : Launch) (D : va_G) (y : Nat → ClassId) (sz : Nat) (h0 : Nat) : Met l yJxc12de_init_da8c8 wz_c_AbsList_init ({ frames := 2, cells := 0, slots := 0, locals := 32 }) (va_Pc [.ref h0] (zB D y [(h0, .inr (3, [.int 0, .null, .int 0]))] sz [] [])) (va_Qv (fun _ : Unit => True) (fun _ t => va_P D vwCl [(h0, .inr (3, [.int 0, .null, .int 0]))] t.heap ∧ va_D (va_A [(h0, .inr (3, [.int 0, .null, .int 0]))] sz) [(h0, .inr (3, [.int 0, .null, .int 0]))]) (va_A [(h0, .inr (3, [.int 0, .null, .int 0]))] sz)) 0 0 (va_A [(h0, .inr (3, [.int 0, .null, .int 0]))] sz) := by
  refine Met.ofW (cc := cJxc12de_init_da8c8) (maxL := 1) (ret := none) (by decide) rfl ?_
  intro p e s m args below meth c s₁ B hml hv
  obtain ⟨rfl, hsz, hP, hK, hD0, hN, hE, hO⟩ := hv
  have hx := B.exec
  have hb := B.bytes
  have hr := B.returns
  have hts := atoms_spec (ws := wz_c_AbsList_init) B.pre
  have hown : s.vm.findClass RJxc12de = some m.cls := findClass_of_methodNamed B.named
  have hlocks := B.notSynchronized
  have hin : meth.name = "<init>" := (name_of_methodNamed B.named B.method).1
  subst hsz
  have hD := hD0.self (sz := s.heap.size)
  generalize hAe : va_A [(h0, .inr (3, [.int 0, .null, .int 0]))] s.heap.size = A at hD hE ⊢
  have hA : ∀ q : Nat, s.heap.size ≤ q → A q := fun q h => by rw [← hAe]; exact Or.inr h
  have hS : va_S A s.heap s.heap [] := va_S.rf
  have hl := lv_entry ([.ref h0]) (n := 1) (Nat.le_of_ble_eq_true rfl)
  rw [lg_entry_eq]
  generalize (lg_sl ([.ref h0]) ++ List.replicate (1 - (lg_sl ([.ref h0])).length) Slot.unset).toArray = ls at hl ⊢
  have hl : lv_has ls 1 [(0, .ref h0)] := hl
  refine lv_aload_n hx hb dJxc12de_init_da8c8_0 rfl (lv_at hl 0 rfl) ?_
  have hPc := hP.sub (ws' := [(h0, .inr (3, [.int 0, .null, .int 0]))]) [0] rfl
  have hDc := hD.sub (ws' := [(h0, .inr (3, [.int 0, .null, .int 0]))]) [0] (by decide) rfl
  have hFc := va_free (wc := [(h0, .inr (3, [.int 0, .null, .int 0]))]) hD hS hA [0] rfl
  refine va_callv (va_runI (As := []) (rest := []) ⟨hx, hb, hml, hown, hts⟩ (c_AbsColl_init l D y s.heap.size h0) (cwI 0 hts gz_c_AbsList_init_c_AbsColl_init rfl rfl rfl (hts (.initialized RJxa1e45) (by decide +kernel)) (hts (.methodLink RJxc12de 1 yJxa1e45_init_da8c8) (by decide +kernel)) (hts (.instanceMethod yJxa1e45_init_da8c8) (by decide +kernel)) rfl (by decide +kernel) ⟨(Nat.le_of_ble_eq_true rfl), (Nat.le_of_ble_eq_true rfl)⟩) (zB.preS hPc hDc hK hN hE hO hS hFc (fun _ h => nomatch h) (fun _ h => nomatch h)) rfl rfl hl.1 rfl (lv_room (Nat.le_of_ble_eq_true rfl)) dJxc12de_init_da8c8_1 ⟨(Nat.le_of_ble_eq_true rfl), (Nat.le_of_ble_eq_true rfl)⟩) hS (fun q _ h => hFc q h) hFc (fun u t H1 locs ht hvm hw hB hz1 hk1 hS => ?_)
  obtain ⟨hP1, hD1⟩ := hB
  rw [ht] at hP1
  obtain ⟨hP, hD⟩ := va_join (wr := []) (w1 := [(h0, .inr (3, [.int 0, .null, .int 0]))]) hP hD [0] [] rfl rfl (by decide) (by decide) hk1 hFc hP1 hD1
  generalize H1 = H at hP hS ⊢
  have hP : va_P D vwCl [(h0, .inr (3, [.int 0, .null, .int 0]))] H := hP
  have hD : va_D A [(h0, .inr (3, [.int 0, .null, .int 0]))] := hD
  refine lv_aload_n hx hb dJxc12de_init_da8c8_4 rfl (lv_at hl 0 rfl) ?_
  refine lv_iconst (v := 0) hx hb dJxc12de_init_da8c8_5 (by decide) ?_
  refine va_put (D := D) (ci := 3) (v := .int 0) (ty := .int) (C := RJx4a65c) (T := TJx4a65c) (N := 3) hx hb hts (by decide +kernel) tyJx4a65c tyJx4a65c_ok nmJx4a65c hown hK hP hD hS 0 rfl rfl 0 (by decide) (hts (.fieldLink RJxc12de 7 "java/util/AbstractList" "modCount" "I") (by decide +kernel)) (fun _ h9 => h9) rfl (by decide +kernel) rfl rfl (Nat.le_of_ble_eq_true rfl) dJxc12de_init_da8c8_6 (fun H locs hP hD hS => ?_)
  have hP : va_P D vwCl [(h0, .inr (3, [.int 0, .null, .int 0]))] H := hP
  have hD : va_D A [(h0, .inr (3, [.int 0, .null, .int 0]))] := hD
  have hP9 := hP.sub (ws' := [(h0, .inr (3, [.int 0, .null, .int 0]))]) [0] rfl
  have hD9 := hD.sub (ws' := [(h0, .inr (3, [.int 0, .null, .int 0]))]) [0] (by decide) rfl
  refine W.widen (k := 0) (n := 0) (Nat.le_of_ble_eq_true rfl) (Nat.le_of_ble_eq_true rfl) ?_
  exact W.vret hx hb hr (fun t ht hW => ⟨⟨(), rfl, trivial, by rw [ht]; exact hP9, hD9⟩, hS.F ht⟩) hS.2.2 dJxc12de_init_da8c8_9
def wz_c_ArrayList_init : List Cond := .code yJx4a65c_init_da8c8 cJx4a65c_init_da8c8 1 none :: ([.initialized RJxc12de, .methodLink RJx4a65c 1 yJxc12de_init_da8c8, .instanceMethod yJxc12de_init_da8c8, .fieldLink RJx4a65c 39 "java/util/ArrayList" "DEFAULTCAPACITY_EMPTY_ELEMENTDATA" "[Ljava/lang/Object;", .fieldLink RJx4a65c 9 "java/util/ArrayList" "elementData" "[Ljava/lang/Object;"] ++ (wsJx4a65c0 ++ (wz_c_AbsList_init ++ ([]))))
set_option maxRecDepth 100000 in
theorem gz_c_ArrayList_init_c_AbsList_init : GoodIn wz_c_ArrayList_init wz_c_AbsList_init := goodIn_sub (fun w h => List.mem_cons_of_mem _ (List.mem_append_right _ (List.mem_append_right _ (List.mem_append_left _ h)))) (by decide +kernel)
set_option maxHeartbeats 4000000 in
set_option maxRecDepth 100000 in
theorem c_ArrayList_init (l : Launch) (D : va_G) (y : Nat → ClassId) (sz : Nat) (h0 : Nat) (e0 : Nat) : Met l yJx4a65c_init_da8c8 wz_c_ArrayList_init ({ frames := 3, cells := 0, slots := 0, locals := 52 }) (va_Pc [.ref h0] (zB D y [(h0, .inr (3, [.int 0, .null, .int 0]))] sz [] [("java/util/ArrayList", "DEFAULTCAPACITY_EMPTY_ELEMENTDATA", "[Ljava/lang/Object;", .ref e0)])) (va_Qv (fun _ : Unit => True) (fun _ t => va_P D vwCl [(h0, .inr (3, [.int 0, .ref e0, .int 0]))] t.heap ∧ va_D (va_A [(h0, .inr (3, [.int 0, .null, .int 0]))] sz) [(h0, .inr (3, [.int 0, .ref e0, .int 0]))]) (va_A [(h0, .inr (3, [.int 0, .null, .int 0]))] sz)) 0 0 (va_A [(h0, .inr (3, [.int 0, .null, .int 0]))] sz) := by
  refine Met.ofW (cc := cJx4a65c_init_da8c8) (maxL := 1) (ret := none) (by decide) rfl ?_
  intro p e s m args below meth c s₁ B hml hv
  obtain ⟨rfl, hsz, hP, hK, hD0, hN, hE, hO⟩ := hv
  have hx := B.exec
  have hb := B.bytes
  have hr := B.returns
  have hts := atoms_spec (ws := wz_c_ArrayList_init) B.pre
  have hown : s.vm.findClass RJx4a65c = some m.cls := findClass_of_methodNamed B.named
  have hlocks := B.notSynchronized
  have hin : meth.name = "<init>" := (name_of_methodNamed B.named B.method).1
  subst hsz
  have hD := hD0.self (sz := s.heap.size)
  generalize hAe : va_A [(h0, .inr (3, [.int 0, .null, .int 0]))] s.heap.size = A at hD hE ⊢
  have hA : ∀ q : Nat, s.heap.size ≤ q → A q := fun q h => by rw [← hAe]; exact Or.inr h
  have hS : va_S A s.heap s.heap [] := va_S.rf
  have hl := lv_entry ([.ref h0]) (n := 1) (Nat.le_of_ble_eq_true rfl)
  rw [lg_entry_eq]
  generalize (lg_sl ([.ref h0]) ++ List.replicate (1 - (lg_sl ([.ref h0])).length) Slot.unset).toArray = ls at hl ⊢
  have hl : lv_has ls 1 [(0, .ref h0)] := hl
  refine lv_aload_n hx hb dJx4a65c_init_da8c8_0 rfl (lv_at hl 0 rfl) ?_
  have hPc := hP.sub (ws' := [(h0, .inr (3, [.int 0, .null, .int 0]))]) [0] rfl
  have hDc := hD.sub (ws' := [(h0, .inr (3, [.int 0, .null, .int 0]))]) [0] (by decide) rfl
  have hFc := va_free (wc := [(h0, .inr (3, [.int 0, .null, .int 0]))]) hD hS hA [0] rfl
  refine va_callv (va_runI (As := []) (rest := []) ⟨hx, hb, hml, hown, hts⟩ (c_AbsList_init l D y s.heap.size h0) (cwI 0 hts gz_c_ArrayList_init_c_AbsList_init rfl rfl rfl (hts (.initialized RJxc12de) (by decide +kernel)) (hts (.methodLink RJx4a65c 1 yJxc12de_init_da8c8) (by decide +kernel)) (hts (.instanceMethod yJxc12de_init_da8c8) (by decide +kernel)) rfl (by decide +kernel) ⟨(Nat.le_of_ble_eq_true rfl), (Nat.le_of_ble_eq_true rfl)⟩) (zB.preS hPc hDc hK hN hE hO hS hFc (fun _ h => nomatch h) (fun _ h => nomatch h)) rfl rfl hl.1 rfl (lv_room (Nat.le_of_ble_eq_true rfl)) dJx4a65c_init_da8c8_1 ⟨(Nat.le_of_ble_eq_true rfl), (Nat.le_of_ble_eq_true rfl)⟩) hS (fun q _ h => hFc q h) hFc (fun u t H1 locs ht hvm hw hB hz1 hk1 hS => ?_)
  obtain ⟨hP1, hD1⟩ := hB
  rw [ht] at hP1
  obtain ⟨hP, hD⟩ := va_join (wr := []) (w1 := [(h0, .inr (3, [.int 0, .null, .int 0]))]) hP hD [0] [] rfl rfl (by decide) (by decide) hk1 hFc hP1 hD1
  generalize H1 = H at hP hS ⊢
  have hP : va_P D vwCl [(h0, .inr (3, [.int 0, .null, .int 0]))] H := hP
  have hD : va_D A [(h0, .inr (3, [.int 0, .null, .int 0]))] := hD
  refine lv_aload_n hx hb dJx4a65c_init_da8c8_4 rfl (lv_at hl 0 rfl) ?_
  refine va_gets hx hb (hE ("java/util/ArrayList", "DEFAULTCAPACITY_EMPTY_ELEMENTDATA", "[Ljava/lang/Object;", .ref e0) (List.mem_of_getElem? (i := 0) rfl)) hS hown (hts (.fieldLink RJx4a65c 39 "java/util/ArrayList" "DEFAULTCAPACITY_EMPTY_ELEMENTDATA" "[Ljava/lang/Object;") (by decide +kernel)) (fun _ h9 => h9) dJx4a65c_init_da8c8_5 ?_
  refine va_put (D := D) (ci := 3) (v := .ref e0) (ty := (.array (.object "java/lang/Object"))) (C := RJx4a65c) (T := TJx4a65c) (N := 3) hx hb hts (by decide +kernel) tyJx4a65c tyJx4a65c_ok nmJx4a65c hown hK hP hD hS 0 rfl rfl 1 (by decide) (hts (.fieldLink RJx4a65c 9 "java/util/ArrayList" "elementData" "[Ljava/lang/Object;") (by decide +kernel)) (fun _ h9 => h9) rfl (by decide +kernel) rfl rfl (Nat.le_of_ble_eq_true rfl) dJx4a65c_init_da8c8_8 (fun H locs hP hD hS => ?_)
  have hP : va_P D vwCl [(h0, .inr (3, [.int 0, .ref e0, .int 0]))] H := hP
  have hD : va_D A [(h0, .inr (3, [.int 0, .ref e0, .int 0]))] := hD
  have hP9 := hP.sub (ws' := [(h0, .inr (3, [.int 0, .ref e0, .int 0]))]) [0] rfl
  have hD9 := hD.sub (ws' := [(h0, .inr (3, [.int 0, .ref e0, .int 0]))]) [0] (by decide) rfl
  refine W.widen (k := 0) (n := 0) (Nat.le_of_ble_eq_true rfl) (Nat.le_of_ble_eq_true rfl) ?_
  exact W.vret hx hb hr (fun t ht hW => ⟨⟨(), rfl, trivial, by rw [ht]; exact hP9, hD9⟩, hS.F ht⟩) hS.2.2 dJx4a65c_init_da8c8_11
def wz_c_X5_init : List Cond := .code yX5_init cX5_init 2 none :: ([.initialized RX10, .methodLink RX5 3 yX10_init, .instanceMethod yX10_init, .classLink RX5 9 RJx4a65c, .instantiable RJx4a65c 3, .initialized RJx4a65c, .methodLink RX5 11 yJx4a65c_init_da8c8, .instanceMethod yJx4a65c_init_da8c8, .fieldLink RX5 14 "SignetRing$Place" "seals" "Ljava/util/ArrayList;"] ++ (wsJx4a65c0 ++ (wsX30 ++ (wz_c_X10_init_X3 ++ (wz_c_ArrayList_init ++ ([]))))))
set_option maxRecDepth 100000 in
theorem gz_c_X5_init_c_X10_init_X3 : GoodIn wz_c_X5_init wz_c_X10_init_X3 := goodIn_sub (fun w h => List.mem_cons_of_mem _ (List.mem_append_right _ (List.mem_append_right _ (List.mem_append_right _ (List.mem_append_left _ h))))) (by decide +kernel)
set_option maxRecDepth 100000 in
theorem gz_c_X5_init_c_ArrayList_init : GoodIn wz_c_X5_init wz_c_ArrayList_init := goodIn_sub (fun w h => List.mem_cons_of_mem _ (List.mem_append_right _ (List.mem_append_right _ (List.mem_append_right _ (List.mem_append_right _ (List.mem_append_left _ h)))))) (by decide +kernel)
set_option maxHeartbeats 4000000 in
set_option maxRecDepth 100000 in
theorem c_X5_init (l : Launch) (D : va_G) (y : Nat → ClassId) (sz : Nat) (h0 : Nat) (b : Nat) (e0 : Nat) : Met l yX5_init wz_c_X5_init ({ frames := 4, cells := 1, slots := 3, locals := 72 }) (va_Pc [.ref h0, .ref b] (zB D y [(h0, .inr (7, [.null, .int 0, .null, .int 0, .int 0, .null, .null, .null, .null, .int 0, .int 0, .long 0, .int 0, .int 0, .int 0, .null, .int 0])), (b, .inl (y 0, 0, .inl (fun _ => 0)))] sz [] [("java/util/ArrayList", "DEFAULTCAPACITY_EMPTY_ELEMENTDATA", "[Ljava/lang/Object;", .ref e0)])) (va_Qv (fun _ : Unit => True) (fun _ t => ∃ q1 : Nat, va_P D vwCl [(h0, .inr (7, [.ref q1, .int 0, .ref b, .int 0, .int 0, .null, .null, .null, .null, .int 0, .int 0, .long 0, .int 0, .int 0, .int 0, .null, .int 0])), (b, .inl (y 0, 0, .inl (fun _ => 0))), (q1, .inr (3, [.int 0, .ref e0, .int 0]))] t.heap ∧ va_D (va_A [(h0, .inr (7, [.null, .int 0, .null, .int 0, .int 0, .null, .null, .null, .null, .int 0, .int 0, .long 0, .int 0, .int 0, .int 0, .null, .int 0])), (b, .inl (y 0, 0, .inl (fun _ => 0)))] sz) [(h0, .inr (7, [.ref q1, .int 0, .ref b, .int 0, .int 0, .null, .null, .null, .null, .int 0, .int 0, .long 0, .int 0, .int 0, .int 0, .null, .int 0])), (b, .inl (y 0, 0, .inl (fun _ => 0))), (q1, .inr (3, [.int 0, .ref e0, .int 0]))]) (va_A [(h0, .inr (7, [.null, .int 0, .null, .int 0, .int 0, .null, .null, .null, .null, .int 0, .int 0, .long 0, .int 0, .int 0, .int 0, .null, .int 0])), (b, .inl (y 0, 0, .inl (fun _ => 0)))] sz)) 1 3 (va_A [(h0, .inr (7, [.null, .int 0, .null, .int 0, .int 0, .null, .null, .null, .null, .int 0, .int 0, .long 0, .int 0, .int 0, .int 0, .null, .int 0])), (b, .inl (y 0, 0, .inl (fun _ => 0)))] sz) := by
  refine Met.ofW (cc := cX5_init) (maxL := 2) (ret := none) (by decide) rfl ?_
  intro p e s m args below meth c s₁ B hml hv
  obtain ⟨rfl, hsz, hP, hK, hD0, hN, hE, hO⟩ := hv
  have hx := B.exec
  have hb := B.bytes
  have hr := B.returns
  have hts := atoms_spec (ws := wz_c_X5_init) B.pre
  have hown : s.vm.findClass RX5 = some m.cls := findClass_of_methodNamed B.named
  have hlocks := B.notSynchronized
  have hin : meth.name = "<init>" := (name_of_methodNamed B.named B.method).1
  subst hsz
  have hD := hD0.self (sz := s.heap.size)
  generalize hAe : va_A [(h0, .inr (7, [.null, .int 0, .null, .int 0, .int 0, .null, .null, .null, .null, .int 0, .int 0, .long 0, .int 0, .int 0, .int 0, .null, .int 0])), (b, .inl (y 0, 0, .inl (fun _ => 0)))] s.heap.size = A at hD hE ⊢
  have hA : ∀ q : Nat, s.heap.size ≤ q → A q := fun q h => by rw [← hAe]; exact Or.inr h
  have hS : va_S A s.heap s.heap [] := va_S.rf
  have hl := lv_entry ([.ref h0, .ref b]) (n := 2) (Nat.le_of_ble_eq_true rfl)
  rw [lg_entry_eq]
  generalize (lg_sl ([.ref h0, .ref b]) ++ List.replicate (2 - (lg_sl ([.ref h0, .ref b])).length) Slot.unset).toArray = ls at hl ⊢
  have hl : lv_has ls 2 [(0, .ref h0), (1, .ref b)] := hl
  refine lv_aload_n hx hb dX5_init_0 rfl (lv_at hl 0 rfl) ?_
  refine lv_aload_n hx hb dX5_init_1 rfl (lv_at hl 1 rfl) ?_
  refine lv_iconst (v := 0) hx hb dX5_init_2 (by decide) ?_
  refine lv_aload_n hx hb dX5_init_3 rfl (lv_at hl 1 rfl) ?_
  refine va_alen (v := 0) hx hb hK hP 1 0 rfl rfl (by decide) dX5_init_4 ?_
  have hPc := hP.sub (ws' := [(h0, .inr (7, [.null, .int 0, .null, .int 0, .int 0, .null, .null, .null, .null, .int 0, .int 0, .long 0, .int 0, .int 0, .int 0, .null, .int 0]))]) [0] rfl
  have hDc := hD.sub (ws' := [(h0, .inr (7, [.null, .int 0, .null, .int 0, .int 0, .null, .null, .null, .null, .int 0, .int 0, .long 0, .int 0, .int 0, .int 0, .null, .int 0]))]) [0] (by decide) rfl
  have hFc := va_free (wc := [(h0, .inr (7, [.null, .int 0, .null, .int 0, .int 0, .null, .null, .null, .null, .int 0, .int 0, .long 0, .int 0, .int 0, .int 0, .null, .int 0]))]) hD hS hA [0] rfl
  refine va_callv (va_runI (As := [.ref b, .int 0, .int 0]) (rest := []) ⟨hx, hb, hml, hown, hts⟩ (c_X10_init_X3 l D y s.heap.size h0 b 0 0) (cwI 3 hts gz_c_X5_init_c_X10_init_X3 rfl rfl rfl (hts (.initialized RX10) (by decide +kernel)) (hts (.methodLink RX5 3 yX10_init) (by decide +kernel)) (hts (.instanceMethod yX10_init) (by decide +kernel)) rfl (by decide +kernel) ⟨(Nat.le_of_ble_eq_true rfl), (Nat.le_of_ble_eq_true rfl)⟩) (zB.preS hPc hDc hK hN hE hO hS hFc (fun _ h => nomatch h) (fun _ h => nomatch h)) rfl rfl hl.1 rfl (lv_room (Nat.le_of_ble_eq_true rfl)) dX5_init_5 ⟨(Nat.le_of_ble_eq_true rfl), (Nat.le_of_ble_eq_true rfl)⟩) hS (fun q _ h => hFc q h) hFc (fun u t H1 locs ht hvm hw hB hz1 hk1 hS => ?_)
  obtain ⟨hP1, hD1⟩ := hB
  rw [ht] at hP1
  obtain ⟨hP, hD⟩ := va_join (wr := [(b, .inl (y 0, 0, .inl (fun _ => 0)))]) (w1 := [(h0, .inr (7, [.null, .int 0, .ref b, .int 0, .int 0, .null, .null, .null, .null, .int 0, .int 0, .long 0, .int 0, .int 0, .int 0, .null, .int 0]))]) hP hD [0] [1] rfl rfl (by decide) (by decide) hk1 hFc hP1 hD1
  generalize H1 = H at hP hS ⊢
  have hP : va_P D vwCl [(b, .inl (y 0, 0, .inl (fun _ => 0))), (h0, .inr (7, [.null, .int 0, .ref b, .int 0, .int 0, .null, .null, .null, .null, .int 0, .int 0, .long 0, .int 0, .int 0, .int 0, .null, .int 0]))] H := hP
  have hD : va_D A [(b, .inl (y 0, 0, .inl (fun _ => 0))), (h0, .inr (7, [.null, .int 0, .ref b, .int 0, .int 0, .null, .null, .null, .null, .int 0, .int 0, .long 0, .int 0, .int 0, .int 0, .null, .int 0]))] := hD
  refine lv_aload_n hx hb dX5_init_8 rfl (lv_at hl 0 rfl) ?_
  refine va_new (ci := 3) (fs := [.int 0, .null, .int 0]) (C := RJx4a65c) (T := TJx4a65c) (N := 3) hx hb hts (by decide +kernel) tyJx4a65c tyJx4a65c_ok hown (hts (.classLink RX5 9 RJx4a65c) (by decide +kernel)) (hts (.instantiable RJx4a65c 3) (by decide +kernel)) (hts (.initialized RJx4a65c) (by decide +kernel)) hK hP hD hS hA rfl (by decide) (Nat.le_of_ble_eq_true rfl) (Nat.le_of_ble_eq_true rfl) dX5_init_9 (fun q1 H hP hD hS => ?_)
  have hP : va_P D vwCl [(b, .inl (y 0, 0, .inl (fun _ => 0))), (h0, .inr (7, [.null, .int 0, .ref b, .int 0, .int 0, .null, .null, .null, .null, .int 0, .int 0, .long 0, .int 0, .int 0, .int 0, .null, .int 0])), (q1, .inr (3, [.int 0, .null, .int 0]))] H := hP
  have hD : va_D A [(b, .inl (y 0, 0, .inl (fun _ => 0))), (h0, .inr (7, [.null, .int 0, .ref b, .int 0, .int 0, .null, .null, .null, .null, .int 0, .int 0, .long 0, .int 0, .int 0, .int 0, .null, .int 0])), (q1, .inr (3, [.int 0, .null, .int 0]))] := hD
  refine lv_dup hx hb dX5_init_12 rfl ?_
  have hPc := hP.sub (ws' := [(q1, .inr (3, [.int 0, .null, .int 0]))]) [2] rfl
  have hDc := hD.sub (ws' := [(q1, .inr (3, [.int 0, .null, .int 0]))]) [2] (by decide) rfl
  have hFc := va_free (wc := [(q1, .inr (3, [.int 0, .null, .int 0]))]) hD hS hA [2] rfl
  refine va_callv (va_runI (As := []) (rest := [.ref q1, .ref h0]) ⟨hx, hb, hml, hown, hts⟩ (c_ArrayList_init l D y H.size q1 e0) (cwI 0 hts gz_c_X5_init_c_ArrayList_init rfl rfl rfl (hts (.initialized RJx4a65c) (by decide +kernel)) (hts (.methodLink RX5 11 yJx4a65c_init_da8c8) (by decide +kernel)) (hts (.instanceMethod yJx4a65c_init_da8c8) (by decide +kernel)) rfl (by decide +kernel) ⟨(Nat.le_of_ble_eq_true rfl), (Nat.le_of_ble_eq_true rfl)⟩) (zB.preS hPc hDc hK hN hE hO hS hFc (fun _ h => nomatch h) (List.forall_mem_cons.mpr ⟨List.mem_of_getElem? (i := 0) rfl, (fun _ h => nomatch h)⟩)) rfl rfl hl.1 rfl (lv_room (Nat.le_of_ble_eq_true rfl)) dX5_init_13 ⟨(Nat.le_of_ble_eq_true rfl), (Nat.le_of_ble_eq_true rfl)⟩) hS (fun q _ h => hFc q h) hFc (fun u t H1 locs ht hvm hw hB hz1 hk1 hS => ?_)
  obtain ⟨hP1, hD1⟩ := hB
  rw [ht] at hP1
  obtain ⟨hP, hD⟩ := va_join (wr := [(b, .inl (y 0, 0, .inl (fun _ => 0))), (h0, .inr (7, [.null, .int 0, .ref b, .int 0, .int 0, .null, .null, .null, .null, .int 0, .int 0, .long 0, .int 0, .int 0, .int 0, .null, .int 0]))]) (w1 := [(q1, .inr (3, [.int 0, .ref e0, .int 0]))]) hP hD [2] [0, 1] rfl rfl (by decide) (by decide) hk1 hFc hP1 hD1
  generalize H1 = H at hP hS ⊢
  have hP : va_P D vwCl [(b, .inl (y 0, 0, .inl (fun _ => 0))), (h0, .inr (7, [.null, .int 0, .ref b, .int 0, .int 0, .null, .null, .null, .null, .int 0, .int 0, .long 0, .int 0, .int 0, .int 0, .null, .int 0])), (q1, .inr (3, [.int 0, .ref e0, .int 0]))] H := hP
  have hD : va_D A [(b, .inl (y 0, 0, .inl (fun _ => 0))), (h0, .inr (7, [.null, .int 0, .ref b, .int 0, .int 0, .null, .null, .null, .null, .int 0, .int 0, .long 0, .int 0, .int 0, .int 0, .null, .int 0])), (q1, .inr (3, [.int 0, .ref e0, .int 0]))] := hD
  refine va_putF (D := D) (ci := 7) (v := .ref q1) (ty := (.object "java/util/ArrayList")) (C := RX3) (T := TX3) (N := 17) hx hb hts (by decide +kernel) tyX3 tyX3_ok nmX3 hown hK hP hD hS 1 rfl rfl 0 (by decide) (hts (.fieldLink RX5 14 "SignetRing$Place" "seals" "Ljava/util/ArrayList;") (by decide +kernel)) (fun _ h9 => h9) rfl hin rfl (by decide +kernel) rfl rfl (Nat.le_of_ble_eq_true rfl) dX5_init_16 (fun H locs hP hD hS => ?_)
  have hP : va_P D vwCl [(b, .inl (y 0, 0, .inl (fun _ => 0))), (h0, .inr (7, [.ref q1, .int 0, .ref b, .int 0, .int 0, .null, .null, .null, .null, .int 0, .int 0, .long 0, .int 0, .int 0, .int 0, .null, .int 0])), (q1, .inr (3, [.int 0, .ref e0, .int 0]))] H := hP
  have hD : va_D A [(b, .inl (y 0, 0, .inl (fun _ => 0))), (h0, .inr (7, [.ref q1, .int 0, .ref b, .int 0, .int 0, .null, .null, .null, .null, .int 0, .int 0, .long 0, .int 0, .int 0, .int 0, .null, .int 0])), (q1, .inr (3, [.int 0, .ref e0, .int 0]))] := hD
  have hP9 := hP.sub (ws' := [(h0, .inr (7, [.ref q1, .int 0, .ref b, .int 0, .int 0, .null, .null, .null, .null, .int 0, .int 0, .long 0, .int 0, .int 0, .int 0, .null, .int 0])), (b, .inl (y 0, 0, .inl (fun _ => 0))), (q1, .inr (3, [.int 0, .ref e0, .int 0]))]) [1, 0, 2] rfl
  have hD9 := hD.sub (ws' := [(h0, .inr (7, [.ref q1, .int 0, .ref b, .int 0, .int 0, .null, .null, .null, .null, .int 0, .int 0, .long 0, .int 0, .int 0, .int 0, .null, .int 0])), (b, .inl (y 0, 0, .inl (fun _ => 0))), (q1, .inr (3, [.int 0, .ref e0, .int 0]))]) [1, 0, 2] (by decide) rfl
  refine W.widen (k := 1) (n := 3) (Nat.le_of_ble_eq_true rfl) (Nat.le_of_ble_eq_true rfl) ?_
  exact W.vret hx hb hr (fun t ht hW => ⟨⟨(), rfl, trivial, q1, by rw [ht]; exact hP9, hD9⟩, hS.F ht⟩) hS.2.2 dX5_init_19
def wz_c_X3_init : List Cond := .code yX3_init cX3_init 3 none :: ([.initialized RX5, .methodLink RX3 3 yX5_init, .instanceMethod yX5_init, .classLink RX3 9 RJx4a65c, .instantiable RJx4a65c 3, .initialized RJx4a65c, .methodLink RX3 11 yJx4a65c_init_da8c8, .instanceMethod yJx4a65c_init_da8c8, .fieldLink RX3 14 "SignetRing$Key" "users" "Ljava/util/ArrayList;", .fieldLink RX3 20 "SignetRing$Key" "parts" "Ljava/util/ArrayList;", .arrayClass .byte, .fieldLink RX3 23 "SignetRing$Key" "print" "[B", .fieldLink RX3 27 "SignetRing$Key" "owner" "LSignetRing$Key;"] ++ (wsJx4a65c0 ++ (wsX30 ++ (wz_c_X5_init ++ (wz_c_ArrayList_init ++ ([]))))))
set_option maxRecDepth 100000 in
theorem gz_c_X3_init_c_X5_init : GoodIn wz_c_X3_init wz_c_X5_init := goodIn_sub (fun w h => List.mem_cons_of_mem _ (List.mem_append_right _ (List.mem_append_right _ (List.mem_append_right _ (List.mem_append_left _ h))))) (by decide +kernel)
set_option maxRecDepth 100000 in
theorem gz_c_X3_init_c_ArrayList_init : GoodIn wz_c_X3_init wz_c_ArrayList_init := goodIn_sub (fun w h => List.mem_cons_of_mem _ (List.mem_append_right _ (List.mem_append_right _ (List.mem_append_right _ (List.mem_append_right _ (List.mem_append_left _ h)))))) (by decide +kernel)
set_option maxHeartbeats 4000000 in
set_option maxRecDepth 100000 in
theorem c_X3_init (l : Launch) (D : va_G) (y : Nat → ClassId) (sz : Nat) (h0 : Nat) (b : Nat) (e0 : Nat) : Met l yX3_init wz_c_X3_init ({ frames := 5, cells := 4, slots := 29, locals := 93 }) (va_Pc [.ref h0, .ref b, .null] (zB D y [(h0, .inr (7, [.null, .int 0, .null, .int 0, .int 0, .null, .null, .null, .null, .int 0, .int 0, .long 0, .int 0, .int 0, .int 0, .null, .int 0])), (b, .inl (y 0, 0, .inl (fun _ => 0)))] sz [] [("java/util/ArrayList", "DEFAULTCAPACITY_EMPTY_ELEMENTDATA", "[Ljava/lang/Object;", .ref e0)])) (va_Qv (fun _ : Unit => True) (fun _ t => ∃ q1 q2 q3 q4 : Nat, va_P D vwCl [(h0, .inr (7, [.ref q1, .int 0, .ref b, .int 0, .int 0, .ref h0, .ref q2, .ref q3, .ref q4, .int 0, .int 0, .long 0, .int 0, .int 0, .int 0, .null, .int 0])), (b, .inl (y 0, 0, .inl (fun _ => 0))), (q1, .inr (3, [.int 0, .ref e0, .int 0])), (q2, .inr (3, [.int 0, .ref e0, .int 0])), (q3, .inr (3, [.int 0, .ref e0, .int 0])), (q4, .inl (y 0, 20, .inl (fun _ => 0)))] t.heap ∧ va_D (va_A [(h0, .inr (7, [.null, .int 0, .null, .int 0, .int 0, .null, .null, .null, .null, .int 0, .int 0, .long 0, .int 0, .int 0, .int 0, .null, .int 0])), (b, .inl (y 0, 0, .inl (fun _ => 0)))] sz) [(h0, .inr (7, [.ref q1, .int 0, .ref b, .int 0, .int 0, .ref h0, .ref q2, .ref q3, .ref q4, .int 0, .int 0, .long 0, .int 0, .int 0, .int 0, .null, .int 0])), (b, .inl (y 0, 0, .inl (fun _ => 0))), (q1, .inr (3, [.int 0, .ref e0, .int 0])), (q2, .inr (3, [.int 0, .ref e0, .int 0])), (q3, .inr (3, [.int 0, .ref e0, .int 0])), (q4, .inl (y 0, 20, .inl (fun _ => 0)))]) (va_A [(h0, .inr (7, [.null, .int 0, .null, .int 0, .int 0, .null, .null, .null, .null, .int 0, .int 0, .long 0, .int 0, .int 0, .int 0, .null, .int 0])), (b, .inl (y 0, 0, .inl (fun _ => 0)))] sz)) 4 29 (va_A [(h0, .inr (7, [.null, .int 0, .null, .int 0, .int 0, .null, .null, .null, .null, .int 0, .int 0, .long 0, .int 0, .int 0, .int 0, .null, .int 0])), (b, .inl (y 0, 0, .inl (fun _ => 0)))] sz) := by
  refine Met.ofW (cc := cX3_init) (maxL := 3) (ret := none) (by decide) rfl ?_
  intro p e s m args below meth c s₁ B hml hv
  obtain ⟨rfl, hsz, hP, hK, hD0, hN, hE, hO⟩ := hv
  have hx := B.exec
  have hb := B.bytes
  have hr := B.returns
  have hts := atoms_spec (ws := wz_c_X3_init) B.pre
  have hown : s.vm.findClass RX3 = some m.cls := findClass_of_methodNamed B.named
  have hlocks := B.notSynchronized
  have hin : meth.name = "<init>" := (name_of_methodNamed B.named B.method).1
  subst hsz
  have hD := hD0.self (sz := s.heap.size)
  generalize hAe : va_A [(h0, .inr (7, [.null, .int 0, .null, .int 0, .int 0, .null, .null, .null, .null, .int 0, .int 0, .long 0, .int 0, .int 0, .int 0, .null, .int 0])), (b, .inl (y 0, 0, .inl (fun _ => 0)))] s.heap.size = A at hD hE ⊢
  have hA : ∀ q : Nat, s.heap.size ≤ q → A q := fun q h => by rw [← hAe]; exact Or.inr h
  have hS : va_S A s.heap s.heap [] := va_S.rf
  have hl := lv_entry ([.ref h0, .ref b, .null]) (n := 3) (Nat.le_of_ble_eq_true rfl)
  rw [lg_entry_eq]
  generalize (lg_sl ([.ref h0, .ref b, .null]) ++ List.replicate (3 - (lg_sl ([.ref h0, .ref b, .null])).length) Slot.unset).toArray = ls at hl ⊢
  have hl : lv_has ls 3 [(0, .ref h0), (1, .ref b), (2, .null)] := hl
  refine lv_aload_n hx hb dX3_init_0 rfl (lv_at hl 0 rfl) ?_
  refine lv_aload_n hx hb dX3_init_1 rfl (lv_at hl 1 rfl) ?_
  have hPc := hP.sub (ws' := [(h0, .inr (7, [.null, .int 0, .null, .int 0, .int 0, .null, .null, .null, .null, .int 0, .int 0, .long 0, .int 0, .int 0, .int 0, .null, .int 0])), (b, .inl (y 0, 0, .inl (fun _ => 0)))]) [0, 1] rfl
  have hDc := hD.sub (ws' := [(h0, .inr (7, [.null, .int 0, .null, .int 0, .int 0, .null, .null, .null, .null, .int 0, .int 0, .long 0, .int 0, .int 0, .int 0, .null, .int 0])), (b, .inl (y 0, 0, .inl (fun _ => 0)))]) [0, 1] (by decide) rfl
  have hFc := va_free (wc := [(h0, .inr (7, [.null, .int 0, .null, .int 0, .int 0, .null, .null, .null, .null, .int 0, .int 0, .long 0, .int 0, .int 0, .int 0, .null, .int 0])), (b, .inl (y 0, 0, .inl (fun _ => 0)))]) hD hS hA [0, 1] rfl
  refine va_callv (va_runI (As := [.ref b]) (rest := []) ⟨hx, hb, hml, hown, hts⟩ (c_X5_init l D y s.heap.size h0 b e0) (cwI 1 hts gz_c_X3_init_c_X5_init rfl rfl rfl (hts (.initialized RX5) (by decide +kernel)) (hts (.methodLink RX3 3 yX5_init) (by decide +kernel)) (hts (.instanceMethod yX5_init) (by decide +kernel)) rfl (by decide +kernel) ⟨(Nat.le_of_ble_eq_true rfl), (Nat.le_of_ble_eq_true rfl)⟩) (zB.preS hPc hDc hK hN hE hO hS hFc (fun _ h => nomatch h) (List.forall_mem_cons.mpr ⟨List.mem_of_getElem? (i := 0) rfl, (fun _ h => nomatch h)⟩)) rfl rfl hl.1 rfl (lv_room (Nat.le_of_ble_eq_true rfl)) dX3_init_2 ⟨(Nat.le_of_ble_eq_true rfl), (Nat.le_of_ble_eq_true rfl)⟩) hS (fun q _ h => hFc q h) hFc (fun u t H1 locs ht hvm hw hB hz1 hk1 hS => ?_)
  obtain ⟨q1, hP1, hD1⟩ := hB
  rw [ht] at hP1
  obtain ⟨hP, hD⟩ := va_join (wr := []) (w1 := [(h0, .inr (7, [.ref q1, .int 0, .ref b, .int 0, .int 0, .null, .null, .null, .null, .int 0, .int 0, .long 0, .int 0, .int 0, .int 0, .null, .int 0])), (b, .inl (y 0, 0, .inl (fun _ => 0))), (q1, .inr (3, [.int 0, .ref e0, .int 0]))]) hP hD [0, 1] [] rfl rfl (by decide) (by decide) hk1 hFc hP1 hD1
  generalize H1 = H at hP hS ⊢
  have hP : va_P D vwCl [(h0, .inr (7, [.ref q1, .int 0, .ref b, .int 0, .int 0, .null, .null, .null, .null, .int 0, .int 0, .long 0, .int 0, .int 0, .int 0, .null, .int 0])), (b, .inl (y 0, 0, .inl (fun _ => 0))), (q1, .inr (3, [.int 0, .ref e0, .int 0]))] H := hP
  have hD : va_D A [(h0, .inr (7, [.ref q1, .int 0, .ref b, .int 0, .int 0, .null, .null, .null, .null, .int 0, .int 0, .long 0, .int 0, .int 0, .int 0, .null, .int 0])), (b, .inl (y 0, 0, .inl (fun _ => 0))), (q1, .inr (3, [.int 0, .ref e0, .int 0]))] := hD
  refine lv_aload_n hx hb dX3_init_5 rfl (lv_at hl 0 rfl) ?_
  refine va_new (ci := 3) (fs := [.int 0, .null, .int 0]) (C := RJx4a65c) (T := TJx4a65c) (N := 3) hx hb hts (by decide +kernel) tyJx4a65c tyJx4a65c_ok hown (hts (.classLink RX3 9 RJx4a65c) (by decide +kernel)) (hts (.instantiable RJx4a65c 3) (by decide +kernel)) (hts (.initialized RJx4a65c) (by decide +kernel)) hK hP hD hS hA rfl (by decide) (Nat.le_of_ble_eq_true rfl) (Nat.le_of_ble_eq_true rfl) dX3_init_6 (fun q2 H hP hD hS => ?_)
  have hP : va_P D vwCl [(h0, .inr (7, [.ref q1, .int 0, .ref b, .int 0, .int 0, .null, .null, .null, .null, .int 0, .int 0, .long 0, .int 0, .int 0, .int 0, .null, .int 0])), (b, .inl (y 0, 0, .inl (fun _ => 0))), (q1, .inr (3, [.int 0, .ref e0, .int 0])), (q2, .inr (3, [.int 0, .null, .int 0]))] H := hP
  have hD : va_D A [(h0, .inr (7, [.ref q1, .int 0, .ref b, .int 0, .int 0, .null, .null, .null, .null, .int 0, .int 0, .long 0, .int 0, .int 0, .int 0, .null, .int 0])), (b, .inl (y 0, 0, .inl (fun _ => 0))), (q1, .inr (3, [.int 0, .ref e0, .int 0])), (q2, .inr (3, [.int 0, .null, .int 0]))] := hD
  refine lv_dup hx hb dX3_init_9 rfl ?_
  have hPc := hP.sub (ws' := [(q2, .inr (3, [.int 0, .null, .int 0]))]) [3] rfl
  have hDc := hD.sub (ws' := [(q2, .inr (3, [.int 0, .null, .int 0]))]) [3] (by decide) rfl
  have hFc := va_free (wc := [(q2, .inr (3, [.int 0, .null, .int 0]))]) hD hS hA [3] rfl
  refine va_callv (va_runI (As := []) (rest := [.ref q2, .ref h0]) ⟨hx, hb, hml, hown, hts⟩ (c_ArrayList_init l D y H.size q2 e0) (cwI 0 hts gz_c_X3_init_c_ArrayList_init rfl rfl rfl (hts (.initialized RJx4a65c) (by decide +kernel)) (hts (.methodLink RX3 11 yJx4a65c_init_da8c8) (by decide +kernel)) (hts (.instanceMethod yJx4a65c_init_da8c8) (by decide +kernel)) rfl (by decide +kernel) ⟨(Nat.le_of_ble_eq_true rfl), (Nat.le_of_ble_eq_true rfl)⟩) (zB.preS hPc hDc hK hN hE hO hS hFc (fun _ h => nomatch h) (List.forall_mem_cons.mpr ⟨List.mem_of_getElem? (i := 0) rfl, (fun _ h => nomatch h)⟩)) rfl rfl hl.1 rfl (lv_room (Nat.le_of_ble_eq_true rfl)) dX3_init_10 ⟨(Nat.le_of_ble_eq_true rfl), (Nat.le_of_ble_eq_true rfl)⟩) hS (fun q _ h => hFc q h) hFc (fun u t H1 locs ht hvm hw hB hz1 hk1 hS => ?_)
  obtain ⟨hP1, hD1⟩ := hB
  rw [ht] at hP1
  obtain ⟨hP, hD⟩ := va_join (wr := [(h0, .inr (7, [.ref q1, .int 0, .ref b, .int 0, .int 0, .null, .null, .null, .null, .int 0, .int 0, .long 0, .int 0, .int 0, .int 0, .null, .int 0])), (b, .inl (y 0, 0, .inl (fun _ => 0))), (q1, .inr (3, [.int 0, .ref e0, .int 0]))]) (w1 := [(q2, .inr (3, [.int 0, .ref e0, .int 0]))]) hP hD [3] [0, 1, 2] rfl rfl (by decide) (by decide) hk1 hFc hP1 hD1
  generalize H1 = H at hP hS ⊢
  have hP : va_P D vwCl [(h0, .inr (7, [.ref q1, .int 0, .ref b, .int 0, .int 0, .null, .null, .null, .null, .int 0, .int 0, .long 0, .int 0, .int 0, .int 0, .null, .int 0])), (b, .inl (y 0, 0, .inl (fun _ => 0))), (q1, .inr (3, [.int 0, .ref e0, .int 0])), (q2, .inr (3, [.int 0, .ref e0, .int 0]))] H := hP
  have hD : va_D A [(h0, .inr (7, [.ref q1, .int 0, .ref b, .int 0, .int 0, .null, .null, .null, .null, .int 0, .int 0, .long 0, .int 0, .int 0, .int 0, .null, .int 0])), (b, .inl (y 0, 0, .inl (fun _ => 0))), (q1, .inr (3, [.int 0, .ref e0, .int 0])), (q2, .inr (3, [.int 0, .ref e0, .int 0]))] := hD
  refine va_putF (D := D) (ci := 7) (v := .ref q2) (ty := (.object "java/util/ArrayList")) (C := RX3) (T := TX3) (N := 17) hx hb hts (by decide +kernel) tyX3 tyX3_ok nmX3 hown hK hP hD hS 0 rfl rfl 6 (by decide) (hts (.fieldLink RX3 14 "SignetRing$Key" "users" "Ljava/util/ArrayList;") (by decide +kernel)) (fun _ h9 => h9) rfl hin rfl (by decide +kernel) rfl rfl (Nat.le_of_ble_eq_true rfl) dX3_init_13 (fun H locs hP hD hS => ?_)
  have hP : va_P D vwCl [(h0, .inr (7, [.ref q1, .int 0, .ref b, .int 0, .int 0, .null, .ref q2, .null, .null, .int 0, .int 0, .long 0, .int 0, .int 0, .int 0, .null, .int 0])), (b, .inl (y 0, 0, .inl (fun _ => 0))), (q1, .inr (3, [.int 0, .ref e0, .int 0])), (q2, .inr (3, [.int 0, .ref e0, .int 0]))] H := hP
  have hD : va_D A [(h0, .inr (7, [.ref q1, .int 0, .ref b, .int 0, .int 0, .null, .ref q2, .null, .null, .int 0, .int 0, .long 0, .int 0, .int 0, .int 0, .null, .int 0])), (b, .inl (y 0, 0, .inl (fun _ => 0))), (q1, .inr (3, [.int 0, .ref e0, .int 0])), (q2, .inr (3, [.int 0, .ref e0, .int 0]))] := hD
  refine lv_aload_n hx hb dX3_init_16 rfl (lv_at hl 0 rfl) ?_
  refine va_new (ci := 3) (fs := [.int 0, .null, .int 0]) (C := RJx4a65c) (T := TJx4a65c) (N := 3) hx hb hts (by decide +kernel) tyJx4a65c tyJx4a65c_ok hown (hts (.classLink RX3 9 RJx4a65c) (by decide +kernel)) (hts (.instantiable RJx4a65c 3) (by decide +kernel)) (hts (.initialized RJx4a65c) (by decide +kernel)) hK hP hD hS hA rfl (by decide) (Nat.le_of_ble_eq_true rfl) (Nat.le_of_ble_eq_true rfl) dX3_init_17 (fun q3 H hP hD hS => ?_)
  have hP : va_P D vwCl [(h0, .inr (7, [.ref q1, .int 0, .ref b, .int 0, .int 0, .null, .ref q2, .null, .null, .int 0, .int 0, .long 0, .int 0, .int 0, .int 0, .null, .int 0])), (b, .inl (y 0, 0, .inl (fun _ => 0))), (q1, .inr (3, [.int 0, .ref e0, .int 0])), (q2, .inr (3, [.int 0, .ref e0, .int 0])), (q3, .inr (3, [.int 0, .null, .int 0]))] H := hP
  have hD : va_D A [(h0, .inr (7, [.ref q1, .int 0, .ref b, .int 0, .int 0, .null, .ref q2, .null, .null, .int 0, .int 0, .long 0, .int 0, .int 0, .int 0, .null, .int 0])), (b, .inl (y 0, 0, .inl (fun _ => 0))), (q1, .inr (3, [.int 0, .ref e0, .int 0])), (q2, .inr (3, [.int 0, .ref e0, .int 0])), (q3, .inr (3, [.int 0, .null, .int 0]))] := hD
  refine lv_dup hx hb dX3_init_20 rfl ?_
  have hPc := hP.sub (ws' := [(q3, .inr (3, [.int 0, .null, .int 0]))]) [4] rfl
  have hDc := hD.sub (ws' := [(q3, .inr (3, [.int 0, .null, .int 0]))]) [4] (by decide) rfl
  have hFc := va_free (wc := [(q3, .inr (3, [.int 0, .null, .int 0]))]) hD hS hA [4] rfl
  refine va_callv (va_runI (As := []) (rest := [.ref q3, .ref h0]) ⟨hx, hb, hml, hown, hts⟩ (c_ArrayList_init l D y H.size q3 e0) (cwI 0 hts gz_c_X3_init_c_ArrayList_init rfl rfl rfl (hts (.initialized RJx4a65c) (by decide +kernel)) (hts (.methodLink RX3 11 yJx4a65c_init_da8c8) (by decide +kernel)) (hts (.instanceMethod yJx4a65c_init_da8c8) (by decide +kernel)) rfl (by decide +kernel) ⟨(Nat.le_of_ble_eq_true rfl), (Nat.le_of_ble_eq_true rfl)⟩) (zB.preS hPc hDc hK hN hE hO hS hFc (fun _ h => nomatch h) (List.forall_mem_cons.mpr ⟨List.mem_of_getElem? (i := 0) rfl, (fun _ h => nomatch h)⟩)) rfl rfl hl.1 rfl (lv_room (Nat.le_of_ble_eq_true rfl)) dX3_init_21 ⟨(Nat.le_of_ble_eq_true rfl), (Nat.le_of_ble_eq_true rfl)⟩) hS (fun q _ h => hFc q h) hFc (fun u t H1 locs ht hvm hw hB hz1 hk1 hS => ?_)
  obtain ⟨hP1, hD1⟩ := hB
  rw [ht] at hP1
  obtain ⟨hP, hD⟩ := va_join (wr := [(h0, .inr (7, [.ref q1, .int 0, .ref b, .int 0, .int 0, .null, .ref q2, .null, .null, .int 0, .int 0, .long 0, .int 0, .int 0, .int 0, .null, .int 0])), (b, .inl (y 0, 0, .inl (fun _ => 0))), (q1, .inr (3, [.int 0, .ref e0, .int 0])), (q2, .inr (3, [.int 0, .ref e0, .int 0]))]) (w1 := [(q3, .inr (3, [.int 0, .ref e0, .int 0]))]) hP hD [4] [0, 1, 2, 3] rfl rfl (by decide) (by decide) hk1 hFc hP1 hD1
  generalize H1 = H at hP hS ⊢
  have hP : va_P D vwCl [(h0, .inr (7, [.ref q1, .int 0, .ref b, .int 0, .int 0, .null, .ref q2, .null, .null, .int 0, .int 0, .long 0, .int 0, .int 0, .int 0, .null, .int 0])), (b, .inl (y 0, 0, .inl (fun _ => 0))), (q1, .inr (3, [.int 0, .ref e0, .int 0])), (q2, .inr (3, [.int 0, .ref e0, .int 0])), (q3, .inr (3, [.int 0, .ref e0, .int 0]))] H := hP
  have hD : va_D A [(h0, .inr (7, [.ref q1, .int 0, .ref b, .int 0, .int 0, .null, .ref q2, .null, .null, .int 0, .int 0, .long 0, .int 0, .int 0, .int 0, .null, .int 0])), (b, .inl (y 0, 0, .inl (fun _ => 0))), (q1, .inr (3, [.int 0, .ref e0, .int 0])), (q2, .inr (3, [.int 0, .ref e0, .int 0])), (q3, .inr (3, [.int 0, .ref e0, .int 0]))] := hD
  refine va_putF (D := D) (ci := 7) (v := .ref q3) (ty := (.object "java/util/ArrayList")) (C := RX3) (T := TX3) (N := 17) hx hb hts (by decide +kernel) tyX3 tyX3_ok nmX3 hown hK hP hD hS 0 rfl rfl 7 (by decide) (hts (.fieldLink RX3 20 "SignetRing$Key" "parts" "Ljava/util/ArrayList;") (by decide +kernel)) (fun _ h9 => h9) rfl hin rfl (by decide +kernel) rfl rfl (Nat.le_of_ble_eq_true rfl) dX3_init_24 (fun H locs hP hD hS => ?_)
  have hP : va_P D vwCl [(h0, .inr (7, [.ref q1, .int 0, .ref b, .int 0, .int 0, .null, .ref q2, .ref q3, .null, .int 0, .int 0, .long 0, .int 0, .int 0, .int 0, .null, .int 0])), (b, .inl (y 0, 0, .inl (fun _ => 0))), (q1, .inr (3, [.int 0, .ref e0, .int 0])), (q2, .inr (3, [.int 0, .ref e0, .int 0])), (q3, .inr (3, [.int 0, .ref e0, .int 0]))] H := hP
  have hD : va_D A [(h0, .inr (7, [.ref q1, .int 0, .ref b, .int 0, .int 0, .null, .ref q2, .ref q3, .null, .int 0, .int 0, .long 0, .int 0, .int 0, .int 0, .null, .int 0])), (b, .inl (y 0, 0, .inl (fun _ => 0))), (q1, .inr (3, [.int 0, .ref e0, .int 0])), (q2, .inr (3, [.int 0, .ref e0, .int 0])), (q3, .inr (3, [.int 0, .ref e0, .int 0]))] := hD
  refine lv_aload_n hx hb dX3_init_27 rfl (lv_at hl 0 rfl) ?_
  refine lv_bipush (v := 20) hx hb dX3_init_28 (by decide) ?_
  refine zz_newa (atype := .byte) (n := 20) (N' := 20) (a0 := (20, .inl (fun _ => 0))) (ty := .byte) hx hb (hts (.arrayClass .byte) (by decide +kernel)) rfl hK 0 rfl hP hD hS hA (zz_aB 20) (by decide +kernel) (by decide +kernel) (by decide +kernel) (Nat.le_of_ble_eq_true rfl) (Nat.le_of_ble_eq_true rfl) dX3_init_30 (fun q4 H hP hD hS => ?_)
  have hP : va_P D vwCl [(h0, .inr (7, [.ref q1, .int 0, .ref b, .int 0, .int 0, .null, .ref q2, .ref q3, .null, .int 0, .int 0, .long 0, .int 0, .int 0, .int 0, .null, .int 0])), (b, .inl (y 0, 0, .inl (fun _ => 0))), (q1, .inr (3, [.int 0, .ref e0, .int 0])), (q2, .inr (3, [.int 0, .ref e0, .int 0])), (q3, .inr (3, [.int 0, .ref e0, .int 0])), (q4, .inl (y 0, 20, .inl (fun _ => 0)))] H := hP
  have hD : va_D A [(h0, .inr (7, [.ref q1, .int 0, .ref b, .int 0, .int 0, .null, .ref q2, .ref q3, .null, .int 0, .int 0, .long 0, .int 0, .int 0, .int 0, .null, .int 0])), (b, .inl (y 0, 0, .inl (fun _ => 0))), (q1, .inr (3, [.int 0, .ref e0, .int 0])), (q2, .inr (3, [.int 0, .ref e0, .int 0])), (q3, .inr (3, [.int 0, .ref e0, .int 0])), (q4, .inl (y 0, 20, .inl (fun _ => 0)))] := hD
  refine va_putF (D := D) (ci := 7) (v := .ref q4) (ty := (.array .byte)) (C := RX3) (T := TX3) (N := 17) hx hb hts (by decide +kernel) tyX3 tyX3_ok nmX3 hown hK hP hD hS 0 rfl rfl 8 (by decide) (hts (.fieldLink RX3 23 "SignetRing$Key" "print" "[B") (by decide +kernel)) (fun _ h9 => h9) rfl hin rfl (by decide +kernel) rfl rfl (Nat.le_of_ble_eq_true rfl) dX3_init_32 (fun H locs hP hD hS => ?_)
  have hP : va_P D vwCl [(h0, .inr (7, [.ref q1, .int 0, .ref b, .int 0, .int 0, .null, .ref q2, .ref q3, .ref q4, .int 0, .int 0, .long 0, .int 0, .int 0, .int 0, .null, .int 0])), (b, .inl (y 0, 0, .inl (fun _ => 0))), (q1, .inr (3, [.int 0, .ref e0, .int 0])), (q2, .inr (3, [.int 0, .ref e0, .int 0])), (q3, .inr (3, [.int 0, .ref e0, .int 0])), (q4, .inl (y 0, 20, .inl (fun _ => 0)))] H := hP
  have hD : va_D A [(h0, .inr (7, [.ref q1, .int 0, .ref b, .int 0, .int 0, .null, .ref q2, .ref q3, .ref q4, .int 0, .int 0, .long 0, .int 0, .int 0, .int 0, .null, .int 0])), (b, .inl (y 0, 0, .inl (fun _ => 0))), (q1, .inr (3, [.int 0, .ref e0, .int 0])), (q2, .inr (3, [.int 0, .ref e0, .int 0])), (q3, .inr (3, [.int 0, .ref e0, .int 0])), (q4, .inl (y 0, 20, .inl (fun _ => 0)))] := hD
  refine lv_aload_n hx hb dX3_init_35 rfl (lv_at hl 0 rfl) ?_
  refine lv_aload_nN hx hb dX3_init_36 rfl (lv_at hl 2 rfl) ?_
  refine lv_ifnonnullN hx hb dX3_init_37 ?_
  refine lv_aload_n hx hb dX3_init_40 rfl (lv_at hl 0 rfl) ?_
  refine lv_goto (tgt := 45) hx hb dX3_init_41 (by decide) ?_
  refine va_putF (D := D) (ci := 7) (v := .ref h0) (ty := (.object "SignetRing$Key")) (C := RX3) (T := TX3) (N := 17) hx hb hts (by decide +kernel) tyX3 tyX3_ok nmX3 hown hK hP hD hS 0 rfl rfl 5 (by decide) (hts (.fieldLink RX3 27 "SignetRing$Key" "owner" "LSignetRing$Key;") (by decide +kernel)) (fun _ h9 => h9) rfl hin rfl (by decide +kernel) rfl rfl (Nat.le_of_ble_eq_true rfl) dX3_init_45 (fun H locs hP hD hS => ?_)
  have hP : va_P D vwCl [(h0, .inr (7, [.ref q1, .int 0, .ref b, .int 0, .int 0, .ref h0, .ref q2, .ref q3, .ref q4, .int 0, .int 0, .long 0, .int 0, .int 0, .int 0, .null, .int 0])), (b, .inl (y 0, 0, .inl (fun _ => 0))), (q1, .inr (3, [.int 0, .ref e0, .int 0])), (q2, .inr (3, [.int 0, .ref e0, .int 0])), (q3, .inr (3, [.int 0, .ref e0, .int 0])), (q4, .inl (y 0, 20, .inl (fun _ => 0)))] H := hP
  have hD : va_D A [(h0, .inr (7, [.ref q1, .int 0, .ref b, .int 0, .int 0, .ref h0, .ref q2, .ref q3, .ref q4, .int 0, .int 0, .long 0, .int 0, .int 0, .int 0, .null, .int 0])), (b, .inl (y 0, 0, .inl (fun _ => 0))), (q1, .inr (3, [.int 0, .ref e0, .int 0])), (q2, .inr (3, [.int 0, .ref e0, .int 0])), (q3, .inr (3, [.int 0, .ref e0, .int 0])), (q4, .inl (y 0, 20, .inl (fun _ => 0)))] := hD
  have hP9 := hP.sub (ws' := [(h0, .inr (7, [.ref q1, .int 0, .ref b, .int 0, .int 0, .ref h0, .ref q2, .ref q3, .ref q4, .int 0, .int 0, .long 0, .int 0, .int 0, .int 0, .null, .int 0])), (b, .inl (y 0, 0, .inl (fun _ => 0))), (q1, .inr (3, [.int 0, .ref e0, .int 0])), (q2, .inr (3, [.int 0, .ref e0, .int 0])), (q3, .inr (3, [.int 0, .ref e0, .int 0])), (q4, .inl (y 0, 20, .inl (fun _ => 0)))]) [0, 1, 2, 3, 4, 5] rfl
  have hD9 := hD.sub (ws' := [(h0, .inr (7, [.ref q1, .int 0, .ref b, .int 0, .int 0, .ref h0, .ref q2, .ref q3, .ref q4, .int 0, .int 0, .long 0, .int 0, .int 0, .int 0, .null, .int 0])), (b, .inl (y 0, 0, .inl (fun _ => 0))), (q1, .inr (3, [.int 0, .ref e0, .int 0])), (q2, .inr (3, [.int 0, .ref e0, .int 0])), (q3, .inr (3, [.int 0, .ref e0, .int 0])), (q4, .inl (y 0, 20, .inl (fun _ => 0)))]) [0, 1, 2, 3, 4, 5] (by decide) rfl
  refine W.widen (k := 4) (n := 29) (Nat.le_of_ble_eq_true rfl) (Nat.le_of_ble_eq_true rfl) ?_
  exact W.vret hx hb hr (fun t ht hW => ⟨⟨(), rfl, trivial, q1, q2, q3, q4, by rw [ht]; exact hP9, hD9⟩, hS.F ht⟩) hS.2.2 dX3_init_48
end
section
def wz_c_X7_init : List Cond := .code yX7_init cX7_init 1 none :: ([.methodLink RX7 3 objectInit, .instanceMethod objectInit, .code objectInit ⟨#[0xb1]⟩ 1 none, .classLink RX7 9 RJx4a65c, .instantiable RJx4a65c 3, .initialized RJx4a65c, .methodLink RX7 11 yJx4a65c_init_da8c8, .instanceMethod yJx4a65c_init_da8c8, .fieldLink RX7 12 "SignetRing$Ring" "keys" "Ljava/util/ArrayList;", .classLink RX7 18 RX1, .instantiable RX1 3, .initialized RX1, .instanceMethod yX1_init, .fieldLink RX7 21 "SignetRing$Ring" "digest" "LSignetRing$Digest;", .classLink RX7 25 RX0, .instantiable RX0 3, .initialized RX0, .methodLink RX7 27 yX0_init, .instanceMethod yX0_init, .fieldLink RX7 30 "SignetRing$Ring" "message" "LSignetRing$Bytes;", .classLink RX7 34 RX3, .instantiable RX3 17, .initialized RX3, .arrayClass .byte, .methodLink RX7 36 yX3_init, .instanceMethod yX3_init, .fieldLink RX7 39 "SignetRing$Ring" "newKey" "LSignetRing$Key;", .classLink RX7 43 RX8, .instantiable RX8 18, .initialized RX8, .methodLink RX7 45 yX8_init, .instanceMethod yX8_init, .fieldLink RX7 48 "SignetRing$Ring" "newSeal" "LSignetRing$Seal;"] ++ (wsJx4a65c0 ++ (wsX70 ++ (wsX10 ++ (wsX00 ++ (wsX30 ++ (wsX80 ++ (wz_c_ArrayList_init ++ (wz_c_X1_init ++ (wz_c_X0_init_256 ++ (wz_c_X3_init ++ (wz_c_X8_init ++ ([])))))))))))))
set_option maxRecDepth 100000 in
theorem gz_c_X7_init_c_ArrayList_init : GoodIn wz_c_X7_init wz_c_ArrayList_init := goodIn_sub (fun w h => List.mem_cons_of_mem _ (List.mem_append_right _ (List.mem_append_right _ (List.mem_append_right _ (List.mem_append_right _ (List.mem_append_right _ (List.mem_append_right _ (List.mem_append_right _ (List.mem_append_left _ h))))))))) (by decide +kernel)
set_option maxRecDepth 100000 in
theorem gz_c_X7_init_c_X1_init : GoodIn wz_c_X7_init wz_c_X1_init := goodIn_sub (fun w h => List.mem_cons_of_mem _ (List.mem_append_right _ (List.mem_append_right _ (List.mem_append_right _ (List.mem_append_right _ (List.mem_append_right _ (List.mem_append_right _ (List.mem_append_right _ (List.mem_append_right _ (List.mem_append_left _ h)))))))))) (by decide +kernel)
set_option maxRecDepth 100000 in
theorem gz_c_X7_init_c_X0_init_256 : GoodIn wz_c_X7_init wz_c_X0_init_256 := goodIn_sub (fun w h => List.mem_cons_of_mem _ (List.mem_append_right _ (List.mem_append_right _ (List.mem_append_right _ (List.mem_append_right _ (List.mem_append_right _ (List.mem_append_right _ (List.mem_append_right _ (List.mem_append_right _ (List.mem_append_right _ (List.mem_append_left _ h))))))))))) (by decide +kernel)
set_option maxRecDepth 100000 in
theorem gz_c_X7_init_c_X3_init : GoodIn wz_c_X7_init wz_c_X3_init := goodIn_sub (fun w h => List.mem_cons_of_mem _ (List.mem_append_right _ (List.mem_append_right _ (List.mem_append_right _ (List.mem_append_right _ (List.mem_append_right _ (List.mem_append_right _ (List.mem_append_right _ (List.mem_append_right _ (List.mem_append_right _ (List.mem_append_right _ (List.mem_append_left _ h)))))))))))) (by decide +kernel)
set_option maxRecDepth 100000 in
theorem gz_c_X7_init_c_X8_init : GoodIn wz_c_X7_init wz_c_X8_init := goodIn_sub (fun w h => List.mem_cons_of_mem _ (List.mem_append_right _ (List.mem_append_right _ (List.mem_append_right _ (List.mem_append_right _ (List.mem_append_right _ (List.mem_append_right _ (List.mem_append_right _ (List.mem_append_right _ (List.mem_append_right _ (List.mem_append_right _ (List.mem_append_right _ (List.mem_append_left _ h))))))))))))) (by decide +kernel)
set_option maxHeartbeats 4000000 in
set_option maxRecDepth 100000 in
theorem c_X7_init (l : Launch) (D : va_G) (y : Nat → ClassId) (sz : Nat) (h0 : Nat) (e0 : Nat) : Met l yX7_init wz_c_X7_init ({ frames := 6, cells := 14, slots := 417, locals := 115 }) (va_Pc [.ref h0] (zB D y [(h0, .inr (11, [.null, .null, .null, .null, .null, .null, .null]))] sz [(RX7, 20, yX1_init, "SignetRing")] [("java/util/ArrayList", "DEFAULTCAPACITY_EMPTY_ELEMENTDATA", "[Ljava/lang/Object;", .ref e0)])) (va_Qv (fun _ : Unit => True) (fun _ t => ∃ q1 q2 q3 q4 q5 q6 q7 q8 q9 q10 q11 q12 q13 q14 : Nat, va_P D vwCl [(h0, .inr (11, [.ref q1, .ref q2, .ref q5, .ref q7, .ref q13, .null, .null])), (q1, .inr (3, [.int 0, .ref e0, .int 0])), (q2, .inr (5, [.ref q3, .ref q4, .int 0])), (q3, .inl (y 1, 8, .inl (fun _ => 0))), (q4, .inl (y 1, 80, .inl (fun _ => 0))), (q5, .inr (4, [.ref q6, .int 0, .int 0])), (q6, .inl (y 0, 256, .inl (fun _ => 0))), (q7, .inr (7, [.ref q9, .int 0, .ref q8, .int 0, .int 0, .ref q7, .ref q10, .ref q11, .ref q12, .int 0, .int 0, .long 0, .int 0, .int 0, .int 0, .null, .int 0])), (q8, .inl (y 0, 0, .inl (fun _ => 0))), (q9, .inr (3, [.int 0, .ref e0, .int 0])), (q10, .inr (3, [.int 0, .ref e0, .int 0])), (q11, .inr (3, [.int 0, .ref e0, .int 0])), (q12, .inl (y 0, 20, .inl (fun _ => 0))), (q13, .inr (12, [.ref q14, .int 0, .int 0, .int 0, .int 0, .int 0, .int 0, .int 0, .long 0, .long 0, .long 0, .int 0, .int 0, .int 0, .int 0, .int 0, .int 0, .int 0])), (q14, .inl (y 0, 0, .inl (fun _ => 0)))] t.heap ∧ va_D (va_A [(h0, .inr (11, [.null, .null, .null, .null, .null, .null, .null]))] sz) [(h0, .inr (11, [.ref q1, .ref q2, .ref q5, .ref q7, .ref q13, .null, .null])), (q1, .inr (3, [.int 0, .ref e0, .int 0])), (q2, .inr (5, [.ref q3, .ref q4, .int 0])), (q3, .inl (y 1, 8, .inl (fun _ => 0))), (q4, .inl (y 1, 80, .inl (fun _ => 0))), (q5, .inr (4, [.ref q6, .int 0, .int 0])), (q6, .inl (y 0, 256, .inl (fun _ => 0))), (q7, .inr (7, [.ref q9, .int 0, .ref q8, .int 0, .int 0, .ref q7, .ref q10, .ref q11, .ref q12, .int 0, .int 0, .long 0, .int 0, .int 0, .int 0, .null, .int 0])), (q8, .inl (y 0, 0, .inl (fun _ => 0))), (q9, .inr (3, [.int 0, .ref e0, .int 0])), (q10, .inr (3, [.int 0, .ref e0, .int 0])), (q11, .inr (3, [.int 0, .ref e0, .int 0])), (q12, .inl (y 0, 20, .inl (fun _ => 0))), (q13, .inr (12, [.ref q14, .int 0, .int 0, .int 0, .int 0, .int 0, .int 0, .int 0, .long 0, .long 0, .long 0, .int 0, .int 0, .int 0, .int 0, .int 0, .int 0, .int 0])), (q14, .inl (y 0, 0, .inl (fun _ => 0)))]) (va_A [(h0, .inr (11, [.null, .null, .null, .null, .null, .null, .null]))] sz)) 14 417 (va_A [(h0, .inr (11, [.null, .null, .null, .null, .null, .null, .null]))] sz) := by
  refine Met.ofW (cc := cX7_init) (maxL := 1) (ret := none) (by decide) rfl ?_
  intro p e s m args below meth c s₁ B hml hv
  obtain ⟨rfl, hsz, hP, hK, hD0, hN, hE, hO⟩ := hv
  have hx := B.exec
  have hb := B.bytes
  have hr := B.returns
  have hts := atoms_spec (ws := wz_c_X7_init) B.pre
  have hown : s.vm.findClass RX7 = some m.cls := findClass_of_methodNamed B.named
  have hlocks := B.notSynchronized
  have hin : meth.name = "<init>" := (name_of_methodNamed B.named B.method).1
  subst hsz
  have hD := hD0.self (sz := s.heap.size)
  generalize hAe : va_A [(h0, .inr (11, [.null, .null, .null, .null, .null, .null, .null]))] s.heap.size = A at hD hE ⊢
  have hA : ∀ q : Nat, s.heap.size ≤ q → A q := fun q h => by rw [← hAe]; exact Or.inr h
  have hS : va_S A s.heap s.heap [] := va_S.rf
  have hl := lv_entry ([.ref h0]) (n := 1) (Nat.le_of_ble_eq_true rfl)
  rw [lg_entry_eq]
  generalize (lg_sl ([.ref h0]) ++ List.replicate (1 - (lg_sl ([.ref h0])).length) Slot.unset).toArray = ls at hl ⊢
  have hl : lv_has ls 1 [(0, .ref h0)] := hl
  refine lv_aload_n hx hb dX7_init_0 rfl (lv_at hl 0 rfl) ?_
  refine W.objInit hx hb hown (hts (.methodLink RX7 3 objectInit) (by decide +kernel)) (hts (.instanceMethod objectInit) (by decide +kernel)) (hts (.code objectInit ⟨#[0xb1]⟩ 1 none) (by decide +kernel)) rfl (by rw [hml]; exact hl.1) rfl dX7_init_1 (Nat.le_of_ble_eq_true rfl) (Nat.le_of_ble_eq_true rfl) ?_
  refine W.eq (g2 := F0 m 4 ls []) rfl ?_
  refine lv_aload_n hx hb dX7_init_4 rfl (lv_at hl 0 rfl) ?_
  refine va_new (ci := 3) (fs := [.int 0, .null, .int 0]) (C := RJx4a65c) (T := TJx4a65c) (N := 3) hx hb hts (by decide +kernel) tyJx4a65c tyJx4a65c_ok hown (hts (.classLink RX7 9 RJx4a65c) (by decide +kernel)) (hts (.instantiable RJx4a65c 3) (by decide +kernel)) (hts (.initialized RJx4a65c) (by decide +kernel)) hK hP hD hS hA rfl (by decide) (Nat.le_of_ble_eq_true rfl) (Nat.le_of_ble_eq_true rfl) dX7_init_5 (fun q1 H hP hD hS => ?_)
  have hP : va_P D vwCl [(h0, .inr (11, [.null, .null, .null, .null, .null, .null, .null])), (q1, .inr (3, [.int 0, .null, .int 0]))] H := hP
  have hD : va_D A [(h0, .inr (11, [.null, .null, .null, .null, .null, .null, .null])), (q1, .inr (3, [.int 0, .null, .int 0]))] := hD
  refine lv_dup hx hb dX7_init_8 rfl ?_
  have hPc := hP.sub (ws' := [(q1, .inr (3, [.int 0, .null, .int 0]))]) [1] rfl
  have hDc := hD.sub (ws' := [(q1, .inr (3, [.int 0, .null, .int 0]))]) [1] (by decide) rfl
  have hFc := va_free (wc := [(q1, .inr (3, [.int 0, .null, .int 0]))]) hD hS hA [1] rfl
  refine va_callv (va_runI (As := []) (rest := [.ref q1, .ref h0]) ⟨hx, hb, hml, hown, hts⟩ (c_ArrayList_init l D y H.size q1 e0) (cwI 0 hts gz_c_X7_init_c_ArrayList_init rfl rfl rfl (hts (.initialized RJx4a65c) (by decide +kernel)) (hts (.methodLink RX7 11 yJx4a65c_init_da8c8) (by decide +kernel)) (hts (.instanceMethod yJx4a65c_init_da8c8) (by decide +kernel)) rfl (by decide +kernel) ⟨(Nat.le_of_ble_eq_true rfl), (Nat.le_of_ble_eq_true rfl)⟩) (zB.preS hPc hDc hK hN hE hO hS hFc (fun _ h => nomatch h) (List.forall_mem_cons.mpr ⟨List.mem_of_getElem? (i := 0) rfl, (fun _ h => nomatch h)⟩)) rfl rfl hl.1 rfl (lv_room (Nat.le_of_ble_eq_true rfl)) dX7_init_9 ⟨(Nat.le_of_ble_eq_true rfl), (Nat.le_of_ble_eq_true rfl)⟩) hS (fun q _ h => hFc q h) hFc (fun u t H1 locs ht hvm hw hB hz1 hk1 hS => ?_)
  obtain ⟨hP1, hD1⟩ := hB
  rw [ht] at hP1
  obtain ⟨hP, hD⟩ := va_join (wr := [(h0, .inr (11, [.null, .null, .null, .null, .null, .null, .null]))]) (w1 := [(q1, .inr (3, [.int 0, .ref e0, .int 0]))]) hP hD [1] [0] rfl rfl (by decide) (by decide) hk1 hFc hP1 hD1
  generalize H1 = H at hP hS ⊢
  have hP : va_P D vwCl [(h0, .inr (11, [.null, .null, .null, .null, .null, .null, .null])), (q1, .inr (3, [.int 0, .ref e0, .int 0]))] H := hP
  have hD : va_D A [(h0, .inr (11, [.null, .null, .null, .null, .null, .null, .null])), (q1, .inr (3, [.int 0, .ref e0, .int 0]))] := hD
  refine va_putF (D := D) (ci := 11) (v := .ref q1) (ty := (.object "java/util/ArrayList")) (C := RX7) (T := TX7) (N := 7) hx hb hts (by decide +kernel) tyX7 tyX7_ok nmX7 hown hK hP hD hS 0 rfl rfl 0 (by decide) (hts (.fieldLink RX7 12 "SignetRing$Ring" "keys" "Ljava/util/ArrayList;") (by decide +kernel)) (fun _ h9 => h9) rfl hin rfl (by decide +kernel) rfl rfl (Nat.le_of_ble_eq_true rfl) dX7_init_12 (fun H locs hP hD hS => ?_)
  have hP : va_P D vwCl [(h0, .inr (11, [.ref q1, .null, .null, .null, .null, .null, .null])), (q1, .inr (3, [.int 0, .ref e0, .int 0]))] H := hP
  have hD : va_D A [(h0, .inr (11, [.ref q1, .null, .null, .null, .null, .null, .null])), (q1, .inr (3, [.int 0, .ref e0, .int 0]))] := hD
  refine lv_aload_n hx hb dX7_init_15 rfl (lv_at hl 0 rfl) ?_
  refine va_new (ci := 5) (fs := [.null, .null, .int 0]) (C := RX1) (T := TX1) (N := 3) hx hb hts (by decide +kernel) tyX1 tyX1_ok hown (hts (.classLink RX7 18 RX1) (by decide +kernel)) (hts (.instantiable RX1 3) (by decide +kernel)) (hts (.initialized RX1) (by decide +kernel)) hK hP hD hS hA rfl (by decide) (Nat.le_of_ble_eq_true rfl) (Nat.le_of_ble_eq_true rfl) dX7_init_16 (fun q2 H hP hD hS => ?_)
  have hP : va_P D vwCl [(h0, .inr (11, [.ref q1, .null, .null, .null, .null, .null, .null])), (q1, .inr (3, [.int 0, .ref e0, .int 0])), (q2, .inr (5, [.null, .null, .int 0]))] H := hP
  have hD : va_D A [(h0, .inr (11, [.ref q1, .null, .null, .null, .null, .null, .null])), (q1, .inr (3, [.int 0, .ref e0, .int 0])), (q2, .inr (5, [.null, .null, .int 0]))] := hD
  refine lv_dup hx hb dX7_init_19 rfl ?_
  have hPc := hP.sub (ws' := [(q2, .inr (5, [.null, .null, .int 0]))]) [2] rfl
  have hDc := hD.sub (ws' := [(q2, .inr (5, [.null, .null, .int 0]))]) [2] (by decide) rfl
  have hFc := va_free (wc := [(q2, .inr (5, [.null, .null, .int 0]))]) hD hS hA [2] rfl
  refine va_callv (va_runIN (As := []) (rest := [.ref q2, .ref h0]) ⟨hx, hb, hml, hown, hts⟩ (c_X1_init l D y H.size q2) ⟨va_cnB 0 hts gz_c_X7_init_c_X1_init rfl rfl rfl (hN (RX7, 20, yX1_init, "SignetRing") (List.mem_of_getElem? (i := 0) rfl)) (hts (.initialized RX1) (by decide +kernel)) (by decide +kernel) ⟨(Nat.le_of_ble_eq_true rfl), (Nat.le_of_ble_eq_true rfl)⟩, rfl, (hts (.instanceMethod yX1_init) (by decide +kernel))⟩ (zB.preS hPc hDc hK hN hE hO hS hFc (fun _ h => nomatch h) (fun _ h => nomatch h)) rfl rfl hl.1 rfl (lv_room (Nat.le_of_ble_eq_true rfl)) dX7_init_20 ⟨(Nat.le_of_ble_eq_true rfl), (Nat.le_of_ble_eq_true rfl)⟩) hS (fun q _ h => hFc q h) hFc (fun u t H1 locs ht hvm hw hB hz1 hk1 hS => ?_)
  obtain ⟨q3, q4, hP1, hD1⟩ := hB
  rw [ht] at hP1
  obtain ⟨hP, hD⟩ := va_join (wr := [(h0, .inr (11, [.ref q1, .null, .null, .null, .null, .null, .null])), (q1, .inr (3, [.int 0, .ref e0, .int 0]))]) (w1 := [(q2, .inr (5, [.ref q3, .ref q4, .int 0])), (q3, .inl (y 1, 8, .inl (fun _ => 0))), (q4, .inl (y 1, 80, .inl (fun _ => 0)))]) hP hD [2] [0, 1] rfl rfl (by decide) (by decide) hk1 hFc hP1 hD1
  generalize H1 = H at hP hS ⊢
  have hP : va_P D vwCl [(h0, .inr (11, [.ref q1, .null, .null, .null, .null, .null, .null])), (q1, .inr (3, [.int 0, .ref e0, .int 0])), (q2, .inr (5, [.ref q3, .ref q4, .int 0])), (q3, .inl (y 1, 8, .inl (fun _ => 0))), (q4, .inl (y 1, 80, .inl (fun _ => 0)))] H := hP
  have hD : va_D A [(h0, .inr (11, [.ref q1, .null, .null, .null, .null, .null, .null])), (q1, .inr (3, [.int 0, .ref e0, .int 0])), (q2, .inr (5, [.ref q3, .ref q4, .int 0])), (q3, .inl (y 1, 8, .inl (fun _ => 0))), (q4, .inl (y 1, 80, .inl (fun _ => 0)))] := hD
  refine va_putF (D := D) (ci := 11) (v := .ref q2) (ty := (.object "SignetRing$Digest")) (C := RX7) (T := TX7) (N := 7) hx hb hts (by decide +kernel) tyX7 tyX7_ok nmX7 hown hK hP hD hS 0 rfl rfl 1 (by decide) (hts (.fieldLink RX7 21 "SignetRing$Ring" "digest" "LSignetRing$Digest;") (by decide +kernel)) (fun _ h9 => h9) rfl hin rfl (by decide +kernel) rfl rfl (Nat.le_of_ble_eq_true rfl) dX7_init_23 (fun H locs hP hD hS => ?_)
  have hP : va_P D vwCl [(h0, .inr (11, [.ref q1, .ref q2, .null, .null, .null, .null, .null])), (q1, .inr (3, [.int 0, .ref e0, .int 0])), (q2, .inr (5, [.ref q3, .ref q4, .int 0])), (q3, .inl (y 1, 8, .inl (fun _ => 0))), (q4, .inl (y 1, 80, .inl (fun _ => 0)))] H := hP
  have hD : va_D A [(h0, .inr (11, [.ref q1, .ref q2, .null, .null, .null, .null, .null])), (q1, .inr (3, [.int 0, .ref e0, .int 0])), (q2, .inr (5, [.ref q3, .ref q4, .int 0])), (q3, .inl (y 1, 8, .inl (fun _ => 0))), (q4, .inl (y 1, 80, .inl (fun _ => 0)))] := hD
  refine lv_aload_n hx hb dX7_init_26 rfl (lv_at hl 0 rfl) ?_
  refine va_new (ci := 4) (fs := [.null, .int 0, .int 0]) (C := RX0) (T := TX0) (N := 3) hx hb hts (by decide +kernel) tyX0 tyX0_ok hown (hts (.classLink RX7 25 RX0) (by decide +kernel)) (hts (.instantiable RX0 3) (by decide +kernel)) (hts (.initialized RX0) (by decide +kernel)) hK hP hD hS hA rfl (by decide) (Nat.le_of_ble_eq_true rfl) (Nat.le_of_ble_eq_true rfl) dX7_init_27 (fun q5 H hP hD hS => ?_)
  have hP : va_P D vwCl [(h0, .inr (11, [.ref q1, .ref q2, .null, .null, .null, .null, .null])), (q1, .inr (3, [.int 0, .ref e0, .int 0])), (q2, .inr (5, [.ref q3, .ref q4, .int 0])), (q3, .inl (y 1, 8, .inl (fun _ => 0))), (q4, .inl (y 1, 80, .inl (fun _ => 0))), (q5, .inr (4, [.null, .int 0, .int 0]))] H := hP
  have hD : va_D A [(h0, .inr (11, [.ref q1, .ref q2, .null, .null, .null, .null, .null])), (q1, .inr (3, [.int 0, .ref e0, .int 0])), (q2, .inr (5, [.ref q3, .ref q4, .int 0])), (q3, .inl (y 1, 8, .inl (fun _ => 0))), (q4, .inl (y 1, 80, .inl (fun _ => 0))), (q5, .inr (4, [.null, .int 0, .int 0]))] := hD
  refine lv_dup hx hb dX7_init_30 rfl ?_
  refine lv_sipush (v := 256) hx hb dX7_init_31 (by decide) ?_
  have hPc := hP.sub (ws' := [(q5, .inr (4, [.null, .int 0, .int 0]))]) [5] rfl
  have hDc := hD.sub (ws' := [(q5, .inr (4, [.null, .int 0, .int 0]))]) [5] (by decide) rfl
  have hFc := va_free (wc := [(q5, .inr (4, [.null, .int 0, .int 0]))]) hD hS hA [5] rfl
  refine va_callv (va_runI (As := [.int 256]) (rest := [.ref q5, .ref h0]) ⟨hx, hb, hml, hown, hts⟩ (c_X0_init_256 l D y H.size q5) (cwI 1 hts gz_c_X7_init_c_X0_init_256 rfl rfl rfl (hts (.initialized RX0) (by decide +kernel)) (hts (.methodLink RX7 27 yX0_init) (by decide +kernel)) (hts (.instanceMethod yX0_init) (by decide +kernel)) rfl (by decide +kernel) ⟨(Nat.le_of_ble_eq_true rfl), (Nat.le_of_ble_eq_true rfl)⟩) (zB.preS hPc hDc hK hN hE hO hS hFc (fun _ h => nomatch h) (fun _ h => nomatch h)) rfl rfl hl.1 rfl (lv_room (Nat.le_of_ble_eq_true rfl)) dX7_init_34 ⟨(Nat.le_of_ble_eq_true rfl), (Nat.le_of_ble_eq_true rfl)⟩) hS (fun q _ h => hFc q h) hFc (fun u t H1 locs ht hvm hw hB hz1 hk1 hS => ?_)
  obtain ⟨q6, hP1, hD1⟩ := hB
  rw [ht] at hP1
  obtain ⟨hP, hD⟩ := va_join (wr := [(h0, .inr (11, [.ref q1, .ref q2, .null, .null, .null, .null, .null])), (q1, .inr (3, [.int 0, .ref e0, .int 0])), (q2, .inr (5, [.ref q3, .ref q4, .int 0])), (q3, .inl (y 1, 8, .inl (fun _ => 0))), (q4, .inl (y 1, 80, .inl (fun _ => 0)))]) (w1 := [(q5, .inr (4, [.ref q6, .int 0, .int 0])), (q6, .inl (y 0, 256, .inl (fun _ => 0)))]) hP hD [5] [0, 1, 2, 3, 4] rfl rfl (by decide) (by decide) hk1 hFc hP1 hD1
  generalize H1 = H at hP hS ⊢
  have hP : va_P D vwCl [(h0, .inr (11, [.ref q1, .ref q2, .null, .null, .null, .null, .null])), (q1, .inr (3, [.int 0, .ref e0, .int 0])), (q2, .inr (5, [.ref q3, .ref q4, .int 0])), (q3, .inl (y 1, 8, .inl (fun _ => 0))), (q4, .inl (y 1, 80, .inl (fun _ => 0))), (q5, .inr (4, [.ref q6, .int 0, .int 0])), (q6, .inl (y 0, 256, .inl (fun _ => 0)))] H := hP
  have hD : va_D A [(h0, .inr (11, [.ref q1, .ref q2, .null, .null, .null, .null, .null])), (q1, .inr (3, [.int 0, .ref e0, .int 0])), (q2, .inr (5, [.ref q3, .ref q4, .int 0])), (q3, .inl (y 1, 8, .inl (fun _ => 0))), (q4, .inl (y 1, 80, .inl (fun _ => 0))), (q5, .inr (4, [.ref q6, .int 0, .int 0])), (q6, .inl (y 0, 256, .inl (fun _ => 0)))] := hD
  refine va_putF (D := D) (ci := 11) (v := .ref q5) (ty := (.object "SignetRing$Bytes")) (C := RX7) (T := TX7) (N := 7) hx hb hts (by decide +kernel) tyX7 tyX7_ok nmX7 hown hK hP hD hS 0 rfl rfl 2 (by decide) (hts (.fieldLink RX7 30 "SignetRing$Ring" "message" "LSignetRing$Bytes;") (by decide +kernel)) (fun _ h9 => h9) rfl hin rfl (by decide +kernel) rfl rfl (Nat.le_of_ble_eq_true rfl) dX7_init_37 (fun H locs hP hD hS => ?_)
  have hP : va_P D vwCl [(h0, .inr (11, [.ref q1, .ref q2, .ref q5, .null, .null, .null, .null])), (q1, .inr (3, [.int 0, .ref e0, .int 0])), (q2, .inr (5, [.ref q3, .ref q4, .int 0])), (q3, .inl (y 1, 8, .inl (fun _ => 0))), (q4, .inl (y 1, 80, .inl (fun _ => 0))), (q5, .inr (4, [.ref q6, .int 0, .int 0])), (q6, .inl (y 0, 256, .inl (fun _ => 0)))] H := hP
  have hD : va_D A [(h0, .inr (11, [.ref q1, .ref q2, .ref q5, .null, .null, .null, .null])), (q1, .inr (3, [.int 0, .ref e0, .int 0])), (q2, .inr (5, [.ref q3, .ref q4, .int 0])), (q3, .inl (y 1, 8, .inl (fun _ => 0))), (q4, .inl (y 1, 80, .inl (fun _ => 0))), (q5, .inr (4, [.ref q6, .int 0, .int 0])), (q6, .inl (y 0, 256, .inl (fun _ => 0)))] := hD
  refine lv_aload_n hx hb dX7_init_40 rfl (lv_at hl 0 rfl) ?_
  refine va_new (ci := 7) (fs := [.null, .int 0, .null, .int 0, .int 0, .null, .null, .null, .null, .int 0, .int 0, .long 0, .int 0, .int 0, .int 0, .null, .int 0]) (C := RX3) (T := TX3) (N := 17) hx hb hts (by decide +kernel) tyX3 tyX3_ok hown (hts (.classLink RX7 34 RX3) (by decide +kernel)) (hts (.instantiable RX3 17) (by decide +kernel)) (hts (.initialized RX3) (by decide +kernel)) hK hP hD hS hA rfl (by decide) (Nat.le_of_ble_eq_true rfl) (Nat.le_of_ble_eq_true rfl) dX7_init_41 (fun q7 H hP hD hS => ?_)
  have hP : va_P D vwCl [(h0, .inr (11, [.ref q1, .ref q2, .ref q5, .null, .null, .null, .null])), (q1, .inr (3, [.int 0, .ref e0, .int 0])), (q2, .inr (5, [.ref q3, .ref q4, .int 0])), (q3, .inl (y 1, 8, .inl (fun _ => 0))), (q4, .inl (y 1, 80, .inl (fun _ => 0))), (q5, .inr (4, [.ref q6, .int 0, .int 0])), (q6, .inl (y 0, 256, .inl (fun _ => 0))), (q7, .inr (7, [.null, .int 0, .null, .int 0, .int 0, .null, .null, .null, .null, .int 0, .int 0, .long 0, .int 0, .int 0, .int 0, .null, .int 0]))] H := hP
  have hD : va_D A [(h0, .inr (11, [.ref q1, .ref q2, .ref q5, .null, .null, .null, .null])), (q1, .inr (3, [.int 0, .ref e0, .int 0])), (q2, .inr (5, [.ref q3, .ref q4, .int 0])), (q3, .inl (y 1, 8, .inl (fun _ => 0))), (q4, .inl (y 1, 80, .inl (fun _ => 0))), (q5, .inr (4, [.ref q6, .int 0, .int 0])), (q6, .inl (y 0, 256, .inl (fun _ => 0))), (q7, .inr (7, [.null, .int 0, .null, .int 0, .int 0, .null, .null, .null, .null, .int 0, .int 0, .long 0, .int 0, .int 0, .int 0, .null, .int 0]))] := hD
  refine lv_dup hx hb dX7_init_44 rfl ?_
  refine lv_iconst (v := 0) hx hb dX7_init_45 (by decide) ?_
  refine zz_newa (atype := .byte) (n := 0) (N' := 0) (a0 := (0, .inl (fun _ => 0))) (ty := .byte) hx hb (hts (.arrayClass .byte) (by decide +kernel)) rfl hK 0 rfl hP hD hS hA (zz_aB 0) (by decide +kernel) (by decide +kernel) (by decide +kernel) (Nat.le_of_ble_eq_true rfl) (Nat.le_of_ble_eq_true rfl) dX7_init_46 (fun q8 H hP hD hS => ?_)
  have hP : va_P D vwCl [(h0, .inr (11, [.ref q1, .ref q2, .ref q5, .null, .null, .null, .null])), (q1, .inr (3, [.int 0, .ref e0, .int 0])), (q2, .inr (5, [.ref q3, .ref q4, .int 0])), (q3, .inl (y 1, 8, .inl (fun _ => 0))), (q4, .inl (y 1, 80, .inl (fun _ => 0))), (q5, .inr (4, [.ref q6, .int 0, .int 0])), (q6, .inl (y 0, 256, .inl (fun _ => 0))), (q7, .inr (7, [.null, .int 0, .null, .int 0, .int 0, .null, .null, .null, .null, .int 0, .int 0, .long 0, .int 0, .int 0, .int 0, .null, .int 0])), (q8, .inl (y 0, 0, .inl (fun _ => 0)))] H := hP
  have hD : va_D A [(h0, .inr (11, [.ref q1, .ref q2, .ref q5, .null, .null, .null, .null])), (q1, .inr (3, [.int 0, .ref e0, .int 0])), (q2, .inr (5, [.ref q3, .ref q4, .int 0])), (q3, .inl (y 1, 8, .inl (fun _ => 0))), (q4, .inl (y 1, 80, .inl (fun _ => 0))), (q5, .inr (4, [.ref q6, .int 0, .int 0])), (q6, .inl (y 0, 256, .inl (fun _ => 0))), (q7, .inr (7, [.null, .int 0, .null, .int 0, .int 0, .null, .null, .null, .null, .int 0, .int 0, .long 0, .int 0, .int 0, .int 0, .null, .int 0])), (q8, .inl (y 0, 0, .inl (fun _ => 0)))] := hD
  refine lv_null hx hb dX7_init_48 ?_
  have hPc := hP.sub (ws' := [(q7, .inr (7, [.null, .int 0, .null, .int 0, .int 0, .null, .null, .null, .null, .int 0, .int 0, .long 0, .int 0, .int 0, .int 0, .null, .int 0])), (q8, .inl (y 0, 0, .inl (fun _ => 0)))]) [7, 8] rfl
  have hDc := hD.sub (ws' := [(q7, .inr (7, [.null, .int 0, .null, .int 0, .int 0, .null, .null, .null, .null, .int 0, .int 0, .long 0, .int 0, .int 0, .int 0, .null, .int 0])), (q8, .inl (y 0, 0, .inl (fun _ => 0)))]) [7, 8] (by decide) rfl
  have hFc := va_free (wc := [(q7, .inr (7, [.null, .int 0, .null, .int 0, .int 0, .null, .null, .null, .null, .int 0, .int 0, .long 0, .int 0, .int 0, .int 0, .null, .int 0])), (q8, .inl (y 0, 0, .inl (fun _ => 0)))]) hD hS hA [7, 8] rfl
  refine va_callv (va_runI (As := [.ref q8, .null]) (rest := [.ref q7, .ref h0]) ⟨hx, hb, hml, hown, hts⟩ (c_X3_init l D y H.size q7 q8 e0) (cwI 2 hts gz_c_X7_init_c_X3_init rfl rfl rfl (hts (.initialized RX3) (by decide +kernel)) (hts (.methodLink RX7 36 yX3_init) (by decide +kernel)) (hts (.instanceMethod yX3_init) (by decide +kernel)) rfl (by decide +kernel) ⟨(Nat.le_of_ble_eq_true rfl), (Nat.le_of_ble_eq_true rfl)⟩) (zB.preS hPc hDc hK hN hE hO hS hFc (fun _ h => nomatch h) (List.forall_mem_cons.mpr ⟨List.mem_of_getElem? (i := 0) rfl, (fun _ h => nomatch h)⟩)) rfl rfl hl.1 rfl (lv_room (Nat.le_of_ble_eq_true rfl)) dX7_init_49 ⟨(Nat.le_of_ble_eq_true rfl), (Nat.le_of_ble_eq_true rfl)⟩) hS (fun q _ h => hFc q h) hFc (fun u t H1 locs ht hvm hw hB hz1 hk1 hS => ?_)
  obtain ⟨q9, q10, q11, q12, hP1, hD1⟩ := hB
  rw [ht] at hP1
  obtain ⟨hP, hD⟩ := va_join (wr := [(h0, .inr (11, [.ref q1, .ref q2, .ref q5, .null, .null, .null, .null])), (q1, .inr (3, [.int 0, .ref e0, .int 0])), (q2, .inr (5, [.ref q3, .ref q4, .int 0])), (q3, .inl (y 1, 8, .inl (fun _ => 0))), (q4, .inl (y 1, 80, .inl (fun _ => 0))), (q5, .inr (4, [.ref q6, .int 0, .int 0])), (q6, .inl (y 0, 256, .inl (fun _ => 0)))]) (w1 := [(q7, .inr (7, [.ref q9, .int 0, .ref q8, .int 0, .int 0, .ref q7, .ref q10, .ref q11, .ref q12, .int 0, .int 0, .long 0, .int 0, .int 0, .int 0, .null, .int 0])), (q8, .inl (y 0, 0, .inl (fun _ => 0))), (q9, .inr (3, [.int 0, .ref e0, .int 0])), (q10, .inr (3, [.int 0, .ref e0, .int 0])), (q11, .inr (3, [.int 0, .ref e0, .int 0])), (q12, .inl (y 0, 20, .inl (fun _ => 0)))]) hP hD [7, 8] [0, 1, 2, 3, 4, 5, 6] rfl rfl (by decide) (by decide) hk1 hFc hP1 hD1
  generalize H1 = H at hP hS ⊢
  have hP : va_P D vwCl [(h0, .inr (11, [.ref q1, .ref q2, .ref q5, .null, .null, .null, .null])), (q1, .inr (3, [.int 0, .ref e0, .int 0])), (q2, .inr (5, [.ref q3, .ref q4, .int 0])), (q3, .inl (y 1, 8, .inl (fun _ => 0))), (q4, .inl (y 1, 80, .inl (fun _ => 0))), (q5, .inr (4, [.ref q6, .int 0, .int 0])), (q6, .inl (y 0, 256, .inl (fun _ => 0))), (q7, .inr (7, [.ref q9, .int 0, .ref q8, .int 0, .int 0, .ref q7, .ref q10, .ref q11, .ref q12, .int 0, .int 0, .long 0, .int 0, .int 0, .int 0, .null, .int 0])), (q8, .inl (y 0, 0, .inl (fun _ => 0))), (q9, .inr (3, [.int 0, .ref e0, .int 0])), (q10, .inr (3, [.int 0, .ref e0, .int 0])), (q11, .inr (3, [.int 0, .ref e0, .int 0])), (q12, .inl (y 0, 20, .inl (fun _ => 0)))] H := hP
  have hD : va_D A [(h0, .inr (11, [.ref q1, .ref q2, .ref q5, .null, .null, .null, .null])), (q1, .inr (3, [.int 0, .ref e0, .int 0])), (q2, .inr (5, [.ref q3, .ref q4, .int 0])), (q3, .inl (y 1, 8, .inl (fun _ => 0))), (q4, .inl (y 1, 80, .inl (fun _ => 0))), (q5, .inr (4, [.ref q6, .int 0, .int 0])), (q6, .inl (y 0, 256, .inl (fun _ => 0))), (q7, .inr (7, [.ref q9, .int 0, .ref q8, .int 0, .int 0, .ref q7, .ref q10, .ref q11, .ref q12, .int 0, .int 0, .long 0, .int 0, .int 0, .int 0, .null, .int 0])), (q8, .inl (y 0, 0, .inl (fun _ => 0))), (q9, .inr (3, [.int 0, .ref e0, .int 0])), (q10, .inr (3, [.int 0, .ref e0, .int 0])), (q11, .inr (3, [.int 0, .ref e0, .int 0])), (q12, .inl (y 0, 20, .inl (fun _ => 0)))] := hD
  refine va_putF (D := D) (ci := 11) (v := .ref q7) (ty := (.object "SignetRing$Key")) (C := RX7) (T := TX7) (N := 7) hx hb hts (by decide +kernel) tyX7 tyX7_ok nmX7 hown hK hP hD hS 0 rfl rfl 3 (by decide) (hts (.fieldLink RX7 39 "SignetRing$Ring" "newKey" "LSignetRing$Key;") (by decide +kernel)) (fun _ h9 => h9) rfl hin rfl (by decide +kernel) rfl rfl (Nat.le_of_ble_eq_true rfl) dX7_init_52 (fun H locs hP hD hS => ?_)
  have hP : va_P D vwCl [(h0, .inr (11, [.ref q1, .ref q2, .ref q5, .ref q7, .null, .null, .null])), (q1, .inr (3, [.int 0, .ref e0, .int 0])), (q2, .inr (5, [.ref q3, .ref q4, .int 0])), (q3, .inl (y 1, 8, .inl (fun _ => 0))), (q4, .inl (y 1, 80, .inl (fun _ => 0))), (q5, .inr (4, [.ref q6, .int 0, .int 0])), (q6, .inl (y 0, 256, .inl (fun _ => 0))), (q7, .inr (7, [.ref q9, .int 0, .ref q8, .int 0, .int 0, .ref q7, .ref q10, .ref q11, .ref q12, .int 0, .int 0, .long 0, .int 0, .int 0, .int 0, .null, .int 0])), (q8, .inl (y 0, 0, .inl (fun _ => 0))), (q9, .inr (3, [.int 0, .ref e0, .int 0])), (q10, .inr (3, [.int 0, .ref e0, .int 0])), (q11, .inr (3, [.int 0, .ref e0, .int 0])), (q12, .inl (y 0, 20, .inl (fun _ => 0)))] H := hP
  have hD : va_D A [(h0, .inr (11, [.ref q1, .ref q2, .ref q5, .ref q7, .null, .null, .null])), (q1, .inr (3, [.int 0, .ref e0, .int 0])), (q2, .inr (5, [.ref q3, .ref q4, .int 0])), (q3, .inl (y 1, 8, .inl (fun _ => 0))), (q4, .inl (y 1, 80, .inl (fun _ => 0))), (q5, .inr (4, [.ref q6, .int 0, .int 0])), (q6, .inl (y 0, 256, .inl (fun _ => 0))), (q7, .inr (7, [.ref q9, .int 0, .ref q8, .int 0, .int 0, .ref q7, .ref q10, .ref q11, .ref q12, .int 0, .int 0, .long 0, .int 0, .int 0, .int 0, .null, .int 0])), (q8, .inl (y 0, 0, .inl (fun _ => 0))), (q9, .inr (3, [.int 0, .ref e0, .int 0])), (q10, .inr (3, [.int 0, .ref e0, .int 0])), (q11, .inr (3, [.int 0, .ref e0, .int 0])), (q12, .inl (y 0, 20, .inl (fun _ => 0)))] := hD
  refine lv_aload_n hx hb dX7_init_55 rfl (lv_at hl 0 rfl) ?_
  refine va_new (ci := 12) (fs := [.null, .int 0, .int 0, .int 0, .int 0, .int 0, .int 0, .int 0, .long 0, .long 0, .long 0, .int 0, .int 0, .int 0, .int 0, .int 0, .int 0, .int 0]) (C := RX8) (T := TX8) (N := 18) hx hb hts (by decide +kernel) tyX8 tyX8_ok hown (hts (.classLink RX7 43 RX8) (by decide +kernel)) (hts (.instantiable RX8 18) (by decide +kernel)) (hts (.initialized RX8) (by decide +kernel)) hK hP hD hS hA rfl (by decide) (Nat.le_of_ble_eq_true rfl) (Nat.le_of_ble_eq_true rfl) dX7_init_56 (fun q13 H hP hD hS => ?_)
  have hP : va_P D vwCl [(h0, .inr (11, [.ref q1, .ref q2, .ref q5, .ref q7, .null, .null, .null])), (q1, .inr (3, [.int 0, .ref e0, .int 0])), (q2, .inr (5, [.ref q3, .ref q4, .int 0])), (q3, .inl (y 1, 8, .inl (fun _ => 0))), (q4, .inl (y 1, 80, .inl (fun _ => 0))), (q5, .inr (4, [.ref q6, .int 0, .int 0])), (q6, .inl (y 0, 256, .inl (fun _ => 0))), (q7, .inr (7, [.ref q9, .int 0, .ref q8, .int 0, .int 0, .ref q7, .ref q10, .ref q11, .ref q12, .int 0, .int 0, .long 0, .int 0, .int 0, .int 0, .null, .int 0])), (q8, .inl (y 0, 0, .inl (fun _ => 0))), (q9, .inr (3, [.int 0, .ref e0, .int 0])), (q10, .inr (3, [.int 0, .ref e0, .int 0])), (q11, .inr (3, [.int 0, .ref e0, .int 0])), (q12, .inl (y 0, 20, .inl (fun _ => 0))), (q13, .inr (12, [.null, .int 0, .int 0, .int 0, .int 0, .int 0, .int 0, .int 0, .long 0, .long 0, .long 0, .int 0, .int 0, .int 0, .int 0, .int 0, .int 0, .int 0]))] H := hP
  have hD : va_D A [(h0, .inr (11, [.ref q1, .ref q2, .ref q5, .ref q7, .null, .null, .null])), (q1, .inr (3, [.int 0, .ref e0, .int 0])), (q2, .inr (5, [.ref q3, .ref q4, .int 0])), (q3, .inl (y 1, 8, .inl (fun _ => 0))), (q4, .inl (y 1, 80, .inl (fun _ => 0))), (q5, .inr (4, [.ref q6, .int 0, .int 0])), (q6, .inl (y 0, 256, .inl (fun _ => 0))), (q7, .inr (7, [.ref q9, .int 0, .ref q8, .int 0, .int 0, .ref q7, .ref q10, .ref q11, .ref q12, .int 0, .int 0, .long 0, .int 0, .int 0, .int 0, .null, .int 0])), (q8, .inl (y 0, 0, .inl (fun _ => 0))), (q9, .inr (3, [.int 0, .ref e0, .int 0])), (q10, .inr (3, [.int 0, .ref e0, .int 0])), (q11, .inr (3, [.int 0, .ref e0, .int 0])), (q12, .inl (y 0, 20, .inl (fun _ => 0))), (q13, .inr (12, [.null, .int 0, .int 0, .int 0, .int 0, .int 0, .int 0, .int 0, .long 0, .long 0, .long 0, .int 0, .int 0, .int 0, .int 0, .int 0, .int 0, .int 0]))] := hD
  refine lv_dup hx hb dX7_init_59 rfl ?_
  refine lv_iconst (v := 0) hx hb dX7_init_60 (by decide) ?_
  refine zz_newa (atype := .byte) (n := 0) (N' := 0) (a0 := (0, .inl (fun _ => 0))) (ty := .byte) hx hb (hts (.arrayClass .byte) (by decide +kernel)) rfl hK 0 rfl hP hD hS hA (zz_aB 0) (by decide +kernel) (by decide +kernel) (by decide +kernel) (Nat.le_of_ble_eq_true rfl) (Nat.le_of_ble_eq_true rfl) dX7_init_61 (fun q14 H hP hD hS => ?_)
  have hP : va_P D vwCl [(h0, .inr (11, [.ref q1, .ref q2, .ref q5, .ref q7, .null, .null, .null])), (q1, .inr (3, [.int 0, .ref e0, .int 0])), (q2, .inr (5, [.ref q3, .ref q4, .int 0])), (q3, .inl (y 1, 8, .inl (fun _ => 0))), (q4, .inl (y 1, 80, .inl (fun _ => 0))), (q5, .inr (4, [.ref q6, .int 0, .int 0])), (q6, .inl (y 0, 256, .inl (fun _ => 0))), (q7, .inr (7, [.ref q9, .int 0, .ref q8, .int 0, .int 0, .ref q7, .ref q10, .ref q11, .ref q12, .int 0, .int 0, .long 0, .int 0, .int 0, .int 0, .null, .int 0])), (q8, .inl (y 0, 0, .inl (fun _ => 0))), (q9, .inr (3, [.int 0, .ref e0, .int 0])), (q10, .inr (3, [.int 0, .ref e0, .int 0])), (q11, .inr (3, [.int 0, .ref e0, .int 0])), (q12, .inl (y 0, 20, .inl (fun _ => 0))), (q13, .inr (12, [.null, .int 0, .int 0, .int 0, .int 0, .int 0, .int 0, .int 0, .long 0, .long 0, .long 0, .int 0, .int 0, .int 0, .int 0, .int 0, .int 0, .int 0])), (q14, .inl (y 0, 0, .inl (fun _ => 0)))] H := hP
  have hD : va_D A [(h0, .inr (11, [.ref q1, .ref q2, .ref q5, .ref q7, .null, .null, .null])), (q1, .inr (3, [.int 0, .ref e0, .int 0])), (q2, .inr (5, [.ref q3, .ref q4, .int 0])), (q3, .inl (y 1, 8, .inl (fun _ => 0))), (q4, .inl (y 1, 80, .inl (fun _ => 0))), (q5, .inr (4, [.ref q6, .int 0, .int 0])), (q6, .inl (y 0, 256, .inl (fun _ => 0))), (q7, .inr (7, [.ref q9, .int 0, .ref q8, .int 0, .int 0, .ref q7, .ref q10, .ref q11, .ref q12, .int 0, .int 0, .long 0, .int 0, .int 0, .int 0, .null, .int 0])), (q8, .inl (y 0, 0, .inl (fun _ => 0))), (q9, .inr (3, [.int 0, .ref e0, .int 0])), (q10, .inr (3, [.int 0, .ref e0, .int 0])), (q11, .inr (3, [.int 0, .ref e0, .int 0])), (q12, .inl (y 0, 20, .inl (fun _ => 0))), (q13, .inr (12, [.null, .int 0, .int 0, .int 0, .int 0, .int 0, .int 0, .int 0, .long 0, .long 0, .long 0, .int 0, .int 0, .int 0, .int 0, .int 0, .int 0, .int 0])), (q14, .inl (y 0, 0, .inl (fun _ => 0)))] := hD
  have hPc := hP.sub (ws' := [(q13, .inr (12, [.null, .int 0, .int 0, .int 0, .int 0, .int 0, .int 0, .int 0, .long 0, .long 0, .long 0, .int 0, .int 0, .int 0, .int 0, .int 0, .int 0, .int 0])), (q14, .inl (y 0, 0, .inl (fun _ => 0)))]) [13, 14] rfl
  have hDc := hD.sub (ws' := [(q13, .inr (12, [.null, .int 0, .int 0, .int 0, .int 0, .int 0, .int 0, .int 0, .long 0, .long 0, .long 0, .int 0, .int 0, .int 0, .int 0, .int 0, .int 0, .int 0])), (q14, .inl (y 0, 0, .inl (fun _ => 0)))]) [13, 14] (by decide) rfl
  have hFc := va_free (wc := [(q13, .inr (12, [.null, .int 0, .int 0, .int 0, .int 0, .int 0, .int 0, .int 0, .long 0, .long 0, .long 0, .int 0, .int 0, .int 0, .int 0, .int 0, .int 0, .int 0])), (q14, .inl (y 0, 0, .inl (fun _ => 0)))]) hD hS hA [13, 14] rfl
  refine va_callv (va_runI (As := [.ref q14]) (rest := [.ref q13, .ref h0]) ⟨hx, hb, hml, hown, hts⟩ (c_X8_init l D y H.size q13 q14) (cwI 1 hts gz_c_X7_init_c_X8_init rfl rfl rfl (hts (.initialized RX8) (by decide +kernel)) (hts (.methodLink RX7 45 yX8_init) (by decide +kernel)) (hts (.instanceMethod yX8_init) (by decide +kernel)) rfl (by decide +kernel) ⟨(Nat.le_of_ble_eq_true rfl), (Nat.le_of_ble_eq_true rfl)⟩) (zB.preS hPc hDc hK hN hE hO hS hFc (fun _ h => nomatch h) (fun _ h => nomatch h)) rfl rfl hl.1 rfl (lv_room (Nat.le_of_ble_eq_true rfl)) dX7_init_63 ⟨(Nat.le_of_ble_eq_true rfl), (Nat.le_of_ble_eq_true rfl)⟩) hS (fun q _ h => hFc q h) hFc (fun u t H1 locs ht hvm hw hB hz1 hk1 hS => ?_)
  obtain ⟨hP1, hD1⟩ := hB
  rw [ht] at hP1
  obtain ⟨hP, hD⟩ := va_join (wr := [(h0, .inr (11, [.ref q1, .ref q2, .ref q5, .ref q7, .null, .null, .null])), (q1, .inr (3, [.int 0, .ref e0, .int 0])), (q2, .inr (5, [.ref q3, .ref q4, .int 0])), (q3, .inl (y 1, 8, .inl (fun _ => 0))), (q4, .inl (y 1, 80, .inl (fun _ => 0))), (q5, .inr (4, [.ref q6, .int 0, .int 0])), (q6, .inl (y 0, 256, .inl (fun _ => 0))), (q7, .inr (7, [.ref q9, .int 0, .ref q8, .int 0, .int 0, .ref q7, .ref q10, .ref q11, .ref q12, .int 0, .int 0, .long 0, .int 0, .int 0, .int 0, .null, .int 0])), (q8, .inl (y 0, 0, .inl (fun _ => 0))), (q9, .inr (3, [.int 0, .ref e0, .int 0])), (q10, .inr (3, [.int 0, .ref e0, .int 0])), (q11, .inr (3, [.int 0, .ref e0, .int 0])), (q12, .inl (y 0, 20, .inl (fun _ => 0)))]) (w1 := [(q13, .inr (12, [.ref q14, .int 0, .int 0, .int 0, .int 0, .int 0, .int 0, .int 0, .long 0, .long 0, .long 0, .int 0, .int 0, .int 0, .int 0, .int 0, .int 0, .int 0])), (q14, .inl (y 0, 0, .inl (fun _ => 0)))]) hP hD [13, 14] [0, 1, 2, 3, 4, 5, 6, 7, 8, 9, 10, 11, 12] rfl rfl (by decide) (by decide) hk1 hFc hP1 hD1
  generalize H1 = H at hP hS ⊢
  have hP : va_P D vwCl [(h0, .inr (11, [.ref q1, .ref q2, .ref q5, .ref q7, .null, .null, .null])), (q1, .inr (3, [.int 0, .ref e0, .int 0])), (q2, .inr (5, [.ref q3, .ref q4, .int 0])), (q3, .inl (y 1, 8, .inl (fun _ => 0))), (q4, .inl (y 1, 80, .inl (fun _ => 0))), (q5, .inr (4, [.ref q6, .int 0, .int 0])), (q6, .inl (y 0, 256, .inl (fun _ => 0))), (q7, .inr (7, [.ref q9, .int 0, .ref q8, .int 0, .int 0, .ref q7, .ref q10, .ref q11, .ref q12, .int 0, .int 0, .long 0, .int 0, .int 0, .int 0, .null, .int 0])), (q8, .inl (y 0, 0, .inl (fun _ => 0))), (q9, .inr (3, [.int 0, .ref e0, .int 0])), (q10, .inr (3, [.int 0, .ref e0, .int 0])), (q11, .inr (3, [.int 0, .ref e0, .int 0])), (q12, .inl (y 0, 20, .inl (fun _ => 0))), (q13, .inr (12, [.ref q14, .int 0, .int 0, .int 0, .int 0, .int 0, .int 0, .int 0, .long 0, .long 0, .long 0, .int 0, .int 0, .int 0, .int 0, .int 0, .int 0, .int 0])), (q14, .inl (y 0, 0, .inl (fun _ => 0)))] H := hP
  have hD : va_D A [(h0, .inr (11, [.ref q1, .ref q2, .ref q5, .ref q7, .null, .null, .null])), (q1, .inr (3, [.int 0, .ref e0, .int 0])), (q2, .inr (5, [.ref q3, .ref q4, .int 0])), (q3, .inl (y 1, 8, .inl (fun _ => 0))), (q4, .inl (y 1, 80, .inl (fun _ => 0))), (q5, .inr (4, [.ref q6, .int 0, .int 0])), (q6, .inl (y 0, 256, .inl (fun _ => 0))), (q7, .inr (7, [.ref q9, .int 0, .ref q8, .int 0, .int 0, .ref q7, .ref q10, .ref q11, .ref q12, .int 0, .int 0, .long 0, .int 0, .int 0, .int 0, .null, .int 0])), (q8, .inl (y 0, 0, .inl (fun _ => 0))), (q9, .inr (3, [.int 0, .ref e0, .int 0])), (q10, .inr (3, [.int 0, .ref e0, .int 0])), (q11, .inr (3, [.int 0, .ref e0, .int 0])), (q12, .inl (y 0, 20, .inl (fun _ => 0))), (q13, .inr (12, [.ref q14, .int 0, .int 0, .int 0, .int 0, .int 0, .int 0, .int 0, .long 0, .long 0, .long 0, .int 0, .int 0, .int 0, .int 0, .int 0, .int 0, .int 0])), (q14, .inl (y 0, 0, .inl (fun _ => 0)))] := hD
  refine va_putF (D := D) (ci := 11) (v := .ref q13) (ty := (.object "SignetRing$Seal")) (C := RX7) (T := TX7) (N := 7) hx hb hts (by decide +kernel) tyX7 tyX7_ok nmX7 hown hK hP hD hS 0 rfl rfl 4 (by decide) (hts (.fieldLink RX7 48 "SignetRing$Ring" "newSeal" "LSignetRing$Seal;") (by decide +kernel)) (fun _ h9 => h9) rfl hin rfl (by decide +kernel) rfl rfl (Nat.le_of_ble_eq_true rfl) dX7_init_66 (fun H locs hP hD hS => ?_)
  have hP : va_P D vwCl [(h0, .inr (11, [.ref q1, .ref q2, .ref q5, .ref q7, .ref q13, .null, .null])), (q1, .inr (3, [.int 0, .ref e0, .int 0])), (q2, .inr (5, [.ref q3, .ref q4, .int 0])), (q3, .inl (y 1, 8, .inl (fun _ => 0))), (q4, .inl (y 1, 80, .inl (fun _ => 0))), (q5, .inr (4, [.ref q6, .int 0, .int 0])), (q6, .inl (y 0, 256, .inl (fun _ => 0))), (q7, .inr (7, [.ref q9, .int 0, .ref q8, .int 0, .int 0, .ref q7, .ref q10, .ref q11, .ref q12, .int 0, .int 0, .long 0, .int 0, .int 0, .int 0, .null, .int 0])), (q8, .inl (y 0, 0, .inl (fun _ => 0))), (q9, .inr (3, [.int 0, .ref e0, .int 0])), (q10, .inr (3, [.int 0, .ref e0, .int 0])), (q11, .inr (3, [.int 0, .ref e0, .int 0])), (q12, .inl (y 0, 20, .inl (fun _ => 0))), (q13, .inr (12, [.ref q14, .int 0, .int 0, .int 0, .int 0, .int 0, .int 0, .int 0, .long 0, .long 0, .long 0, .int 0, .int 0, .int 0, .int 0, .int 0, .int 0, .int 0])), (q14, .inl (y 0, 0, .inl (fun _ => 0)))] H := hP
  have hD : va_D A [(h0, .inr (11, [.ref q1, .ref q2, .ref q5, .ref q7, .ref q13, .null, .null])), (q1, .inr (3, [.int 0, .ref e0, .int 0])), (q2, .inr (5, [.ref q3, .ref q4, .int 0])), (q3, .inl (y 1, 8, .inl (fun _ => 0))), (q4, .inl (y 1, 80, .inl (fun _ => 0))), (q5, .inr (4, [.ref q6, .int 0, .int 0])), (q6, .inl (y 0, 256, .inl (fun _ => 0))), (q7, .inr (7, [.ref q9, .int 0, .ref q8, .int 0, .int 0, .ref q7, .ref q10, .ref q11, .ref q12, .int 0, .int 0, .long 0, .int 0, .int 0, .int 0, .null, .int 0])), (q8, .inl (y 0, 0, .inl (fun _ => 0))), (q9, .inr (3, [.int 0, .ref e0, .int 0])), (q10, .inr (3, [.int 0, .ref e0, .int 0])), (q11, .inr (3, [.int 0, .ref e0, .int 0])), (q12, .inl (y 0, 20, .inl (fun _ => 0))), (q13, .inr (12, [.ref q14, .int 0, .int 0, .int 0, .int 0, .int 0, .int 0, .int 0, .long 0, .long 0, .long 0, .int 0, .int 0, .int 0, .int 0, .int 0, .int 0, .int 0])), (q14, .inl (y 0, 0, .inl (fun _ => 0)))] := hD
  have hP9 := hP.sub (ws' := [(h0, .inr (11, [.ref q1, .ref q2, .ref q5, .ref q7, .ref q13, .null, .null])), (q1, .inr (3, [.int 0, .ref e0, .int 0])), (q2, .inr (5, [.ref q3, .ref q4, .int 0])), (q3, .inl (y 1, 8, .inl (fun _ => 0))), (q4, .inl (y 1, 80, .inl (fun _ => 0))), (q5, .inr (4, [.ref q6, .int 0, .int 0])), (q6, .inl (y 0, 256, .inl (fun _ => 0))), (q7, .inr (7, [.ref q9, .int 0, .ref q8, .int 0, .int 0, .ref q7, .ref q10, .ref q11, .ref q12, .int 0, .int 0, .long 0, .int 0, .int 0, .int 0, .null, .int 0])), (q8, .inl (y 0, 0, .inl (fun _ => 0))), (q9, .inr (3, [.int 0, .ref e0, .int 0])), (q10, .inr (3, [.int 0, .ref e0, .int 0])), (q11, .inr (3, [.int 0, .ref e0, .int 0])), (q12, .inl (y 0, 20, .inl (fun _ => 0))), (q13, .inr (12, [.ref q14, .int 0, .int 0, .int 0, .int 0, .int 0, .int 0, .int 0, .long 0, .long 0, .long 0, .int 0, .int 0, .int 0, .int 0, .int 0, .int 0, .int 0])), (q14, .inl (y 0, 0, .inl (fun _ => 0)))]) [0, 1, 2, 3, 4, 5, 6, 7, 8, 9, 10, 11, 12, 13, 14] rfl
  have hD9 := hD.sub (ws' := [(h0, .inr (11, [.ref q1, .ref q2, .ref q5, .ref q7, .ref q13, .null, .null])), (q1, .inr (3, [.int 0, .ref e0, .int 0])), (q2, .inr (5, [.ref q3, .ref q4, .int 0])), (q3, .inl (y 1, 8, .inl (fun _ => 0))), (q4, .inl (y 1, 80, .inl (fun _ => 0))), (q5, .inr (4, [.ref q6, .int 0, .int 0])), (q6, .inl (y 0, 256, .inl (fun _ => 0))), (q7, .inr (7, [.ref q9, .int 0, .ref q8, .int 0, .int 0, .ref q7, .ref q10, .ref q11, .ref q12, .int 0, .int 0, .long 0, .int 0, .int 0, .int 0, .null, .int 0])), (q8, .inl (y 0, 0, .inl (fun _ => 0))), (q9, .inr (3, [.int 0, .ref e0, .int 0])), (q10, .inr (3, [.int 0, .ref e0, .int 0])), (q11, .inr (3, [.int 0, .ref e0, .int 0])), (q12, .inl (y 0, 20, .inl (fun _ => 0))), (q13, .inr (12, [.ref q14, .int 0, .int 0, .int 0, .int 0, .int 0, .int 0, .int 0, .long 0, .long 0, .long 0, .int 0, .int 0, .int 0, .int 0, .int 0, .int 0, .int 0])), (q14, .inl (y 0, 0, .inl (fun _ => 0)))]) [0, 1, 2, 3, 4, 5, 6, 7, 8, 9, 10, 11, 12, 13, 14] (by decide) rfl
  refine W.widen (k := 14) (n := 417) (Nat.le_of_ble_eq_true rfl) (Nat.le_of_ble_eq_true rfl) ?_
  exact W.vret hx hb hr (fun t ht hW => ⟨⟨(), rfl, trivial, q1, q2, q3, q4, q5, q6, q7, q8, q9, q10, q11, q12, q13, q14, by rw [ht]; exact hP9, hD9⟩, hS.F ht⟩) hS.2.2 dX7_init_69
def wz_c_X2_init : List Cond := .code yX2_init cX2_init 1 none :: ([.methodLink RX2 3 objectInit, .instanceMethod objectInit, .code objectInit ⟨#[0xb1]⟩ 1 none, .classLink RX2 9 RX1, .instantiable RX1 3, .initialized RX1, .instanceMethod yX1_init, .fieldLink RX2 12 "SignetRing$Judge" "digest" "LSignetRing$Digest;", .classLink RX2 18 RX0, .instantiable RX0 3, .initialized RX0, .methodLink RX2 20 yX0_init, .instanceMethod yX0_init, .fieldLink RX2 23 "SignetRing$Judge" "message" "LSignetRing$Bytes;", .classLink RX2 27 RX6, .instantiable RX6 11, .initialized RX6, .methodLink RX2 29 yX6_init, .instanceMethod yX6_init, .fieldLink RX2 30 "SignetRing$Judge" "power" "LSignetRing$Power;", .fieldLink RX2 34 "SignetRing$Judge" "frame" "LSignetRing$Bytes;", .classLink RX2 37 RX8, .instantiable RX8 18, .initialized RX8, .arrayClass .byte, .methodLink RX2 39 yX8_init, .instanceMethod yX8_init, .fieldLink RX2 42 "SignetRing$Judge" "inner" "LSignetRing$Seal;"] ++ (wsX10 ++ (wsX20 ++ (wsX00 ++ (wsX60 ++ (wsX80 ++ (wz_c_X1_init ++ (wz_c_X0_init_1024 ++ (wz_c_X6_init ++ (wz_c_X0_init_128 ++ (wz_c_X8_init ++ ([]))))))))))))
set_option maxRecDepth 100000 in
theorem gz_c_X2_init_c_X1_init : GoodIn wz_c_X2_init wz_c_X1_init := goodIn_sub (fun w h => List.mem_cons_of_mem _ (List.mem_append_right _ (List.mem_append_right _ (List.mem_append_right _ (List.mem_append_right _ (List.mem_append_right _ (List.mem_append_right _ (List.mem_append_left _ h)))))))) (by decide +kernel)
set_option maxRecDepth 100000 in
theorem gz_c_X2_init_c_X0_init_1024 : GoodIn wz_c_X2_init wz_c_X0_init_1024 := goodIn_sub (fun w h => List.mem_cons_of_mem _ (List.mem_append_right _ (List.mem_append_right _ (List.mem_append_right _ (List.mem_append_right _ (List.mem_append_right _ (List.mem_append_right _ (List.mem_append_right _ (List.mem_append_left _ h))))))))) (by decide +kernel)
set_option maxRecDepth 100000 in
theorem gz_c_X2_init_c_X6_init : GoodIn wz_c_X2_init wz_c_X6_init := goodIn_sub (fun w h => List.mem_cons_of_mem _ (List.mem_append_right _ (List.mem_append_right _ (List.mem_append_right _ (List.mem_append_right _ (List.mem_append_right _ (List.mem_append_right _ (List.mem_append_right _ (List.mem_append_right _ (List.mem_append_left _ h)))))))))) (by decide +kernel)
set_option maxRecDepth 100000 in
theorem gz_c_X2_init_c_X0_init_128 : GoodIn wz_c_X2_init wz_c_X0_init_128 := goodIn_sub (fun w h => List.mem_cons_of_mem _ (List.mem_append_right _ (List.mem_append_right _ (List.mem_append_right _ (List.mem_append_right _ (List.mem_append_right _ (List.mem_append_right _ (List.mem_append_right _ (List.mem_append_right _ (List.mem_append_right _ (List.mem_append_left _ h))))))))))) (by decide +kernel)
set_option maxRecDepth 100000 in
theorem gz_c_X2_init_c_X8_init : GoodIn wz_c_X2_init wz_c_X8_init := goodIn_sub (fun w h => List.mem_cons_of_mem _ (List.mem_append_right _ (List.mem_append_right _ (List.mem_append_right _ (List.mem_append_right _ (List.mem_append_right _ (List.mem_append_right _ (List.mem_append_right _ (List.mem_append_right _ (List.mem_append_right _ (List.mem_append_right _ (List.mem_append_left _ h)))))))))))) (by decide +kernel)
set_option maxHeartbeats 4000000 in
set_option maxRecDepth 100000 in
theorem c_X2_init (l : Launch) (D : va_G) (y : Nat → ClassId) (sz : Nat) (h0 : Nat) : Met l yX2_init wz_c_X2_init ({ frames := 3, cells := 17, slots := 1544, locals := 56 }) (va_Pc [.ref h0] (zB D y [(h0, .inr (6, [.null, .null, .null, .null, .null]))] sz [(RX2, 11, yX1_init, "SignetRing")] [])) (va_Qv (fun _ : Unit => True) (fun _ t => ∃ q1 q2 q3 q4 q5 q6 q7 q8 q9 q10 q11 q12 q13 q14 q15 q16 q17 : Nat, va_P D vwCl [(h0, .inr (6, [.ref q1, .ref q4, .ref q6, .ref q14, .ref q16])), (q1, .inr (5, [.ref q2, .ref q3, .int 0])), (q2, .inl (y 1, 8, .inl (fun _ => 0))), (q3, .inl (y 1, 80, .inl (fun _ => 0))), (q4, .inr (4, [.ref q5, .int 0, .int 0])), (q5, .inl (y 0, 1024, .inl (fun _ => 0))), (q6, .inr (10, [.ref q7, .ref q8, .ref q9, .ref q10, .ref q11, .ref q12, .ref q13, .null, .int 1, .int 0, .long 0])), (q7, .inl (y 2, 38, .inr (.inl (fun _ => 0)))), (q8, .inl (y 2, 38, .inr (.inl (fun _ => 0)))), (q9, .inl (y 2, 38, .inr (.inl (vp_updL (fun _ => 0) (0 : Int32).toNatClampNeg 1)))), (q10, .inl (y 2, 38, .inr (.inl (fun _ => 0)))), (q11, .inl (y 2, 38, .inr (.inl (fun _ => 0)))), (q12, .inl (y 2, 38, .inr (.inl (fun _ => 0)))), (q13, .inl (y 2, 38, .inr (.inl (fun _ => 0)))), (q14, .inr (4, [.ref q15, .int 0, .int 0])), (q15, .inl (y 0, 128, .inl (fun _ => 0))), (q16, .inr (12, [.ref q17, .int 0, .int 0, .int 0, .int 0, .int 0, .int 0, .int 0, .long 0, .long 0, .long 0, .int 0, .int 0, .int 0, .int 0, .int 0, .int 0, .int 0])), (q17, .inl (y 0, 0, .inl (fun _ => 0)))] t.heap ∧ va_D (va_A [(h0, .inr (6, [.null, .null, .null, .null, .null]))] sz) [(h0, .inr (6, [.ref q1, .ref q4, .ref q6, .ref q14, .ref q16])), (q1, .inr (5, [.ref q2, .ref q3, .int 0])), (q2, .inl (y 1, 8, .inl (fun _ => 0))), (q3, .inl (y 1, 80, .inl (fun _ => 0))), (q4, .inr (4, [.ref q5, .int 0, .int 0])), (q5, .inl (y 0, 1024, .inl (fun _ => 0))), (q6, .inr (10, [.ref q7, .ref q8, .ref q9, .ref q10, .ref q11, .ref q12, .ref q13, .null, .int 1, .int 0, .long 0])), (q7, .inl (y 2, 38, .inr (.inl (fun _ => 0)))), (q8, .inl (y 2, 38, .inr (.inl (fun _ => 0)))), (q9, .inl (y 2, 38, .inr (.inl (vp_updL (fun _ => 0) (0 : Int32).toNatClampNeg 1)))), (q10, .inl (y 2, 38, .inr (.inl (fun _ => 0)))), (q11, .inl (y 2, 38, .inr (.inl (fun _ => 0)))), (q12, .inl (y 2, 38, .inr (.inl (fun _ => 0)))), (q13, .inl (y 2, 38, .inr (.inl (fun _ => 0)))), (q14, .inr (4, [.ref q15, .int 0, .int 0])), (q15, .inl (y 0, 128, .inl (fun _ => 0))), (q16, .inr (12, [.ref q17, .int 0, .int 0, .int 0, .int 0, .int 0, .int 0, .int 0, .long 0, .long 0, .long 0, .int 0, .int 0, .int 0, .int 0, .int 0, .int 0, .int 0])), (q17, .inl (y 0, 0, .inl (fun _ => 0)))]) (va_A [(h0, .inr (6, [.null, .null, .null, .null, .null]))] sz)) 17 1544 (va_A [(h0, .inr (6, [.null, .null, .null, .null, .null]))] sz) := by
  refine Met.ofW (cc := cX2_init) (maxL := 1) (ret := none) (by decide) rfl ?_
  intro p e s m args below meth c s₁ B hml hv
  obtain ⟨rfl, hsz, hP, hK, hD0, hN, hE, hO⟩ := hv
  have hx := B.exec
  have hb := B.bytes
  have hr := B.returns
  have hts := atoms_spec (ws := wz_c_X2_init) B.pre
  have hown : s.vm.findClass RX2 = some m.cls := findClass_of_methodNamed B.named
  have hlocks := B.notSynchronized
  have hin : meth.name = "<init>" := (name_of_methodNamed B.named B.method).1
  subst hsz
  have hD := hD0.self (sz := s.heap.size)
  generalize hAe : va_A [(h0, .inr (6, [.null, .null, .null, .null, .null]))] s.heap.size = A at hD hE ⊢
  have hA : ∀ q : Nat, s.heap.size ≤ q → A q := fun q h => by rw [← hAe]; exact Or.inr h
  have hS : va_S A s.heap s.heap [] := va_S.rf
  have hl := lv_entry ([.ref h0]) (n := 1) (Nat.le_of_ble_eq_true rfl)
  rw [lg_entry_eq]
  generalize (lg_sl ([.ref h0]) ++ List.replicate (1 - (lg_sl ([.ref h0])).length) Slot.unset).toArray = ls at hl ⊢
  have hl : lv_has ls 1 [(0, .ref h0)] := hl
  refine lv_aload_n hx hb dX2_init_0 rfl (lv_at hl 0 rfl) ?_
  refine W.objInit hx hb hown (hts (.methodLink RX2 3 objectInit) (by decide +kernel)) (hts (.instanceMethod objectInit) (by decide +kernel)) (hts (.code objectInit ⟨#[0xb1]⟩ 1 none) (by decide +kernel)) rfl (by rw [hml]; exact hl.1) rfl dX2_init_1 (Nat.le_of_ble_eq_true rfl) (Nat.le_of_ble_eq_true rfl) ?_
  refine W.eq (g2 := F0 m 4 ls []) rfl ?_
  refine lv_aload_n hx hb dX2_init_4 rfl (lv_at hl 0 rfl) ?_
  refine va_new (ci := 5) (fs := [.null, .null, .int 0]) (C := RX1) (T := TX1) (N := 3) hx hb hts (by decide +kernel) tyX1 tyX1_ok hown (hts (.classLink RX2 9 RX1) (by decide +kernel)) (hts (.instantiable RX1 3) (by decide +kernel)) (hts (.initialized RX1) (by decide +kernel)) hK hP hD hS hA rfl (by decide) (Nat.le_of_ble_eq_true rfl) (Nat.le_of_ble_eq_true rfl) dX2_init_5 (fun q1 H hP hD hS => ?_)
  have hP : va_P D vwCl [(h0, .inr (6, [.null, .null, .null, .null, .null])), (q1, .inr (5, [.null, .null, .int 0]))] H := hP
  have hD : va_D A [(h0, .inr (6, [.null, .null, .null, .null, .null])), (q1, .inr (5, [.null, .null, .int 0]))] := hD
  refine lv_dup hx hb dX2_init_8 rfl ?_
  have hPc := hP.sub (ws' := [(q1, .inr (5, [.null, .null, .int 0]))]) [1] rfl
  have hDc := hD.sub (ws' := [(q1, .inr (5, [.null, .null, .int 0]))]) [1] (by decide) rfl
  have hFc := va_free (wc := [(q1, .inr (5, [.null, .null, .int 0]))]) hD hS hA [1] rfl
  refine va_callv (va_runIN (As := []) (rest := [.ref q1, .ref h0]) ⟨hx, hb, hml, hown, hts⟩ (c_X1_init l D y H.size q1) ⟨va_cnB 0 hts gz_c_X2_init_c_X1_init rfl rfl rfl (hN (RX2, 11, yX1_init, "SignetRing") (List.mem_of_getElem? (i := 0) rfl)) (hts (.initialized RX1) (by decide +kernel)) (by decide +kernel) ⟨(Nat.le_of_ble_eq_true rfl), (Nat.le_of_ble_eq_true rfl)⟩, rfl, (hts (.instanceMethod yX1_init) (by decide +kernel))⟩ (zB.preS hPc hDc hK hN hE hO hS hFc (fun _ h => nomatch h) (fun _ h => nomatch h)) rfl rfl hl.1 rfl (lv_room (Nat.le_of_ble_eq_true rfl)) dX2_init_9 ⟨(Nat.le_of_ble_eq_true rfl), (Nat.le_of_ble_eq_true rfl)⟩) hS (fun q _ h => hFc q h) hFc (fun u t H1 locs ht hvm hw hB hz1 hk1 hS => ?_)
  obtain ⟨q2, q3, hP1, hD1⟩ := hB
  rw [ht] at hP1
  obtain ⟨hP, hD⟩ := va_join (wr := [(h0, .inr (6, [.null, .null, .null, .null, .null]))]) (w1 := [(q1, .inr (5, [.ref q2, .ref q3, .int 0])), (q2, .inl (y 1, 8, .inl (fun _ => 0))), (q3, .inl (y 1, 80, .inl (fun _ => 0)))]) hP hD [1] [0] rfl rfl (by decide) (by decide) hk1 hFc hP1 hD1
  generalize H1 = H at hP hS ⊢
  have hP : va_P D vwCl [(h0, .inr (6, [.null, .null, .null, .null, .null])), (q1, .inr (5, [.ref q2, .ref q3, .int 0])), (q2, .inl (y 1, 8, .inl (fun _ => 0))), (q3, .inl (y 1, 80, .inl (fun _ => 0)))] H := hP
  have hD : va_D A [(h0, .inr (6, [.null, .null, .null, .null, .null])), (q1, .inr (5, [.ref q2, .ref q3, .int 0])), (q2, .inl (y 1, 8, .inl (fun _ => 0))), (q3, .inl (y 1, 80, .inl (fun _ => 0)))] := hD
  refine va_putF (D := D) (ci := 6) (v := .ref q1) (ty := (.object "SignetRing$Digest")) (C := RX2) (T := TX2) (N := 5) hx hb hts (by decide +kernel) tyX2 tyX2_ok nmX2 hown hK hP hD hS 0 rfl rfl 0 (by decide) (hts (.fieldLink RX2 12 "SignetRing$Judge" "digest" "LSignetRing$Digest;") (by decide +kernel)) (fun _ h9 => h9) rfl hin rfl (by decide +kernel) rfl rfl (Nat.le_of_ble_eq_true rfl) dX2_init_12 (fun H locs hP hD hS => ?_)
  have hP : va_P D vwCl [(h0, .inr (6, [.ref q1, .null, .null, .null, .null])), (q1, .inr (5, [.ref q2, .ref q3, .int 0])), (q2, .inl (y 1, 8, .inl (fun _ => 0))), (q3, .inl (y 1, 80, .inl (fun _ => 0)))] H := hP
  have hD : va_D A [(h0, .inr (6, [.ref q1, .null, .null, .null, .null])), (q1, .inr (5, [.ref q2, .ref q3, .int 0])), (q2, .inl (y 1, 8, .inl (fun _ => 0))), (q3, .inl (y 1, 80, .inl (fun _ => 0)))] := hD
  refine lv_aload_n hx hb dX2_init_15 rfl (lv_at hl 0 rfl) ?_
  refine va_new (ci := 4) (fs := [.null, .int 0, .int 0]) (C := RX0) (T := TX0) (N := 3) hx hb hts (by decide +kernel) tyX0 tyX0_ok hown (hts (.classLink RX2 18 RX0) (by decide +kernel)) (hts (.instantiable RX0 3) (by decide +kernel)) (hts (.initialized RX0) (by decide +kernel)) hK hP hD hS hA rfl (by decide) (Nat.le_of_ble_eq_true rfl) (Nat.le_of_ble_eq_true rfl) dX2_init_16 (fun q4 H hP hD hS => ?_)
  have hP : va_P D vwCl [(h0, .inr (6, [.ref q1, .null, .null, .null, .null])), (q1, .inr (5, [.ref q2, .ref q3, .int 0])), (q2, .inl (y 1, 8, .inl (fun _ => 0))), (q3, .inl (y 1, 80, .inl (fun _ => 0))), (q4, .inr (4, [.null, .int 0, .int 0]))] H := hP
  have hD : va_D A [(h0, .inr (6, [.ref q1, .null, .null, .null, .null])), (q1, .inr (5, [.ref q2, .ref q3, .int 0])), (q2, .inl (y 1, 8, .inl (fun _ => 0))), (q3, .inl (y 1, 80, .inl (fun _ => 0))), (q4, .inr (4, [.null, .int 0, .int 0]))] := hD
  refine lv_dup hx hb dX2_init_19 rfl ?_
  refine lv_sipush (v := 1024) hx hb dX2_init_20 (by decide) ?_
  have hPc := hP.sub (ws' := [(q4, .inr (4, [.null, .int 0, .int 0]))]) [4] rfl
  have hDc := hD.sub (ws' := [(q4, .inr (4, [.null, .int 0, .int 0]))]) [4] (by decide) rfl
  have hFc := va_free (wc := [(q4, .inr (4, [.null, .int 0, .int 0]))]) hD hS hA [4] rfl
  refine va_callv (va_runI (As := [.int 1024]) (rest := [.ref q4, .ref h0]) ⟨hx, hb, hml, hown, hts⟩ (c_X0_init_1024 l D y H.size q4) (cwI 1 hts gz_c_X2_init_c_X0_init_1024 rfl rfl rfl (hts (.initialized RX0) (by decide +kernel)) (hts (.methodLink RX2 20 yX0_init) (by decide +kernel)) (hts (.instanceMethod yX0_init) (by decide +kernel)) rfl (by decide +kernel) ⟨(Nat.le_of_ble_eq_true rfl), (Nat.le_of_ble_eq_true rfl)⟩) (zB.preS hPc hDc hK hN hE hO hS hFc (fun _ h => nomatch h) (fun _ h => nomatch h)) rfl rfl hl.1 rfl (lv_room (Nat.le_of_ble_eq_true rfl)) dX2_init_23 ⟨(Nat.le_of_ble_eq_true rfl), (Nat.le_of_ble_eq_true rfl)⟩) hS (fun q _ h => hFc q h) hFc (fun u t H1 locs ht hvm hw hB hz1 hk1 hS => ?_)
  obtain ⟨q5, hP1, hD1⟩ := hB
  rw [ht] at hP1
  obtain ⟨hP, hD⟩ := va_join (wr := [(h0, .inr (6, [.ref q1, .null, .null, .null, .null])), (q1, .inr (5, [.ref q2, .ref q3, .int 0])), (q2, .inl (y 1, 8, .inl (fun _ => 0))), (q3, .inl (y 1, 80, .inl (fun _ => 0)))]) (w1 := [(q4, .inr (4, [.ref q5, .int 0, .int 0])), (q5, .inl (y 0, 1024, .inl (fun _ => 0)))]) hP hD [4] [0, 1, 2, 3] rfl rfl (by decide) (by decide) hk1 hFc hP1 hD1
  generalize H1 = H at hP hS ⊢
  have hP : va_P D vwCl [(h0, .inr (6, [.ref q1, .null, .null, .null, .null])), (q1, .inr (5, [.ref q2, .ref q3, .int 0])), (q2, .inl (y 1, 8, .inl (fun _ => 0))), (q3, .inl (y 1, 80, .inl (fun _ => 0))), (q4, .inr (4, [.ref q5, .int 0, .int 0])), (q5, .inl (y 0, 1024, .inl (fun _ => 0)))] H := hP
  have hD : va_D A [(h0, .inr (6, [.ref q1, .null, .null, .null, .null])), (q1, .inr (5, [.ref q2, .ref q3, .int 0])), (q2, .inl (y 1, 8, .inl (fun _ => 0))), (q3, .inl (y 1, 80, .inl (fun _ => 0))), (q4, .inr (4, [.ref q5, .int 0, .int 0])), (q5, .inl (y 0, 1024, .inl (fun _ => 0)))] := hD
  refine va_putF (D := D) (ci := 6) (v := .ref q4) (ty := (.object "SignetRing$Bytes")) (C := RX2) (T := TX2) (N := 5) hx hb hts (by decide +kernel) tyX2 tyX2_ok nmX2 hown hK hP hD hS 0 rfl rfl 1 (by decide) (hts (.fieldLink RX2 23 "SignetRing$Judge" "message" "LSignetRing$Bytes;") (by decide +kernel)) (fun _ h9 => h9) rfl hin rfl (by decide +kernel) rfl rfl (Nat.le_of_ble_eq_true rfl) dX2_init_26 (fun H locs hP hD hS => ?_)
  have hP : va_P D vwCl [(h0, .inr (6, [.ref q1, .ref q4, .null, .null, .null])), (q1, .inr (5, [.ref q2, .ref q3, .int 0])), (q2, .inl (y 1, 8, .inl (fun _ => 0))), (q3, .inl (y 1, 80, .inl (fun _ => 0))), (q4, .inr (4, [.ref q5, .int 0, .int 0])), (q5, .inl (y 0, 1024, .inl (fun _ => 0)))] H := hP
  have hD : va_D A [(h0, .inr (6, [.ref q1, .ref q4, .null, .null, .null])), (q1, .inr (5, [.ref q2, .ref q3, .int 0])), (q2, .inl (y 1, 8, .inl (fun _ => 0))), (q3, .inl (y 1, 80, .inl (fun _ => 0))), (q4, .inr (4, [.ref q5, .int 0, .int 0])), (q5, .inl (y 0, 1024, .inl (fun _ => 0)))] := hD
  refine lv_aload_n hx hb dX2_init_29 rfl (lv_at hl 0 rfl) ?_
  refine va_new (ci := 10) (fs := [.null, .null, .null, .null, .null, .null, .null, .null, .int 0, .int 0, .long 0]) (C := RX6) (T := TX6) (N := 11) hx hb hts (by decide +kernel) tyX6 tyX6_ok hown (hts (.classLink RX2 27 RX6) (by decide +kernel)) (hts (.instantiable RX6 11) (by decide +kernel)) (hts (.initialized RX6) (by decide +kernel)) hK hP hD hS hA rfl (by decide) (Nat.le_of_ble_eq_true rfl) (Nat.le_of_ble_eq_true rfl) dX2_init_30 (fun q6 H hP hD hS => ?_)
  have hP : va_P D vwCl [(h0, .inr (6, [.ref q1, .ref q4, .null, .null, .null])), (q1, .inr (5, [.ref q2, .ref q3, .int 0])), (q2, .inl (y 1, 8, .inl (fun _ => 0))), (q3, .inl (y 1, 80, .inl (fun _ => 0))), (q4, .inr (4, [.ref q5, .int 0, .int 0])), (q5, .inl (y 0, 1024, .inl (fun _ => 0))), (q6, .inr (10, [.null, .null, .null, .null, .null, .null, .null, .null, .int 0, .int 0, .long 0]))] H := hP
  have hD : va_D A [(h0, .inr (6, [.ref q1, .ref q4, .null, .null, .null])), (q1, .inr (5, [.ref q2, .ref q3, .int 0])), (q2, .inl (y 1, 8, .inl (fun _ => 0))), (q3, .inl (y 1, 80, .inl (fun _ => 0))), (q4, .inr (4, [.ref q5, .int 0, .int 0])), (q5, .inl (y 0, 1024, .inl (fun _ => 0))), (q6, .inr (10, [.null, .null, .null, .null, .null, .null, .null, .null, .int 0, .int 0, .long 0]))] := hD
  refine lv_dup hx hb dX2_init_33 rfl ?_
  have hPc := hP.sub (ws' := [(q6, .inr (10, [.null, .null, .null, .null, .null, .null, .null, .null, .int 0, .int 0, .long 0]))]) [6] rfl
  have hDc := hD.sub (ws' := [(q6, .inr (10, [.null, .null, .null, .null, .null, .null, .null, .null, .int 0, .int 0, .long 0]))]) [6] (by decide) rfl
  have hFc := va_free (wc := [(q6, .inr (10, [.null, .null, .null, .null, .null, .null, .null, .null, .int 0, .int 0, .long 0]))]) hD hS hA [6] rfl
  refine va_callv (va_runI (As := []) (rest := [.ref q6, .ref h0]) ⟨hx, hb, hml, hown, hts⟩ (c_X6_init l D y H.size q6) (cwI 0 hts gz_c_X2_init_c_X6_init rfl rfl rfl (hts (.initialized RX6) (by decide +kernel)) (hts (.methodLink RX2 29 yX6_init) (by decide +kernel)) (hts (.instanceMethod yX6_init) (by decide +kernel)) rfl (by decide +kernel) ⟨(Nat.le_of_ble_eq_true rfl), (Nat.le_of_ble_eq_true rfl)⟩) (zB.preS hPc hDc hK hN hE hO hS hFc (fun _ h => nomatch h) (fun _ h => nomatch h)) rfl rfl hl.1 rfl (lv_room (Nat.le_of_ble_eq_true rfl)) dX2_init_34 ⟨(Nat.le_of_ble_eq_true rfl), (Nat.le_of_ble_eq_true rfl)⟩) hS (fun q _ h => hFc q h) hFc (fun u t H1 locs ht hvm hw hB hz1 hk1 hS => ?_)
  obtain ⟨q7, q8, q9, q10, q11, q12, q13, hP1, hD1⟩ := hB
  rw [ht] at hP1
  obtain ⟨hP, hD⟩ := va_join (wr := [(h0, .inr (6, [.ref q1, .ref q4, .null, .null, .null])), (q1, .inr (5, [.ref q2, .ref q3, .int 0])), (q2, .inl (y 1, 8, .inl (fun _ => 0))), (q3, .inl (y 1, 80, .inl (fun _ => 0))), (q4, .inr (4, [.ref q5, .int 0, .int 0])), (q5, .inl (y 0, 1024, .inl (fun _ => 0)))]) (w1 := [(q6, .inr (10, [.ref q7, .ref q8, .ref q9, .ref q10, .ref q11, .ref q12, .ref q13, .null, .int 1, .int 0, .long 0])), (q7, .inl (y 2, 38, .inr (.inl (fun _ => 0)))), (q8, .inl (y 2, 38, .inr (.inl (fun _ => 0)))), (q9, .inl (y 2, 38, .inr (.inl (vp_updL (fun _ => 0) (0 : Int32).toNatClampNeg 1)))), (q10, .inl (y 2, 38, .inr (.inl (fun _ => 0)))), (q11, .inl (y 2, 38, .inr (.inl (fun _ => 0)))), (q12, .inl (y 2, 38, .inr (.inl (fun _ => 0)))), (q13, .inl (y 2, 38, .inr (.inl (fun _ => 0))))]) hP hD [6] [0, 1, 2, 3, 4, 5] rfl rfl (by decide) (by decide) hk1 hFc hP1 hD1
  generalize H1 = H at hP hS ⊢
  have hP : va_P D vwCl [(h0, .inr (6, [.ref q1, .ref q4, .null, .null, .null])), (q1, .inr (5, [.ref q2, .ref q3, .int 0])), (q2, .inl (y 1, 8, .inl (fun _ => 0))), (q3, .inl (y 1, 80, .inl (fun _ => 0))), (q4, .inr (4, [.ref q5, .int 0, .int 0])), (q5, .inl (y 0, 1024, .inl (fun _ => 0))), (q6, .inr (10, [.ref q7, .ref q8, .ref q9, .ref q10, .ref q11, .ref q12, .ref q13, .null, .int 1, .int 0, .long 0])), (q7, .inl (y 2, 38, .inr (.inl (fun _ => 0)))), (q8, .inl (y 2, 38, .inr (.inl (fun _ => 0)))), (q9, .inl (y 2, 38, .inr (.inl (vp_updL (fun _ => 0) (0 : Int32).toNatClampNeg 1)))), (q10, .inl (y 2, 38, .inr (.inl (fun _ => 0)))), (q11, .inl (y 2, 38, .inr (.inl (fun _ => 0)))), (q12, .inl (y 2, 38, .inr (.inl (fun _ => 0)))), (q13, .inl (y 2, 38, .inr (.inl (fun _ => 0))))] H := hP
  have hD : va_D A [(h0, .inr (6, [.ref q1, .ref q4, .null, .null, .null])), (q1, .inr (5, [.ref q2, .ref q3, .int 0])), (q2, .inl (y 1, 8, .inl (fun _ => 0))), (q3, .inl (y 1, 80, .inl (fun _ => 0))), (q4, .inr (4, [.ref q5, .int 0, .int 0])), (q5, .inl (y 0, 1024, .inl (fun _ => 0))), (q6, .inr (10, [.ref q7, .ref q8, .ref q9, .ref q10, .ref q11, .ref q12, .ref q13, .null, .int 1, .int 0, .long 0])), (q7, .inl (y 2, 38, .inr (.inl (fun _ => 0)))), (q8, .inl (y 2, 38, .inr (.inl (fun _ => 0)))), (q9, .inl (y 2, 38, .inr (.inl (vp_updL (fun _ => 0) (0 : Int32).toNatClampNeg 1)))), (q10, .inl (y 2, 38, .inr (.inl (fun _ => 0)))), (q11, .inl (y 2, 38, .inr (.inl (fun _ => 0)))), (q12, .inl (y 2, 38, .inr (.inl (fun _ => 0)))), (q13, .inl (y 2, 38, .inr (.inl (fun _ => 0))))] := hD
  refine va_putF (D := D) (ci := 6) (v := .ref q6) (ty := (.object "SignetRing$Power")) (C := RX2) (T := TX2) (N := 5) hx hb hts (by decide +kernel) tyX2 tyX2_ok nmX2 hown hK hP hD hS 0 rfl rfl 2 (by decide) (hts (.fieldLink RX2 30 "SignetRing$Judge" "power" "LSignetRing$Power;") (by decide +kernel)) (fun _ h9 => h9) rfl hin rfl (by decide +kernel) rfl rfl (Nat.le_of_ble_eq_true rfl) dX2_init_37 (fun H locs hP hD hS => ?_)
  have hP : va_P D vwCl [(h0, .inr (6, [.ref q1, .ref q4, .ref q6, .null, .null])), (q1, .inr (5, [.ref q2, .ref q3, .int 0])), (q2, .inl (y 1, 8, .inl (fun _ => 0))), (q3, .inl (y 1, 80, .inl (fun _ => 0))), (q4, .inr (4, [.ref q5, .int 0, .int 0])), (q5, .inl (y 0, 1024, .inl (fun _ => 0))), (q6, .inr (10, [.ref q7, .ref q8, .ref q9, .ref q10, .ref q11, .ref q12, .ref q13, .null, .int 1, .int 0, .long 0])), (q7, .inl (y 2, 38, .inr (.inl (fun _ => 0)))), (q8, .inl (y 2, 38, .inr (.inl (fun _ => 0)))), (q9, .inl (y 2, 38, .inr (.inl (vp_updL (fun _ => 0) (0 : Int32).toNatClampNeg 1)))), (q10, .inl (y 2, 38, .inr (.inl (fun _ => 0)))), (q11, .inl (y 2, 38, .inr (.inl (fun _ => 0)))), (q12, .inl (y 2, 38, .inr (.inl (fun _ => 0)))), (q13, .inl (y 2, 38, .inr (.inl (fun _ => 0))))] H := hP
  have hD : va_D A [(h0, .inr (6, [.ref q1, .ref q4, .ref q6, .null, .null])), (q1, .inr (5, [.ref q2, .ref q3, .int 0])), (q2, .inl (y 1, 8, .inl (fun _ => 0))), (q3, .inl (y 1, 80, .inl (fun _ => 0))), (q4, .inr (4, [.ref q5, .int 0, .int 0])), (q5, .inl (y 0, 1024, .inl (fun _ => 0))), (q6, .inr (10, [.ref q7, .ref q8, .ref q9, .ref q10, .ref q11, .ref q12, .ref q13, .null, .int 1, .int 0, .long 0])), (q7, .inl (y 2, 38, .inr (.inl (fun _ => 0)))), (q8, .inl (y 2, 38, .inr (.inl (fun _ => 0)))), (q9, .inl (y 2, 38, .inr (.inl (vp_updL (fun _ => 0) (0 : Int32).toNatClampNeg 1)))), (q10, .inl (y 2, 38, .inr (.inl (fun _ => 0)))), (q11, .inl (y 2, 38, .inr (.inl (fun _ => 0)))), (q12, .inl (y 2, 38, .inr (.inl (fun _ => 0)))), (q13, .inl (y 2, 38, .inr (.inl (fun _ => 0))))] := hD
  refine lv_aload_n hx hb dX2_init_40 rfl (lv_at hl 0 rfl) ?_
  refine va_new (ci := 4) (fs := [.null, .int 0, .int 0]) (C := RX0) (T := TX0) (N := 3) hx hb hts (by decide +kernel) tyX0 tyX0_ok hown (hts (.classLink RX2 18 RX0) (by decide +kernel)) (hts (.instantiable RX0 3) (by decide +kernel)) (hts (.initialized RX0) (by decide +kernel)) hK hP hD hS hA rfl (by decide) (Nat.le_of_ble_eq_true rfl) (Nat.le_of_ble_eq_true rfl) dX2_init_41 (fun q14 H hP hD hS => ?_)
  have hP : va_P D vwCl [(h0, .inr (6, [.ref q1, .ref q4, .ref q6, .null, .null])), (q1, .inr (5, [.ref q2, .ref q3, .int 0])), (q2, .inl (y 1, 8, .inl (fun _ => 0))), (q3, .inl (y 1, 80, .inl (fun _ => 0))), (q4, .inr (4, [.ref q5, .int 0, .int 0])), (q5, .inl (y 0, 1024, .inl (fun _ => 0))), (q6, .inr (10, [.ref q7, .ref q8, .ref q9, .ref q10, .ref q11, .ref q12, .ref q13, .null, .int 1, .int 0, .long 0])), (q7, .inl (y 2, 38, .inr (.inl (fun _ => 0)))), (q8, .inl (y 2, 38, .inr (.inl (fun _ => 0)))), (q9, .inl (y 2, 38, .inr (.inl (vp_updL (fun _ => 0) (0 : Int32).toNatClampNeg 1)))), (q10, .inl (y 2, 38, .inr (.inl (fun _ => 0)))), (q11, .inl (y 2, 38, .inr (.inl (fun _ => 0)))), (q12, .inl (y 2, 38, .inr (.inl (fun _ => 0)))), (q13, .inl (y 2, 38, .inr (.inl (fun _ => 0)))), (q14, .inr (4, [.null, .int 0, .int 0]))] H := hP
  have hD : va_D A [(h0, .inr (6, [.ref q1, .ref q4, .ref q6, .null, .null])), (q1, .inr (5, [.ref q2, .ref q3, .int 0])), (q2, .inl (y 1, 8, .inl (fun _ => 0))), (q3, .inl (y 1, 80, .inl (fun _ => 0))), (q4, .inr (4, [.ref q5, .int 0, .int 0])), (q5, .inl (y 0, 1024, .inl (fun _ => 0))), (q6, .inr (10, [.ref q7, .ref q8, .ref q9, .ref q10, .ref q11, .ref q12, .ref q13, .null, .int 1, .int 0, .long 0])), (q7, .inl (y 2, 38, .inr (.inl (fun _ => 0)))), (q8, .inl (y 2, 38, .inr (.inl (fun _ => 0)))), (q9, .inl (y 2, 38, .inr (.inl (vp_updL (fun _ => 0) (0 : Int32).toNatClampNeg 1)))), (q10, .inl (y 2, 38, .inr (.inl (fun _ => 0)))), (q11, .inl (y 2, 38, .inr (.inl (fun _ => 0)))), (q12, .inl (y 2, 38, .inr (.inl (fun _ => 0)))), (q13, .inl (y 2, 38, .inr (.inl (fun _ => 0)))), (q14, .inr (4, [.null, .int 0, .int 0]))] := hD
  refine lv_dup hx hb dX2_init_44 rfl ?_
  refine lv_sipush (v := 128) hx hb dX2_init_45 (by decide) ?_
  have hPc := hP.sub (ws' := [(q14, .inr (4, [.null, .int 0, .int 0]))]) [14] rfl
  have hDc := hD.sub (ws' := [(q14, .inr (4, [.null, .int 0, .int 0]))]) [14] (by decide) rfl
  have hFc := va_free (wc := [(q14, .inr (4, [.null, .int 0, .int 0]))]) hD hS hA [14] rfl
  refine va_callv (va_runI (As := [.int 128]) (rest := [.ref q14, .ref h0]) ⟨hx, hb, hml, hown, hts⟩ (c_X0_init_128 l D y H.size q14) (cwI 1 hts gz_c_X2_init_c_X0_init_128 rfl rfl rfl (hts (.initialized RX0) (by decide +kernel)) (hts (.methodLink RX2 20 yX0_init) (by decide +kernel)) (hts (.instanceMethod yX0_init) (by decide +kernel)) rfl (by decide +kernel) ⟨(Nat.le_of_ble_eq_true rfl), (Nat.le_of_ble_eq_true rfl)⟩) (zB.preS hPc hDc hK hN hE hO hS hFc (fun _ h => nomatch h) (fun _ h => nomatch h)) rfl rfl hl.1 rfl (lv_room (Nat.le_of_ble_eq_true rfl)) dX2_init_48 ⟨(Nat.le_of_ble_eq_true rfl), (Nat.le_of_ble_eq_true rfl)⟩) hS (fun q _ h => hFc q h) hFc (fun u t H1 locs ht hvm hw hB hz1 hk1 hS => ?_)
  obtain ⟨q15, hP1, hD1⟩ := hB
  rw [ht] at hP1
  obtain ⟨hP, hD⟩ := va_join (wr := [(h0, .inr (6, [.ref q1, .ref q4, .ref q6, .null, .null])), (q1, .inr (5, [.ref q2, .ref q3, .int 0])), (q2, .inl (y 1, 8, .inl (fun _ => 0))), (q3, .inl (y 1, 80, .inl (fun _ => 0))), (q4, .inr (4, [.ref q5, .int 0, .int 0])), (q5, .inl (y 0, 1024, .inl (fun _ => 0))), (q6, .inr (10, [.ref q7, .ref q8, .ref q9, .ref q10, .ref q11, .ref q12, .ref q13, .null, .int 1, .int 0, .long 0])), (q7, .inl (y 2, 38, .inr (.inl (fun _ => 0)))), (q8, .inl (y 2, 38, .inr (.inl (fun _ => 0)))), (q9, .inl (y 2, 38, .inr (.inl (vp_updL (fun _ => 0) (0 : Int32).toNatClampNeg 1)))), (q10, .inl (y 2, 38, .inr (.inl (fun _ => 0)))), (q11, .inl (y 2, 38, .inr (.inl (fun _ => 0)))), (q12, .inl (y 2, 38, .inr (.inl (fun _ => 0)))), (q13, .inl (y 2, 38, .inr (.inl (fun _ => 0))))]) (w1 := [(q14, .inr (4, [.ref q15, .int 0, .int 0])), (q15, .inl (y 0, 128, .inl (fun _ => 0)))]) hP hD [14] [0, 1, 2, 3, 4, 5, 6, 7, 8, 9, 10, 11, 12, 13] rfl rfl (by decide) (by decide) hk1 hFc hP1 hD1
  generalize H1 = H at hP hS ⊢
  have hP : va_P D vwCl [(h0, .inr (6, [.ref q1, .ref q4, .ref q6, .null, .null])), (q1, .inr (5, [.ref q2, .ref q3, .int 0])), (q2, .inl (y 1, 8, .inl (fun _ => 0))), (q3, .inl (y 1, 80, .inl (fun _ => 0))), (q4, .inr (4, [.ref q5, .int 0, .int 0])), (q5, .inl (y 0, 1024, .inl (fun _ => 0))), (q6, .inr (10, [.ref q7, .ref q8, .ref q9, .ref q10, .ref q11, .ref q12, .ref q13, .null, .int 1, .int 0, .long 0])), (q7, .inl (y 2, 38, .inr (.inl (fun _ => 0)))), (q8, .inl (y 2, 38, .inr (.inl (fun _ => 0)))), (q9, .inl (y 2, 38, .inr (.inl (vp_updL (fun _ => 0) (0 : Int32).toNatClampNeg 1)))), (q10, .inl (y 2, 38, .inr (.inl (fun _ => 0)))), (q11, .inl (y 2, 38, .inr (.inl (fun _ => 0)))), (q12, .inl (y 2, 38, .inr (.inl (fun _ => 0)))), (q13, .inl (y 2, 38, .inr (.inl (fun _ => 0)))), (q14, .inr (4, [.ref q15, .int 0, .int 0])), (q15, .inl (y 0, 128, .inl (fun _ => 0)))] H := hP
  have hD : va_D A [(h0, .inr (6, [.ref q1, .ref q4, .ref q6, .null, .null])), (q1, .inr (5, [.ref q2, .ref q3, .int 0])), (q2, .inl (y 1, 8, .inl (fun _ => 0))), (q3, .inl (y 1, 80, .inl (fun _ => 0))), (q4, .inr (4, [.ref q5, .int 0, .int 0])), (q5, .inl (y 0, 1024, .inl (fun _ => 0))), (q6, .inr (10, [.ref q7, .ref q8, .ref q9, .ref q10, .ref q11, .ref q12, .ref q13, .null, .int 1, .int 0, .long 0])), (q7, .inl (y 2, 38, .inr (.inl (fun _ => 0)))), (q8, .inl (y 2, 38, .inr (.inl (fun _ => 0)))), (q9, .inl (y 2, 38, .inr (.inl (vp_updL (fun _ => 0) (0 : Int32).toNatClampNeg 1)))), (q10, .inl (y 2, 38, .inr (.inl (fun _ => 0)))), (q11, .inl (y 2, 38, .inr (.inl (fun _ => 0)))), (q12, .inl (y 2, 38, .inr (.inl (fun _ => 0)))), (q13, .inl (y 2, 38, .inr (.inl (fun _ => 0)))), (q14, .inr (4, [.ref q15, .int 0, .int 0])), (q15, .inl (y 0, 128, .inl (fun _ => 0)))] := hD
  refine va_putF (D := D) (ci := 6) (v := .ref q14) (ty := (.object "SignetRing$Bytes")) (C := RX2) (T := TX2) (N := 5) hx hb hts (by decide +kernel) tyX2 tyX2_ok nmX2 hown hK hP hD hS 0 rfl rfl 3 (by decide) (hts (.fieldLink RX2 34 "SignetRing$Judge" "frame" "LSignetRing$Bytes;") (by decide +kernel)) (fun _ h9 => h9) rfl hin rfl (by decide +kernel) rfl rfl (Nat.le_of_ble_eq_true rfl) dX2_init_51 (fun H locs hP hD hS => ?_)
  have hP : va_P D vwCl [(h0, .inr (6, [.ref q1, .ref q4, .ref q6, .ref q14, .null])), (q1, .inr (5, [.ref q2, .ref q3, .int 0])), (q2, .inl (y 1, 8, .inl (fun _ => 0))), (q3, .inl (y 1, 80, .inl (fun _ => 0))), (q4, .inr (4, [.ref q5, .int 0, .int 0])), (q5, .inl (y 0, 1024, .inl (fun _ => 0))), (q6, .inr (10, [.ref q7, .ref q8, .ref q9, .ref q10, .ref q11, .ref q12, .ref q13, .null, .int 1, .int 0, .long 0])), (q7, .inl (y 2, 38, .inr (.inl (fun _ => 0)))), (q8, .inl (y 2, 38, .inr (.inl (fun _ => 0)))), (q9, .inl (y 2, 38, .inr (.inl (vp_updL (fun _ => 0) (0 : Int32).toNatClampNeg 1)))), (q10, .inl (y 2, 38, .inr (.inl (fun _ => 0)))), (q11, .inl (y 2, 38, .inr (.inl (fun _ => 0)))), (q12, .inl (y 2, 38, .inr (.inl (fun _ => 0)))), (q13, .inl (y 2, 38, .inr (.inl (fun _ => 0)))), (q14, .inr (4, [.ref q15, .int 0, .int 0])), (q15, .inl (y 0, 128, .inl (fun _ => 0)))] H := hP
  have hD : va_D A [(h0, .inr (6, [.ref q1, .ref q4, .ref q6, .ref q14, .null])), (q1, .inr (5, [.ref q2, .ref q3, .int 0])), (q2, .inl (y 1, 8, .inl (fun _ => 0))), (q3, .inl (y 1, 80, .inl (fun _ => 0))), (q4, .inr (4, [.ref q5, .int 0, .int 0])), (q5, .inl (y 0, 1024, .inl (fun _ => 0))), (q6, .inr (10, [.ref q7, .ref q8, .ref q9, .ref q10, .ref q11, .ref q12, .ref q13, .null, .int 1, .int 0, .long 0])), (q7, .inl (y 2, 38, .inr (.inl (fun _ => 0)))), (q8, .inl (y 2, 38, .inr (.inl (fun _ => 0)))), (q9, .inl (y 2, 38, .inr (.inl (vp_updL (fun _ => 0) (0 : Int32).toNatClampNeg 1)))), (q10, .inl (y 2, 38, .inr (.inl (fun _ => 0)))), (q11, .inl (y 2, 38, .inr (.inl (fun _ => 0)))), (q12, .inl (y 2, 38, .inr (.inl (fun _ => 0)))), (q13, .inl (y 2, 38, .inr (.inl (fun _ => 0)))), (q14, .inr (4, [.ref q15, .int 0, .int 0])), (q15, .inl (y 0, 128, .inl (fun _ => 0)))] := hD
  refine lv_aload_n hx hb dX2_init_54 rfl (lv_at hl 0 rfl) ?_
  refine va_new (ci := 12) (fs := [.null, .int 0, .int 0, .int 0, .int 0, .int 0, .int 0, .int 0, .long 0, .long 0, .long 0, .int 0, .int 0, .int 0, .int 0, .int 0, .int 0, .int 0]) (C := RX8) (T := TX8) (N := 18) hx hb hts (by decide +kernel) tyX8 tyX8_ok hown (hts (.classLink RX2 37 RX8) (by decide +kernel)) (hts (.instantiable RX8 18) (by decide +kernel)) (hts (.initialized RX8) (by decide +kernel)) hK hP hD hS hA rfl (by decide) (Nat.le_of_ble_eq_true rfl) (Nat.le_of_ble_eq_true rfl) dX2_init_55 (fun q16 H hP hD hS => ?_)
  have hP : va_P D vwCl [(h0, .inr (6, [.ref q1, .ref q4, .ref q6, .ref q14, .null])), (q1, .inr (5, [.ref q2, .ref q3, .int 0])), (q2, .inl (y 1, 8, .inl (fun _ => 0))), (q3, .inl (y 1, 80, .inl (fun _ => 0))), (q4, .inr (4, [.ref q5, .int 0, .int 0])), (q5, .inl (y 0, 1024, .inl (fun _ => 0))), (q6, .inr (10, [.ref q7, .ref q8, .ref q9, .ref q10, .ref q11, .ref q12, .ref q13, .null, .int 1, .int 0, .long 0])), (q7, .inl (y 2, 38, .inr (.inl (fun _ => 0)))), (q8, .inl (y 2, 38, .inr (.inl (fun _ => 0)))), (q9, .inl (y 2, 38, .inr (.inl (vp_updL (fun _ => 0) (0 : Int32).toNatClampNeg 1)))), (q10, .inl (y 2, 38, .inr (.inl (fun _ => 0)))), (q11, .inl (y 2, 38, .inr (.inl (fun _ => 0)))), (q12, .inl (y 2, 38, .inr (.inl (fun _ => 0)))), (q13, .inl (y 2, 38, .inr (.inl (fun _ => 0)))), (q14, .inr (4, [.ref q15, .int 0, .int 0])), (q15, .inl (y 0, 128, .inl (fun _ => 0))), (q16, .inr (12, [.null, .int 0, .int 0, .int 0, .int 0, .int 0, .int 0, .int 0, .long 0, .long 0, .long 0, .int 0, .int 0, .int 0, .int 0, .int 0, .int 0, .int 0]))] H := hP
  have hD : va_D A [(h0, .inr (6, [.ref q1, .ref q4, .ref q6, .ref q14, .null])), (q1, .inr (5, [.ref q2, .ref q3, .int 0])), (q2, .inl (y 1, 8, .inl (fun _ => 0))), (q3, .inl (y 1, 80, .inl (fun _ => 0))), (q4, .inr (4, [.ref q5, .int 0, .int 0])), (q5, .inl (y 0, 1024, .inl (fun _ => 0))), (q6, .inr (10, [.ref q7, .ref q8, .ref q9, .ref q10, .ref q11, .ref q12, .ref q13, .null, .int 1, .int 0, .long 0])), (q7, .inl (y 2, 38, .inr (.inl (fun _ => 0)))), (q8, .inl (y 2, 38, .inr (.inl (fun _ => 0)))), (q9, .inl (y 2, 38, .inr (.inl (vp_updL (fun _ => 0) (0 : Int32).toNatClampNeg 1)))), (q10, .inl (y 2, 38, .inr (.inl (fun _ => 0)))), (q11, .inl (y 2, 38, .inr (.inl (fun _ => 0)))), (q12, .inl (y 2, 38, .inr (.inl (fun _ => 0)))), (q13, .inl (y 2, 38, .inr (.inl (fun _ => 0)))), (q14, .inr (4, [.ref q15, .int 0, .int 0])), (q15, .inl (y 0, 128, .inl (fun _ => 0))), (q16, .inr (12, [.null, .int 0, .int 0, .int 0, .int 0, .int 0, .int 0, .int 0, .long 0, .long 0, .long 0, .int 0, .int 0, .int 0, .int 0, .int 0, .int 0, .int 0]))] := hD
  refine lv_dup hx hb dX2_init_58 rfl ?_
  refine lv_iconst (v := 0) hx hb dX2_init_59 (by decide) ?_
  refine zz_newa (atype := .byte) (n := 0) (N' := 0) (a0 := (0, .inl (fun _ => 0))) (ty := .byte) hx hb (hts (.arrayClass .byte) (by decide +kernel)) rfl hK 0 rfl hP hD hS hA (zz_aB 0) (by decide +kernel) (by decide +kernel) (by decide +kernel) (Nat.le_of_ble_eq_true rfl) (Nat.le_of_ble_eq_true rfl) dX2_init_60 (fun q17 H hP hD hS => ?_)
  have hP : va_P D vwCl [(h0, .inr (6, [.ref q1, .ref q4, .ref q6, .ref q14, .null])), (q1, .inr (5, [.ref q2, .ref q3, .int 0])), (q2, .inl (y 1, 8, .inl (fun _ => 0))), (q3, .inl (y 1, 80, .inl (fun _ => 0))), (q4, .inr (4, [.ref q5, .int 0, .int 0])), (q5, .inl (y 0, 1024, .inl (fun _ => 0))), (q6, .inr (10, [.ref q7, .ref q8, .ref q9, .ref q10, .ref q11, .ref q12, .ref q13, .null, .int 1, .int 0, .long 0])), (q7, .inl (y 2, 38, .inr (.inl (fun _ => 0)))), (q8, .inl (y 2, 38, .inr (.inl (fun _ => 0)))), (q9, .inl (y 2, 38, .inr (.inl (vp_updL (fun _ => 0) (0 : Int32).toNatClampNeg 1)))), (q10, .inl (y 2, 38, .inr (.inl (fun _ => 0)))), (q11, .inl (y 2, 38, .inr (.inl (fun _ => 0)))), (q12, .inl (y 2, 38, .inr (.inl (fun _ => 0)))), (q13, .inl (y 2, 38, .inr (.inl (fun _ => 0)))), (q14, .inr (4, [.ref q15, .int 0, .int 0])), (q15, .inl (y 0, 128, .inl (fun _ => 0))), (q16, .inr (12, [.null, .int 0, .int 0, .int 0, .int 0, .int 0, .int 0, .int 0, .long 0, .long 0, .long 0, .int 0, .int 0, .int 0, .int 0, .int 0, .int 0, .int 0])), (q17, .inl (y 0, 0, .inl (fun _ => 0)))] H := hP
  have hD : va_D A [(h0, .inr (6, [.ref q1, .ref q4, .ref q6, .ref q14, .null])), (q1, .inr (5, [.ref q2, .ref q3, .int 0])), (q2, .inl (y 1, 8, .inl (fun _ => 0))), (q3, .inl (y 1, 80, .inl (fun _ => 0))), (q4, .inr (4, [.ref q5, .int 0, .int 0])), (q5, .inl (y 0, 1024, .inl (fun _ => 0))), (q6, .inr (10, [.ref q7, .ref q8, .ref q9, .ref q10, .ref q11, .ref q12, .ref q13, .null, .int 1, .int 0, .long 0])), (q7, .inl (y 2, 38, .inr (.inl (fun _ => 0)))), (q8, .inl (y 2, 38, .inr (.inl (fun _ => 0)))), (q9, .inl (y 2, 38, .inr (.inl (vp_updL (fun _ => 0) (0 : Int32).toNatClampNeg 1)))), (q10, .inl (y 2, 38, .inr (.inl (fun _ => 0)))), (q11, .inl (y 2, 38, .inr (.inl (fun _ => 0)))), (q12, .inl (y 2, 38, .inr (.inl (fun _ => 0)))), (q13, .inl (y 2, 38, .inr (.inl (fun _ => 0)))), (q14, .inr (4, [.ref q15, .int 0, .int 0])), (q15, .inl (y 0, 128, .inl (fun _ => 0))), (q16, .inr (12, [.null, .int 0, .int 0, .int 0, .int 0, .int 0, .int 0, .int 0, .long 0, .long 0, .long 0, .int 0, .int 0, .int 0, .int 0, .int 0, .int 0, .int 0])), (q17, .inl (y 0, 0, .inl (fun _ => 0)))] := hD
  have hPc := hP.sub (ws' := [(q16, .inr (12, [.null, .int 0, .int 0, .int 0, .int 0, .int 0, .int 0, .int 0, .long 0, .long 0, .long 0, .int 0, .int 0, .int 0, .int 0, .int 0, .int 0, .int 0])), (q17, .inl (y 0, 0, .inl (fun _ => 0)))]) [16, 17] rfl
  have hDc := hD.sub (ws' := [(q16, .inr (12, [.null, .int 0, .int 0, .int 0, .int 0, .int 0, .int 0, .int 0, .long 0, .long 0, .long 0, .int 0, .int 0, .int 0, .int 0, .int 0, .int 0, .int 0])), (q17, .inl (y 0, 0, .inl (fun _ => 0)))]) [16, 17] (by decide) rfl
  have hFc := va_free (wc := [(q16, .inr (12, [.null, .int 0, .int 0, .int 0, .int 0, .int 0, .int 0, .int 0, .long 0, .long 0, .long 0, .int 0, .int 0, .int 0, .int 0, .int 0, .int 0, .int 0])), (q17, .inl (y 0, 0, .inl (fun _ => 0)))]) hD hS hA [16, 17] rfl
  refine va_callv (va_runI (As := [.ref q17]) (rest := [.ref q16, .ref h0]) ⟨hx, hb, hml, hown, hts⟩ (c_X8_init l D y H.size q16 q17) (cwI 1 hts gz_c_X2_init_c_X8_init rfl rfl rfl (hts (.initialized RX8) (by decide +kernel)) (hts (.methodLink RX2 39 yX8_init) (by decide +kernel)) (hts (.instanceMethod yX8_init) (by decide +kernel)) rfl (by decide +kernel) ⟨(Nat.le_of_ble_eq_true rfl), (Nat.le_of_ble_eq_true rfl)⟩) (zB.preS hPc hDc hK hN hE hO hS hFc (fun _ h => nomatch h) (fun _ h => nomatch h)) rfl rfl hl.1 rfl (lv_room (Nat.le_of_ble_eq_true rfl)) dX2_init_62 ⟨(Nat.le_of_ble_eq_true rfl), (Nat.le_of_ble_eq_true rfl)⟩) hS (fun q _ h => hFc q h) hFc (fun u t H1 locs ht hvm hw hB hz1 hk1 hS => ?_)
  obtain ⟨hP1, hD1⟩ := hB
  rw [ht] at hP1
  obtain ⟨hP, hD⟩ := va_join (wr := [(h0, .inr (6, [.ref q1, .ref q4, .ref q6, .ref q14, .null])), (q1, .inr (5, [.ref q2, .ref q3, .int 0])), (q2, .inl (y 1, 8, .inl (fun _ => 0))), (q3, .inl (y 1, 80, .inl (fun _ => 0))), (q4, .inr (4, [.ref q5, .int 0, .int 0])), (q5, .inl (y 0, 1024, .inl (fun _ => 0))), (q6, .inr (10, [.ref q7, .ref q8, .ref q9, .ref q10, .ref q11, .ref q12, .ref q13, .null, .int 1, .int 0, .long 0])), (q7, .inl (y 2, 38, .inr (.inl (fun _ => 0)))), (q8, .inl (y 2, 38, .inr (.inl (fun _ => 0)))), (q9, .inl (y 2, 38, .inr (.inl (vp_updL (fun _ => 0) (0 : Int32).toNatClampNeg 1)))), (q10, .inl (y 2, 38, .inr (.inl (fun _ => 0)))), (q11, .inl (y 2, 38, .inr (.inl (fun _ => 0)))), (q12, .inl (y 2, 38, .inr (.inl (fun _ => 0)))), (q13, .inl (y 2, 38, .inr (.inl (fun _ => 0)))), (q14, .inr (4, [.ref q15, .int 0, .int 0])), (q15, .inl (y 0, 128, .inl (fun _ => 0)))]) (w1 := [(q16, .inr (12, [.ref q17, .int 0, .int 0, .int 0, .int 0, .int 0, .int 0, .int 0, .long 0, .long 0, .long 0, .int 0, .int 0, .int 0, .int 0, .int 0, .int 0, .int 0])), (q17, .inl (y 0, 0, .inl (fun _ => 0)))]) hP hD [16, 17] [0, 1, 2, 3, 4, 5, 6, 7, 8, 9, 10, 11, 12, 13, 14, 15] rfl rfl (by decide) (by decide) hk1 hFc hP1 hD1
  generalize H1 = H at hP hS ⊢
  have hP : va_P D vwCl [(h0, .inr (6, [.ref q1, .ref q4, .ref q6, .ref q14, .null])), (q1, .inr (5, [.ref q2, .ref q3, .int 0])), (q2, .inl (y 1, 8, .inl (fun _ => 0))), (q3, .inl (y 1, 80, .inl (fun _ => 0))), (q4, .inr (4, [.ref q5, .int 0, .int 0])), (q5, .inl (y 0, 1024, .inl (fun _ => 0))), (q6, .inr (10, [.ref q7, .ref q8, .ref q9, .ref q10, .ref q11, .ref q12, .ref q13, .null, .int 1, .int 0, .long 0])), (q7, .inl (y 2, 38, .inr (.inl (fun _ => 0)))), (q8, .inl (y 2, 38, .inr (.inl (fun _ => 0)))), (q9, .inl (y 2, 38, .inr (.inl (vp_updL (fun _ => 0) (0 : Int32).toNatClampNeg 1)))), (q10, .inl (y 2, 38, .inr (.inl (fun _ => 0)))), (q11, .inl (y 2, 38, .inr (.inl (fun _ => 0)))), (q12, .inl (y 2, 38, .inr (.inl (fun _ => 0)))), (q13, .inl (y 2, 38, .inr (.inl (fun _ => 0)))), (q14, .inr (4, [.ref q15, .int 0, .int 0])), (q15, .inl (y 0, 128, .inl (fun _ => 0))), (q16, .inr (12, [.ref q17, .int 0, .int 0, .int 0, .int 0, .int 0, .int 0, .int 0, .long 0, .long 0, .long 0, .int 0, .int 0, .int 0, .int 0, .int 0, .int 0, .int 0])), (q17, .inl (y 0, 0, .inl (fun _ => 0)))] H := hP
  have hD : va_D A [(h0, .inr (6, [.ref q1, .ref q4, .ref q6, .ref q14, .null])), (q1, .inr (5, [.ref q2, .ref q3, .int 0])), (q2, .inl (y 1, 8, .inl (fun _ => 0))), (q3, .inl (y 1, 80, .inl (fun _ => 0))), (q4, .inr (4, [.ref q5, .int 0, .int 0])), (q5, .inl (y 0, 1024, .inl (fun _ => 0))), (q6, .inr (10, [.ref q7, .ref q8, .ref q9, .ref q10, .ref q11, .ref q12, .ref q13, .null, .int 1, .int 0, .long 0])), (q7, .inl (y 2, 38, .inr (.inl (fun _ => 0)))), (q8, .inl (y 2, 38, .inr (.inl (fun _ => 0)))), (q9, .inl (y 2, 38, .inr (.inl (vp_updL (fun _ => 0) (0 : Int32).toNatClampNeg 1)))), (q10, .inl (y 2, 38, .inr (.inl (fun _ => 0)))), (q11, .inl (y 2, 38, .inr (.inl (fun _ => 0)))), (q12, .inl (y 2, 38, .inr (.inl (fun _ => 0)))), (q13, .inl (y 2, 38, .inr (.inl (fun _ => 0)))), (q14, .inr (4, [.ref q15, .int 0, .int 0])), (q15, .inl (y 0, 128, .inl (fun _ => 0))), (q16, .inr (12, [.ref q17, .int 0, .int 0, .int 0, .int 0, .int 0, .int 0, .int 0, .long 0, .long 0, .long 0, .int 0, .int 0, .int 0, .int 0, .int 0, .int 0, .int 0])), (q17, .inl (y 0, 0, .inl (fun _ => 0)))] := hD
  refine va_putF (D := D) (ci := 6) (v := .ref q16) (ty := (.object "SignetRing$Seal")) (C := RX2) (T := TX2) (N := 5) hx hb hts (by decide +kernel) tyX2 tyX2_ok nmX2 hown hK hP hD hS 0 rfl rfl 4 (by decide) (hts (.fieldLink RX2 42 "SignetRing$Judge" "inner" "LSignetRing$Seal;") (by decide +kernel)) (fun _ h9 => h9) rfl hin rfl (by decide +kernel) rfl rfl (Nat.le_of_ble_eq_true rfl) dX2_init_65 (fun H locs hP hD hS => ?_)
  have hP : va_P D vwCl [(h0, .inr (6, [.ref q1, .ref q4, .ref q6, .ref q14, .ref q16])), (q1, .inr (5, [.ref q2, .ref q3, .int 0])), (q2, .inl (y 1, 8, .inl (fun _ => 0))), (q3, .inl (y 1, 80, .inl (fun _ => 0))), (q4, .inr (4, [.ref q5, .int 0, .int 0])), (q5, .inl (y 0, 1024, .inl (fun _ => 0))), (q6, .inr (10, [.ref q7, .ref q8, .ref q9, .ref q10, .ref q11, .ref q12, .ref q13, .null, .int 1, .int 0, .long 0])), (q7, .inl (y 2, 38, .inr (.inl (fun _ => 0)))), (q8, .inl (y 2, 38, .inr (.inl (fun _ => 0)))), (q9, .inl (y 2, 38, .inr (.inl (vp_updL (fun _ => 0) (0 : Int32).toNatClampNeg 1)))), (q10, .inl (y 2, 38, .inr (.inl (fun _ => 0)))), (q11, .inl (y 2, 38, .inr (.inl (fun _ => 0)))), (q12, .inl (y 2, 38, .inr (.inl (fun _ => 0)))), (q13, .inl (y 2, 38, .inr (.inl (fun _ => 0)))), (q14, .inr (4, [.ref q15, .int 0, .int 0])), (q15, .inl (y 0, 128, .inl (fun _ => 0))), (q16, .inr (12, [.ref q17, .int 0, .int 0, .int 0, .int 0, .int 0, .int 0, .int 0, .long 0, .long 0, .long 0, .int 0, .int 0, .int 0, .int 0, .int 0, .int 0, .int 0])), (q17, .inl (y 0, 0, .inl (fun _ => 0)))] H := hP
  have hD : va_D A [(h0, .inr (6, [.ref q1, .ref q4, .ref q6, .ref q14, .ref q16])), (q1, .inr (5, [.ref q2, .ref q3, .int 0])), (q2, .inl (y 1, 8, .inl (fun _ => 0))), (q3, .inl (y 1, 80, .inl (fun _ => 0))), (q4, .inr (4, [.ref q5, .int 0, .int 0])), (q5, .inl (y 0, 1024, .inl (fun _ => 0))), (q6, .inr (10, [.ref q7, .ref q8, .ref q9, .ref q10, .ref q11, .ref q12, .ref q13, .null, .int 1, .int 0, .long 0])), (q7, .inl (y 2, 38, .inr (.inl (fun _ => 0)))), (q8, .inl (y 2, 38, .inr (.inl (fun _ => 0)))), (q9, .inl (y 2, 38, .inr (.inl (vp_updL (fun _ => 0) (0 : Int32).toNatClampNeg 1)))), (q10, .inl (y 2, 38, .inr (.inl (fun _ => 0)))), (q11, .inl (y 2, 38, .inr (.inl (fun _ => 0)))), (q12, .inl (y 2, 38, .inr (.inl (fun _ => 0)))), (q13, .inl (y 2, 38, .inr (.inl (fun _ => 0)))), (q14, .inr (4, [.ref q15, .int 0, .int 0])), (q15, .inl (y 0, 128, .inl (fun _ => 0))), (q16, .inr (12, [.ref q17, .int 0, .int 0, .int 0, .int 0, .int 0, .int 0, .int 0, .long 0, .long 0, .long 0, .int 0, .int 0, .int 0, .int 0, .int 0, .int 0, .int 0])), (q17, .inl (y 0, 0, .inl (fun _ => 0)))] := hD
  have hP9 := hP.sub (ws' := [(h0, .inr (6, [.ref q1, .ref q4, .ref q6, .ref q14, .ref q16])), (q1, .inr (5, [.ref q2, .ref q3, .int 0])), (q2, .inl (y 1, 8, .inl (fun _ => 0))), (q3, .inl (y 1, 80, .inl (fun _ => 0))), (q4, .inr (4, [.ref q5, .int 0, .int 0])), (q5, .inl (y 0, 1024, .inl (fun _ => 0))), (q6, .inr (10, [.ref q7, .ref q8, .ref q9, .ref q10, .ref q11, .ref q12, .ref q13, .null, .int 1, .int 0, .long 0])), (q7, .inl (y 2, 38, .inr (.inl (fun _ => 0)))), (q8, .inl (y 2, 38, .inr (.inl (fun _ => 0)))), (q9, .inl (y 2, 38, .inr (.inl (vp_updL (fun _ => 0) (0 : Int32).toNatClampNeg 1)))), (q10, .inl (y 2, 38, .inr (.inl (fun _ => 0)))), (q11, .inl (y 2, 38, .inr (.inl (fun _ => 0)))), (q12, .inl (y 2, 38, .inr (.inl (fun _ => 0)))), (q13, .inl (y 2, 38, .inr (.inl (fun _ => 0)))), (q14, .inr (4, [.ref q15, .int 0, .int 0])), (q15, .inl (y 0, 128, .inl (fun _ => 0))), (q16, .inr (12, [.ref q17, .int 0, .int 0, .int 0, .int 0, .int 0, .int 0, .int 0, .long 0, .long 0, .long 0, .int 0, .int 0, .int 0, .int 0, .int 0, .int 0, .int 0])), (q17, .inl (y 0, 0, .inl (fun _ => 0)))]) [0, 1, 2, 3, 4, 5, 6, 7, 8, 9, 10, 11, 12, 13, 14, 15, 16, 17] rfl
  have hD9 := hD.sub (ws' := [(h0, .inr (6, [.ref q1, .ref q4, .ref q6, .ref q14, .ref q16])), (q1, .inr (5, [.ref q2, .ref q3, .int 0])), (q2, .inl (y 1, 8, .inl (fun _ => 0))), (q3, .inl (y 1, 80, .inl (fun _ => 0))), (q4, .inr (4, [.ref q5, .int 0, .int 0])), (q5, .inl (y 0, 1024, .inl (fun _ => 0))), (q6, .inr (10, [.ref q7, .ref q8, .ref q9, .ref q10, .ref q11, .ref q12, .ref q13, .null, .int 1, .int 0, .long 0])), (q7, .inl (y 2, 38, .inr (.inl (fun _ => 0)))), (q8, .inl (y 2, 38, .inr (.inl (fun _ => 0)))), (q9, .inl (y 2, 38, .inr (.inl (vp_updL (fun _ => 0) (0 : Int32).toNatClampNeg 1)))), (q10, .inl (y 2, 38, .inr (.inl (fun _ => 0)))), (q11, .inl (y 2, 38, .inr (.inl (fun _ => 0)))), (q12, .inl (y 2, 38, .inr (.inl (fun _ => 0)))), (q13, .inl (y 2, 38, .inr (.inl (fun _ => 0)))), (q14, .inr (4, [.ref q15, .int 0, .int 0])), (q15, .inl (y 0, 128, .inl (fun _ => 0))), (q16, .inr (12, [.ref q17, .int 0, .int 0, .int 0, .int 0, .int 0, .int 0, .int 0, .long 0, .long 0, .long 0, .int 0, .int 0, .int 0, .int 0, .int 0, .int 0, .int 0])), (q17, .inl (y 0, 0, .inl (fun _ => 0)))]) [0, 1, 2, 3, 4, 5, 6, 7, 8, 9, 10, 11, 12, 13, 14, 15, 16, 17] (by decide) rfl
  refine W.widen (k := 17) (n := 1544) (Nat.le_of_ble_eq_true rfl) (Nat.le_of_ble_eq_true rfl) ?_
  exact W.vret hx hb hr (fun t ht hW => ⟨⟨(), rfl, trivial, q1, q2, q3, q4, q5, q6, q7, q8, q9, q10, q11, q12, q13, q14, q15, q16, q17, by rw [ht]; exact hP9, hD9⟩, hS.F ht⟩) hS.2.2 dX2_init_68
end
