section
-- ===== PART A: goes FIRST, ahead of the names: the tables' words, and 'selects' of the private methods out of them =====
/-- a private method of a class that the tables say can be made, by its rows of tables_1 -/
def lw_okq (q : MethodName × Nat) : Prop := (q.1.cls ≠ "java/lang/invoke/MethodHandle" ∧ q.1.cls ≠ "java/lang/invoke/VarHandle") ∧ Cond.instantiable q.1.cls q.2 ∈ tables_1 ∧ Cond.privateMethod q.1 ∈ tables_1 ∧ Cond.instanceMethod q.1 ∈ tables_1
theorem lw_p0 : lw_okq (⟨"Genericwood", "canAvoid", "(II)Z"⟩, 7) := ⟨⟨by decide +kernel, by decide +kernel⟩, List.mem_of_getElem? (i := 35) (by decide +kernel), List.mem_of_getElem? (i := 281) (by decide +kernel), List.mem_of_getElem? (i := 282) (by decide +kernel)⟩
theorem lw_p1 : lw_okq (⟨"Genericwood", "isForcedAsValued", "(II)Z"⟩, 7) := ⟨⟨by decide +kernel, by decide +kernel⟩, List.mem_of_getElem? (i := 35) (by decide +kernel), List.mem_of_getElem? (i := 482) (by decide +kernel), List.mem_of_getElem? (i := 483) (by decide +kernel)⟩
theorem lw_p2 : lw_okq (⟨"Genericwood$World", "isSo", "(II)Z"⟩, 5) := ⟨⟨by decide +kernel, by decide +kernel⟩, List.mem_of_getElem? (i := 193) (by decide +kernel), List.mem_of_getElem? (i := 519) (by decide +kernel), List.mem_of_getElem? (i := 520) (by decide +kernel)⟩
theorem lw_p3 : lw_okq (⟨"Genericwood$World", "meant", "(I)I"⟩, 5) := ⟨⟨by decide +kernel, by decide +kernel⟩, List.mem_of_getElem? (i := 193) (by decide +kernel), List.mem_of_getElem? (i := 527) (by decide +kernel), List.mem_of_getElem? (i := 528) (by decide +kernel)⟩
theorem lw_p4 : lw_okq (⟨"Genericwood$World", "isBoundSo", "(II)Z"⟩, 5) := ⟨⟨by decide +kernel, by decide +kernel⟩, List.mem_of_getElem? (i := 193) (by decide +kernel), List.mem_of_getElem? (i := 532) (by decide +kernel), List.mem_of_getElem? (i := 533) (by decide +kernel)⟩
theorem lw_p5 : lw_okq (⟨"Genericwood", "isAlikeAsBecome", "(I)Z"⟩, 7) := ⟨⟨by decide +kernel, by decide +kernel⟩, List.mem_of_getElem? (i := 35) (by decide +kernel), List.mem_of_getElem? (i := 538) (by decide +kernel), List.mem_of_getElem? (i := 539) (by decide +kernel)⟩
theorem lw_p6 : lw_okq (⟨"java/lang/Throwable", "fillInStackTrace", "(I)Ljava/lang/Throwable;"⟩, 6) := ⟨⟨by decide +kernel, by decide +kernel⟩, List.mem_of_getElem? (i := 598) (by decide +kernel), List.mem_of_getElem? (i := 596) (by decide +kernel), List.mem_of_getElem? (i := 597) (by decide +kernel)⟩
theorem lw_p7 : lw_okq (⟨"Genericwood", "needConditions", "(II)V"⟩, 7) := ⟨⟨by decide +kernel, by decide +kernel⟩, List.mem_of_getElem? (i := 35) (by decide +kernel), List.mem_of_getElem? (i := 642) (by decide +kernel), List.mem_of_getElem? (i := 643) (by decide +kernel)⟩
theorem lw_p8 : lw_okq (⟨"Genericwood", "needCondition", "(I)V"⟩, 7) := ⟨⟨by decide +kernel, by decide +kernel⟩, List.mem_of_getElem? (i := 35) (by decide +kernel), List.mem_of_getElem? (i := 646) (by decide +kernel), List.mem_of_getElem? (i := 647) (by decide +kernel)⟩
theorem lw_p9 : lw_okq (⟨"Genericwood", "needSet", "(I)V"⟩, 7) := ⟨⟨by decide +kernel, by decide +kernel⟩, List.mem_of_getElem? (i := 35) (by decide +kernel), List.mem_of_getElem? (i := 718) (by decide +kernel), List.mem_of_getElem? (i := 719) (by decide +kernel)⟩
theorem lw_p10 : lw_okq (⟨"Genericwood", "meetsAll", "(II)Z"⟩, 7) := ⟨⟨by decide +kernel, by decide +kernel⟩, List.mem_of_getElem? (i := 35) (by decide +kernel), List.mem_of_getElem? (i := 757) (by decide +kernel), List.mem_of_getElem? (i := 758) (by decide +kernel)⟩
theorem lw_p11 : lw_okq (⟨"Genericwood", "needWorld", "(I)V"⟩, 7) := ⟨⟨by decide +kernel, by decide +kernel⟩, List.mem_of_getElem? (i := 35) (by decide +kernel), List.mem_of_getElem? (i := 782) (by decide +kernel), List.mem_of_getElem? (i := 783) (by decide +kernel)⟩
theorem lw_p12 : lw_okq (⟨"Genericwood", "needRoomForNames", "(I)V"⟩, 7) := ⟨⟨by decide +kernel, by decide +kernel⟩, List.mem_of_getElem? (i := 35) (by decide +kernel), List.mem_of_getElem? (i := 794) (by decide +kernel), List.mem_of_getElem? (i := 795) (by decide +kernel)⟩
theorem lw_p13 : lw_okq (⟨"Genericwood$Names", "changed", "()V"⟩, 9) := ⟨⟨by decide +kernel, by decide +kernel⟩, List.mem_of_getElem? (i := 66) (by decide +kernel), List.mem_of_getElem? (i := 803) (by decide +kernel), List.mem_of_getElem? (i := 804) (by decide +kernel)⟩
theorem lw_p14 : lw_okq (⟨"Genericwood$Names", "rankAll", "([III)V"⟩, 9) := ⟨⟨by decide +kernel, by decide +kernel⟩, List.mem_of_getElem? (i := 66) (by decide +kernel), List.mem_of_getElem? (i := 807) (by decide +kernel), List.mem_of_getElem? (i := 808) (by decide +kernel)⟩
theorem lw_p15 : lw_okq (⟨"Genericwood", "needName", "(I)V"⟩, 7) := ⟨⟨by decide +kernel, by decide +kernel⟩, List.mem_of_getElem? (i := 35) (by decide +kernel), List.mem_of_getElem? (i := 822) (by decide +kernel), List.mem_of_getElem? (i := 823) (by decide +kernel)⟩
def lw_privs_1 : List (MethodName × Nat) := [(⟨"Genericwood", "canAvoid", "(II)Z"⟩, 7), (⟨"Genericwood", "isForcedAsValued", "(II)Z"⟩, 7), (⟨"Genericwood$World", "isSo", "(II)Z"⟩, 5), (⟨"Genericwood$World", "meant", "(I)I"⟩, 5), (⟨"Genericwood$World", "isBoundSo", "(II)Z"⟩, 5), (⟨"Genericwood", "isAlikeAsBecome", "(I)Z"⟩, 7), (⟨"java/lang/Throwable", "fillInStackTrace", "(I)Ljava/lang/Throwable;"⟩, 6), (⟨"Genericwood", "needConditions", "(II)V"⟩, 7), (⟨"Genericwood", "needCondition", "(I)V"⟩, 7), (⟨"Genericwood", "needSet", "(I)V"⟩, 7), (⟨"Genericwood", "meetsAll", "(II)Z"⟩, 7), (⟨"Genericwood", "needWorld", "(I)V"⟩, 7), (⟨"Genericwood", "needRoomForNames", "(I)V"⟩, 7), (⟨"Genericwood$Names", "changed", "()V"⟩, 9), (⟨"Genericwood$Names", "rankAll", "([III)V"⟩, 9), (⟨"Genericwood", "needName", "(I)V"⟩, 7)]
theorem lw_r1 : ∀ q ∈ lw_privs_1, lw_okq q := List.forall_mem_cons.mpr ⟨lw_p0, List.forall_mem_cons.mpr ⟨lw_p1, List.forall_mem_cons.mpr ⟨lw_p2, List.forall_mem_cons.mpr ⟨lw_p3, List.forall_mem_cons.mpr ⟨lw_p4, List.forall_mem_cons.mpr ⟨lw_p5, List.forall_mem_cons.mpr ⟨lw_p6, List.forall_mem_cons.mpr ⟨lw_p7, List.forall_mem_cons.mpr ⟨lw_p8, List.forall_mem_cons.mpr ⟨lw_p9, List.forall_mem_cons.mpr ⟨lw_p10, List.forall_mem_cons.mpr ⟨lw_p11, List.forall_mem_cons.mpr ⟨lw_p12, List.forall_mem_cons.mpr ⟨lw_p13, List.forall_mem_cons.mpr ⟨lw_p14, List.forall_mem_cons.mpr ⟨lw_p15, fun _ h => absurd h List.not_mem_nil⟩⟩⟩⟩⟩⟩⟩⟩⟩⟩⟩⟩⟩⟩⟩⟩
theorem lw_p16 : lw_okq (⟨"Genericwood$Names", "draftPart", "(III)I"⟩, 9) := ⟨⟨by decide +kernel, by decide +kernel⟩, List.mem_of_getElem? (i := 66) (by decide +kernel), List.mem_of_getElem? (i := 949) (by decide +kernel), List.mem_of_getElem? (i := 950) (by decide +kernel)⟩
theorem lw_p17 : lw_okq (⟨"Genericwood$Names", "isDrafted", "(II)Z"⟩, 9) := ⟨⟨by decide +kernel, by decide +kernel⟩, List.mem_of_getElem? (i := 66) (by decide +kernel), List.mem_of_getElem? (i := 955) (by decide +kernel), List.mem_of_getElem? (i := 956) (by decide +kernel)⟩
theorem lw_p18 : lw_okq (⟨"Genericwood", "needTerm", "(I)V"⟩, 7) := ⟨⟨by decide +kernel, by decide +kernel⟩, List.mem_of_getElem? (i := 35) (by decide +kernel), List.mem_of_getElem? (i := 972) (by decide +kernel), List.mem_of_getElem? (i := 973) (by decide +kernel)⟩
theorem lw_p19 : lw_okq (⟨"Genericwood", "needRoomForFormula", "()V"⟩, 7) := ⟨⟨by decide +kernel, by decide +kernel⟩, List.mem_of_getElem? (i := 35) (by decide +kernel), List.mem_of_getElem? (i := 978) (by decide +kernel), List.mem_of_getElem? (i := 979) (by decide +kernel)⟩
theorem lw_p20 : lw_okq (⟨"Genericwood", "needFormula", "(I)V"⟩, 7) := ⟨⟨by decide +kernel, by decide +kernel⟩, List.mem_of_getElem? (i := 35) (by decide +kernel), List.mem_of_getElem? (i := 998) (by decide +kernel), List.mem_of_getElem? (i := 999) (by decide +kernel)⟩
theorem lw_p21 : lw_okq (⟨"Genericwood", "needClosed", "(I)V"⟩, 7) := ⟨⟨by decide +kernel, by decide +kernel⟩, List.mem_of_getElem? (i := 35) (by decide +kernel), List.mem_of_getElem? (i := 1042) (by decide +kernel), List.mem_of_getElem? (i := 1043) (by decide +kernel)⟩
theorem lw_p22 : lw_okq (⟨"GenericwoodModel", "no", "(ZI)Z"⟩, 5) := ⟨⟨by decide +kernel, by decide +kernel⟩, List.mem_of_getElem? (i := 1141) (by decide +kernel), List.mem_of_getElem? (i := 1210) (by decide +kernel), List.mem_of_getElem? (i := 1211) (by decide +kernel)⟩
theorem lw_p23 : lw_okq (⟨"java/util/ArrayList", "add", "(Ljava/lang/Object;[Ljava/lang/Object;I)V"⟩, 3) := ⟨⟨by decide +kernel, by decide +kernel⟩, List.mem_of_getElem? (i := 1147) (by decide +kernel), List.mem_of_getElem? (i := 1243) (by decide +kernel), List.mem_of_getElem? (i := 1244) (by decide +kernel)⟩
theorem lw_p24 : lw_okq (⟨"java/util/ArrayList", "grow", "()[Ljava/lang/Object;"⟩, 3) := ⟨⟨by decide +kernel, by decide +kernel⟩, List.mem_of_getElem? (i := 1147) (by decide +kernel), List.mem_of_getElem? (i := 1247) (by decide +kernel), List.mem_of_getElem? (i := 1248) (by decide +kernel)⟩
theorem lw_p25 : lw_okq (⟨"java/util/ArrayList", "grow", "(I)[Ljava/lang/Object;"⟩, 3) := ⟨⟨by decide +kernel, by decide +kernel⟩, List.mem_of_getElem? (i := 1147) (by decide +kernel), List.mem_of_getElem? (i := 1251) (by decide +kernel), List.mem_of_getElem? (i := 1252) (by decide +kernel)⟩
theorem lw_p26 : lw_okq (⟨"GenericwoodModel", "isCondition", "(I)Z"⟩, 5) := ⟨⟨by decide +kernel, by decide +kernel⟩, List.mem_of_getElem? (i := 1141) (by decide +kernel), List.mem_of_getElem? (i := 1307) (by decide +kernel), List.mem_of_getElem? (i := 1308) (by decide +kernel)⟩
theorem lw_p27 : lw_okq (⟨"GenericwoodModel", "isUnder", "(II)Z"⟩, 5) := ⟨⟨by decide +kernel, by decide +kernel⟩, List.mem_of_getElem? (i := 1141) (by decide +kernel), List.mem_of_getElem? (i := 1314) (by decide +kernel), List.mem_of_getElem? (i := 1315) (by decide +kernel)⟩
theorem lw_p28 : lw_okq (⟨"GenericwoodModel", "fits", "(II)Z"⟩, 5) := ⟨⟨by decide +kernel, by decide +kernel⟩, List.mem_of_getElem? (i := 1141) (by decide +kernel), List.mem_of_getElem? (i := 1425) (by decide +kernel), List.mem_of_getElem? (i := 1426) (by decide +kernel)⟩
theorem lw_p29 : lw_okq (⟨"GenericwoodModel", "ends", "()I"⟩, 5) := ⟨⟨by decide +kernel, by decide +kernel⟩, List.mem_of_getElem? (i := 1141) (by decide +kernel), List.mem_of_getElem? (i := 1433) (by decide +kernel), List.mem_of_getElem? (i := 1434) (by decide +kernel)⟩
theorem lw_p30 : lw_okq (⟨"GenericwoodModel", "isSet", "(I)Z"⟩, 5) := ⟨⟨by decide +kernel, by decide +kernel⟩, List.mem_of_getElem? (i := 1141) (by decide +kernel), List.mem_of_getElem? (i := 1441) (by decide +kernel), List.mem_of_getElem? (i := 1442) (by decide +kernel)⟩
theorem lw_p31 : lw_okq (⟨"GenericwoodModel", "apart", "(I)Z"⟩, 5) := ⟨⟨by decide +kernel, by decide +kernel⟩, List.mem_of_getElem? (i := 1141) (by decide +kernel), List.mem_of_getElem? (i := 1445) (by decide +kernel), List.mem_of_getElem? (i := 1446) (by decide +kernel)⟩
def lw_privs_2 : List (MethodName × Nat) := [(⟨"Genericwood$Names", "draftPart", "(III)I"⟩, 9), (⟨"Genericwood$Names", "isDrafted", "(II)Z"⟩, 9), (⟨"Genericwood", "needTerm", "(I)V"⟩, 7), (⟨"Genericwood", "needRoomForFormula", "()V"⟩, 7), (⟨"Genericwood", "needFormula", "(I)V"⟩, 7), (⟨"Genericwood", "needClosed", "(I)V"⟩, 7), (⟨"GenericwoodModel", "no", "(ZI)Z"⟩, 5), (⟨"java/util/ArrayList", "add", "(Ljava/lang/Object;[Ljava/lang/Object;I)V"⟩, 3), (⟨"java/util/ArrayList", "grow", "()[Ljava/lang/Object;"⟩, 3), (⟨"java/util/ArrayList", "grow", "(I)[Ljava/lang/Object;"⟩, 3), (⟨"GenericwoodModel", "isCondition", "(I)Z"⟩, 5), (⟨"GenericwoodModel", "isUnder", "(II)Z"⟩, 5), (⟨"GenericwoodModel", "fits", "(II)Z"⟩, 5), (⟨"GenericwoodModel", "ends", "()I"⟩, 5), (⟨"GenericwoodModel", "isSet", "(I)Z"⟩, 5), (⟨"GenericwoodModel", "apart", "(I)Z"⟩, 5)]
theorem lw_r2 : ∀ q ∈ lw_privs_2, lw_okq q := List.forall_mem_cons.mpr ⟨lw_p16, List.forall_mem_cons.mpr ⟨lw_p17, List.forall_mem_cons.mpr ⟨lw_p18, List.forall_mem_cons.mpr ⟨lw_p19, List.forall_mem_cons.mpr ⟨lw_p20, List.forall_mem_cons.mpr ⟨lw_p21, List.forall_mem_cons.mpr ⟨lw_p22, List.forall_mem_cons.mpr ⟨lw_p23, List.forall_mem_cons.mpr ⟨lw_p24, List.forall_mem_cons.mpr ⟨lw_p25, List.forall_mem_cons.mpr ⟨lw_p26, List.forall_mem_cons.mpr ⟨lw_p27, List.forall_mem_cons.mpr ⟨lw_p28, List.forall_mem_cons.mpr ⟨lw_p29, List.forall_mem_cons.mpr ⟨lw_p30, List.forall_mem_cons.mpr ⟨lw_p31, fun _ h => absurd h List.not_mem_nil⟩⟩⟩⟩⟩⟩⟩⟩⟩⟩⟩⟩⟩⟩⟩⟩
theorem lw_p32 : lw_okq (⟨"GenericwoodModel", "filters", "(I)Z"⟩, 5) := ⟨⟨by decide +kernel, by decide +kernel⟩, List.mem_of_getElem? (i := 1141) (by decide +kernel), List.mem_of_getElem? (i := 1462) (by decide +kernel), List.mem_of_getElem? (i := 1463) (by decide +kernel)⟩
theorem lw_p33 : lw_okq (⟨"GenericwoodModel", "endsBelow", "(I)I"⟩, 5) := ⟨⟨by decide +kernel, by decide +kernel⟩, List.mem_of_getElem? (i := 1141) (by decide +kernel), List.mem_of_getElem? (i := 1478) (by decide +kernel), List.mem_of_getElem? (i := 1479) (by decide +kernel)⟩
theorem lw_p34 : lw_okq (⟨"GenericwoodModel", "isWorld", "(I)Z"⟩, 5) := ⟨⟨by decide +kernel, by decide +kernel⟩, List.mem_of_getElem? (i := 1141) (by decide +kernel), List.mem_of_getElem? (i := 1490) (by decide +kernel), List.mem_of_getElem? (i := 1491) (by decide +kernel)⟩
theorem lw_p35 : lw_okq (⟨"GenericwoodModel", "isName", "(I)Z"⟩, 5) := ⟨⟨by decide +kernel, by decide +kernel⟩, List.mem_of_getElem? (i := 1141) (by decide +kernel), List.mem_of_getElem? (i := 1519) (by decide +kernel), List.mem_of_getElem? (i := 1520) (by decide +kernel)⟩
theorem lw_p36 : lw_okq (⟨"GenericwoodModel", "rankOf", "(I)I"⟩, 5) := ⟨⟨by decide +kernel, by decide +kernel⟩, List.mem_of_getElem? (i := 1141) (by decide +kernel), List.mem_of_getElem? (i := 1527) (by decide +kernel), List.mem_of_getElem? (i := 1528) (by decide +kernel)⟩
theorem lw_p37 : lw_okq (⟨"java/util/ArrayList", "fastRemove", "([Ljava/lang/Object;I)V"⟩, 3) := ⟨⟨by decide +kernel, by decide +kernel⟩, List.mem_of_getElem? (i := 1147) (by decide +kernel), List.mem_of_getElem? (i := 1540) (by decide +kernel), List.mem_of_getElem? (i := 1541) (by decide +kernel)⟩
theorem lw_p38 : lw_okq (⟨"GenericwoodModel", "make", "(I)I"⟩, 5) := ⟨⟨by decide +kernel, by decide +kernel⟩, List.mem_of_getElem? (i := 1141) (by decide +kernel), List.mem_of_getElem? (i := 1566) (by decide +kernel), List.mem_of_getElem? (i := 1567) (by decide +kernel)⟩
theorem lw_p39 : lw_okq (⟨"GenericwoodModel", "ofCode", "(I)I"⟩, 5) := ⟨⟨by decide +kernel, by decide +kernel⟩, List.mem_of_getElem? (i := 1141) (by decide +kernel), List.mem_of_getElem? (i := 1570) (by decide +kernel), List.mem_of_getElem? (i := 1571) (by decide +kernel)⟩
theorem lw_p40 : lw_okq (⟨"GenericwoodModel", "becoming", "(II)I"⟩, 5) := ⟨⟨by decide +kernel, by decide +kernel⟩, List.mem_of_getElem? (i := 1141) (by decide +kernel), List.mem_of_getElem? (i := 1578) (by decide +kernel), List.mem_of_getElem? (i := 1579) (by decide +kernel)⟩
theorem lw_p41 : lw_okq (⟨"GenericwoodModel", "worlds", "(IIZ)I"⟩, 5) := ⟨⟨by decide +kernel, by decide +kernel⟩, List.mem_of_getElem? (i := 1141) (by decide +kernel), List.mem_of_getElem? (i := 1586) (by decide +kernel), List.mem_of_getElem? (i := 1587) (by decide +kernel)⟩
theorem lw_p42 : lw_okq (⟨"GenericwoodModel", "isTerm", "(I)Z"⟩, 5) := ⟨⟨by decide +kernel, by decide +kernel⟩, List.mem_of_getElem? (i := 1141) (by decide +kernel), List.mem_of_getElem? (i := 1610) (by decide +kernel), List.mem_of_getElem? (i := 1611) (by decide +kernel)⟩
theorem lw_p43 : lw_okq (⟨"GenericwoodModel", "keep", "(LGenericwoodModel$Formula;I)I"⟩, 5) := ⟨⟨by decide +kernel, by decide +kernel⟩, List.mem_of_getElem? (i := 1141) (by decide +kernel), List.mem_of_getElem? (i := 1645) (by decide +kernel), List.mem_of_getElem? (i := 1646) (by decide +kernel)⟩
theorem lw_p44 : lw_okq (⟨"GenericwoodModel", "isFormula", "(I)Z"⟩, 5) := ⟨⟨by decide +kernel, by decide +kernel⟩, List.mem_of_getElem? (i := 1141) (by decide +kernel), List.mem_of_getElem? (i := 1653) (by decide +kernel), List.mem_of_getElem? (i := 1654) (by decide +kernel)⟩
theorem lw_p45 : lw_okq (⟨"GenericwoodModel", "deep", "(I)I"⟩, 5) := ⟨⟨by decide +kernel, by decide +kernel⟩, List.mem_of_getElem? (i := 1141) (by decide +kernel), List.mem_of_getElem? (i := 1657) (by decide +kernel), List.mem_of_getElem? (i := 1658) (by decide +kernel)⟩
theorem lw_p46 : lw_okq (⟨"GenericwoodModel", "freeOf", "(I)I"⟩, 5) := ⟨⟨by decide +kernel, by decide +kernel⟩, List.mem_of_getElem? (i := 1141) (by decide +kernel), List.mem_of_getElem? (i := 1673) (by decide +kernel), List.mem_of_getElem? (i := 1674) (by decide +kernel)⟩
theorem lw_p47 : lw_okq (⟨"GenericwoodModel", "valueOf", "(I)I"⟩, 5) := ⟨⟨by decide +kernel, by decide +kernel⟩, List.mem_of_getElem? (i := 1141) (by decide +kernel), List.mem_of_getElem? (i := 1684) (by decide +kernel), List.mem_of_getElem? (i := 1685) (by decide +kernel)⟩
def lw_privs_3 : List (MethodName × Nat) := [(⟨"GenericwoodModel", "filters", "(I)Z"⟩, 5), (⟨"GenericwoodModel", "endsBelow", "(I)I"⟩, 5), (⟨"GenericwoodModel", "isWorld", "(I)Z"⟩, 5), (⟨"GenericwoodModel", "isName", "(I)Z"⟩, 5), (⟨"GenericwoodModel", "rankOf", "(I)I"⟩, 5), (⟨"java/util/ArrayList", "fastRemove", "([Ljava/lang/Object;I)V"⟩, 3), (⟨"GenericwoodModel", "make", "(I)I"⟩, 5), (⟨"GenericwoodModel", "ofCode", "(I)I"⟩, 5), (⟨"GenericwoodModel", "becoming", "(II)I"⟩, 5), (⟨"GenericwoodModel", "worlds", "(IIZ)I"⟩, 5), (⟨"GenericwoodModel", "isTerm", "(I)Z"⟩, 5), (⟨"GenericwoodModel", "keep", "(LGenericwoodModel$Formula;I)I"⟩, 5), (⟨"GenericwoodModel", "isFormula", "(I)Z"⟩, 5), (⟨"GenericwoodModel", "deep", "(I)I"⟩, 5), (⟨"GenericwoodModel", "freeOf", "(I)I"⟩, 5), (⟨"GenericwoodModel", "valueOf", "(I)I"⟩, 5)]
theorem lw_r3 : ∀ q ∈ lw_privs_3, lw_okq q := List.forall_mem_cons.mpr ⟨lw_p32, List.forall_mem_cons.mpr ⟨lw_p33, List.forall_mem_cons.mpr ⟨lw_p34, List.forall_mem_cons.mpr ⟨lw_p35, List.forall_mem_cons.mpr ⟨lw_p36, List.forall_mem_cons.mpr ⟨lw_p37, List.forall_mem_cons.mpr ⟨lw_p38, List.forall_mem_cons.mpr ⟨lw_p39, List.forall_mem_cons.mpr ⟨lw_p40, List.forall_mem_cons.mpr ⟨lw_p41, List.forall_mem_cons.mpr ⟨lw_p42, List.forall_mem_cons.mpr ⟨lw_p43, List.forall_mem_cons.mpr ⟨lw_p44, List.forall_mem_cons.mpr ⟨lw_p45, List.forall_mem_cons.mpr ⟨lw_p46, List.forall_mem_cons.mpr ⟨lw_p47, fun _ h => absurd h List.not_mem_nil⟩⟩⟩⟩⟩⟩⟩⟩⟩⟩⟩⟩⟩⟩⟩⟩
theorem lw_p48 : lw_okq (⟨"GenericwoodModel", "isSo", "(II[I)Z"⟩, 5) := ⟨⟨by decide +kernel, by decide +kernel⟩, List.mem_of_getElem? (i := 1141) (by decide +kernel), List.mem_of_getElem? (i := 1688) (by decide +kernel), List.mem_of_getElem? (i := 1689) (by decide +kernel)⟩
theorem lw_p49 : lw_okq (⟨"GenericwoodModel", "code", "(II[I)I"⟩, 5) := ⟨⟨by decide +kernel, by decide +kernel⟩, List.mem_of_getElem? (i := 1141) (by decide +kernel), List.mem_of_getElem? (i := 1692) (by decide +kernel), List.mem_of_getElem? (i := 1693) (by decide +kernel)⟩
theorem lw_p50 : lw_okq (⟨"GenericwoodModel", "weak", "(II[I)Z"⟩, 5) := ⟨⟨by decide +kernel, by decide +kernel⟩, List.mem_of_getElem? (i := 1141) (by decide +kernel), List.mem_of_getElem? (i := 1710) (by decide +kernel), List.mem_of_getElem? (i := 1711) (by decide +kernel)⟩
theorem lw_p51 : lw_okq (⟨"GenericwoodModel", "weakIn", "(III)Z"⟩, 5) := ⟨⟨by decide +kernel, by decide +kernel⟩, List.mem_of_getElem? (i := 1141) (by decide +kernel), List.mem_of_getElem? (i := 1717) (by decide +kernel), List.mem_of_getElem? (i := 1718) (by decide +kernel)⟩
theorem lw_p52 : lw_okq (⟨"GenericwoodModel", "weakLike", "(III)Z"⟩, 5) := ⟨⟨by decide +kernel, by decide +kernel⟩, List.mem_of_getElem? (i := 1141) (by decide +kernel), List.mem_of_getElem? (i := 1721) (by decide +kernel), List.mem_of_getElem? (i := 1722) (by decide +kernel)⟩
theorem lw_p53 : lw_okq (⟨"GenericwoodModel", "keepsOrder", "()Z"⟩, 5) := ⟨⟨by decide +kernel, by decide +kernel⟩, List.mem_of_getElem? (i := 1141) (by decide +kernel), List.mem_of_getElem? (i := 1744) (by decide +kernel), List.mem_of_getElem? (i := 1745) (by decide +kernel)⟩
theorem lw_p54 : lw_okq (⟨"GenericwoodModel", "moved", "(II)I"⟩, 5) := ⟨⟨by decide +kernel, by decide +kernel⟩, List.mem_of_getElem? (i := 1141) (by decide +kernel), List.mem_of_getElem? (i := 1756) (by decide +kernel), List.mem_of_getElem? (i := 1757) (by decide +kernel)⟩
def lw_privs_4 : List (MethodName × Nat) := [(⟨"GenericwoodModel", "isSo", "(II[I)Z"⟩, 5), (⟨"GenericwoodModel", "code", "(II[I)I"⟩, 5), (⟨"GenericwoodModel", "weak", "(II[I)Z"⟩, 5), (⟨"GenericwoodModel", "weakIn", "(III)Z"⟩, 5), (⟨"GenericwoodModel", "weakLike", "(III)Z"⟩, 5), (⟨"GenericwoodModel", "keepsOrder", "()Z"⟩, 5), (⟨"GenericwoodModel", "moved", "(II)I"⟩, 5)]
theorem lw_r4 : ∀ q ∈ lw_privs_4, lw_okq q := List.forall_mem_cons.mpr ⟨lw_p48, List.forall_mem_cons.mpr ⟨lw_p49, List.forall_mem_cons.mpr ⟨lw_p50, List.forall_mem_cons.mpr ⟨lw_p51, List.forall_mem_cons.mpr ⟨lw_p52, List.forall_mem_cons.mpr ⟨lw_p53, List.forall_mem_cons.mpr ⟨lw_p54, fun _ h => absurd h List.not_mem_nil⟩⟩⟩⟩⟩⟩⟩
def lw_privs : List (MethodName × Nat) := lw_privs_1 ++ (lw_privs_2 ++ (lw_privs_3 ++ (lw_privs_4)))
def lw_tbl : List Cond := k2_sels lw_privs ++ tables_1
theorem lw_privs_ok : ∀ q ∈ lw_privs, lw_okq q := by
  show ∀ q ∈ lw_privs_1 ++ (lw_privs_2 ++ (lw_privs_3 ++ (lw_privs_4))), lw_okq q
  exact List.forall_mem_append.mpr ⟨lw_r1, List.forall_mem_append.mpr ⟨lw_r2, List.forall_mem_append.mpr ⟨lw_r3, lw_r4⟩⟩⟩
/-- the streams that the claim lets the run draw from -/
abbrev lw_cs : List Choice := [Jvm.Choice.named "NaN.bits"]
theorem lw_bits : nanBits ∈ lw_cs := by first | decide | exact List.mem_cons_self | simp [lw_cs, nanBits]
-- ===== end of PART A; then your names; then what follows =====
/-! ===== BEGIN words of one list among another's, by their places ===== -/
theorem goodIn_r {big : List Cond} (ws : List Cond) (ps : List Nat) (hp : ws = ps.filterMap (fun i => big[i]?)) (h : ws.all goodWord = true) : GoodIn big ws := by
  intro w hw
  have h1 := List.all_eq_true.mp h w hw
  rw [hp] at hw
  obtain ⟨i, -, hi⟩ := List.mem_filterMap.mp hw
  have hm : w ∈ big := by first | exact List.mem_of_getElem? hi | exact List.getElem?_mem hi
  exact ⟨hm, good_of_word h1⟩
theorem goodIn_app {big a b : List Cond} (ha : GoodIn big a) (hb : GoodIn big b) : GoodIn big (a ++ b) := fun w h => (List.mem_append.mp h).elim (ha w) (hb w)
theorem goodIn_ca {big a b : List Cond} {c : Cond} (ha : GoodIn big (c :: a)) (hb : GoodIn big b) : GoodIn big (c :: (a ++ b)) := fun w h => (List.mem_cons.mp h).elim (fun e => ha w (List.mem_cons.mpr (Or.inl e))) (fun h => (List.mem_append.mp h).elim (fun h => ha w (List.mem_cons.mpr (Or.inr h))) (hb w))
theorem goodIn_sub {big ws : List Cond} (hm : ∀ w ∈ ws, w ∈ big) (h : ws.all goodWord = true) : GoodIn big ws := fun w hw => ⟨hm w hw, good_of_word (List.all_eq_true.mp h w hw)⟩
/-! ===== END ===== -/

/-! ===== BEGIN exceptions that leave a method, and their catching by the caller (launches without stack traces) ===== -/
section VXA
/-! The laws vx_back, vx_callV, vx_callS, vx_callSW, vx_throw0, vx_throwS follow proofs of the library, with one case more: JvmDerived/Free/Laws.lean (Back.of_free), Shelf42/LK1.lean (callV, callS), Shelf/KitTraced.lean (throwNew0V, throwNewS). -/
/-- where a method has thrown q: the class by its name, the cell, what was written, the world -/
def vx_T (XC : String → State → State → Prop) (st : State) (q : Addr) (t : State) (mc ms : Nat) (free : Addr → Prop) : Prop :=
  ∃ (E : String) (ce : Cell) (L : List Loc), XC E st t ∧ t.heap[q]? = some ce ∧ ce.vm = .none ∧ st.vm.findClass E = some ce.cls ∧ st.WarmedH t.vm ∧ st.sameButNew ({ t with vm := st.vm } : State) L mc ms ∧ ∀ z ∈ L, free z.base
def vx_Q (Qc : Array Value → State → Outcome → State → Prop) (XC : String → State → State → Prop) (mc ms : Nat) (free : Addr → Prop) : Array Value → State → Outcome → State → Prop := fun a st o t =>
  (Qc a st o t ∧ ∃ L, FrameEnd st o t L mc ms ∧ ∀ q ∈ L, free q.base) ∨ ∃ q, o = .threw q ∧ vx_T XC st q t mc ms free
/-- a callee that returns or throws -/
def vx_Met (l : Launch) (y : MethodName) (ws : List Cond) (rm : Room) (Pc : Array Value → State → Prop) (Qc : Array Value → State → Outcome → State → Prop) (XC : String → State → State → Prop) (mc ms : Nat) (free : Addr → Prop) : Prop :=
  MetFree l y (headSpec ws rm) Pc (fun _ _ _ _ _ => True) (vx_Q Qc XC mc ms free)
def vx_Post (XC : String → State → State → Prop) (mc ms : Nat) (free : Addr → Prop) : Pt → Array Value → Addr → Pt → Prop := fun A a q B =>
  ∃ (g : JFrame) (mk : MethodId) (t : State) (L : List Loc) (E : String) (ce : Cell), B.U.heap = t.heap ∧ B.U.vm = t.vm ∧ XC E (A.U.calling g mk a) t ∧ t.heap[q]? = some ce ∧ ce.vm = .none ∧ A.U.vm.findClass E = some ce.cls ∧ B.locs = A.locs ++ L ∧ (∀ z ∈ L, free z.base) ∧ B.cells = A.cells + mc ∧ B.slots = A.slots + ms
def vx_Back (l : Launch) (R : Room) (p : Program) (e : Env) (below : List Frame) (s : State) (sargs : Array Value) (y : MethodName) (len W9 : Nat)
    (Pre : Pt → Array Value → Prop) (Post : Pt → Array Value → Option Value → Pt → Prop) (PostX : Pt → Array Value → Addr → Pt → Prop) : Prop :=
  ∀ (m : MethodId) (meth : Method) (c : Code) (A : Pt) (g : JFrame) (ig : Instr) (mk : MethodId) (a : Array Value),
    Stand p l e R s m sargs below meth c A.U A.locs A.cells A.slots → g.method = m → g.locals.size = c.maxLocals → decode c.code g.pc = .ok (ig, len) →
    2 * g.monitorRoom + (g.stack.map fun v => v.category).sum ≤ W9 → A.U.methodNamed? y = some mk → Pre A a →
    (∃ (v : Option Value) (B : Pt), Stand p l e R s m sargs below meth c B.U B.locs B.cells B.slots ∧ Post A a v B ∧
      Steps p.tables e below (doInvoke e (A.U.setTop g) [] mk a).1 (B.U.setTop { g with pc := g.pc + len, stack := v.toList ++ g.stack })) ∨
    (∃ (q : Addr) (B : Pt), Stand p l e R s m sargs below meth c B.U B.locs B.cells B.slots ∧ PostX A a q B ∧
      Steps p.tables e below (doInvoke e (A.U.setTop g) [] mk a).1 ((B.U.setTop g).pushFrame (.throwing q)))
section Payer
variable {l : Launch} {R : Room} {p : Program} {e : Env} {below : List Frame} {s : State} {sargs : Array Value} {y : MethodName} {len W9 : Nat}
theorem vx_back {ws : List Cond} {rm : Room} {Pc : Array Value → State → Prop} {Qc : Array Value → State → Outcome → State → Prop} {XC : String → State → State → Prop} {mc ms : Nat} {free : Addr → Prop} {bytes : ByteArray} {maxL : Nat} {ret : Option FieldType}
    (hM : vx_Met l y ws rm Pc Qc XC mc ms free) (hblind : FrameBlind Pc) (hrc : rm.cells = mc) (hrs : rm.slots = ms)
    (hframes : rm.frames + 1 ≤ R.frames) (hlocals : W9 + (maxL + 11) + rm.locals ≤ R.locals)
    (hws : ∀ w ∈ ws, ∀ a' U, s.WarmedH U.vm → w.before a' U = true) (hcode : Cond.code y bytes maxL ret ∈ ws) (hinit : ∀ a' U, s.WarmedH U.vm → (Cond.initialized y.cls).before a' U = true) :
    vx_Back l R p e below s sargs y len W9 (PreOf R mc ms Pc) (PostOf Qc mc ms free) (vx_Post XC mc ms free) := by
  intro m meth c A g ig mk a X hg hsize hdg hW hn hp
  have h1 : (headSpec ws rm).pre.before a A.U = true := atoms_intro fun w hw => hws w hw _ _ X.warmed
  have h2 : (Cond.code y bytes maxL ret).before a A.U = true := hws _ hcode _ _ X.warmed
  have h3 : (Cond.initialized y.cls).before a A.U = true := hinit _ _ X.warmed
  have h4 : A.cells + (headSpec ws rm).room.cells ≤ R.cells := by rw [show (headSpec ws rm).room.cells = mc from hrc]; exact hp.1
  have h5 : A.slots + (headSpec ws rm).room.slots ≤ R.slots := by rw [show (headSpec ws rm).room.slots = ms from hrs]; exact hp.2.1
  have hPc : Pc a (A.U.calling g mk a) := hblind _ _ _ _ hp.2.2
  obtain ⟨U, Ls, c0, s0⟩ := A
  dsimp only [Pt.U, Pt.locs, Pt.cells, Pt.slots] at h1 h2 h3 h4 h5 X hn hPc ⊢
  obtain ⟨methY, cY, hmY, hcY, -, hlY, -, -, -, -⟩ := Cond.code_spec hn h2
  obtain ⟨kY, hkY, -⟩ := className_of_methodNamed hn
  have hinitY : kY.init = .initialized := Cond.initialized_spec (findClass_of_methodNamed hn) hkY h3
  have h : At U g.method c below := by rw [hg]; exact X.here
  have hlocals9 : W9 + (maxL + 11) + (headSpec ws rm).room.locals ≤ R.locals := hlocals
  have happ : (headSpec ws rm).appliesLoose y e.platform (U.calling g mk a) = true :=
    Spec.appliesLoose_calling (g := g) h hdg hn hkY hinitY
      (X.room_calling (g := g) (R' := (headSpec ws rm).room) hsize hmY hcY hframes (by rw [hlY]; omega) h4 h5) h1
  obtain ⟨mid, hmid⟩ := h.above
  have hfr : (U.setTop g).frames = (.java g :: mid) ++ below := by rw [State.frames_setTop' g h.top, hmid]; rfl
  obtain ⟨o, s₂, hsteps, -, hend, hq⟩ := Steps.callFree hM p X.admits X.cas X.clock (acts := []) hfr happ hPc trivial
  have hq' : vx_Q Qc XC mc ms free a (U.calling g mk a) o s₂ := hq
  rw [State.frames_setTop' g h.top] at hend
  obtain ⟨g₀, hg0⟩ := Option.isSome_iff_exists.mp h.top
  obtain ⟨r, hr⟩ := State.topJava?_eq_some.mp hg0
  have hr' : (({ U with heap := s₂.heap, slotsUsed := s₂.slotsUsed } : State).setVm s₂.vm).frames = .java g₀ :: r := hr
  rcases hq' with ⟨hqc, L, hfe, hL⟩ | ⟨q, rfl, E, ce, L, hx, hce, hcv, hcl, hW₂, hsm, hL⟩
  · obtain ⟨⟨v, rfl⟩, hW₂, e2, q2, q3, q4, q5, q6⟩ := id hfe
    have e3 : s₂ = ({ (U.calling g mk a).setFrames s₂.frames with heap := s₂.heap, slotsUsed := s₂.slotsUsed } : State).setVm s₂.vm := by
      have : s₂ = ({ s₂ with vm := (U.calling g mk a).vm } : State).setVm s₂.vm := rfl
      rw [e2] at this
      exact this
    obtain ⟨c₂, i₂, len₂, hc₂, hd₂, hf₂⟩ := hend
    have hW' : U.WarmedH s₂.vm := hW₂
    have hcc : c₂ = c := by
      have h1 : s₂.code? g.method = U.code? g.method := by
        rw [State.code?_eq, State.code?_eq, hW'.alike.method?]
      exact Option.some.inj (hc₂.symm.trans (h1.trans h.code))
    subst hcc
    have hlen : len₂ = len := by rw [hdg] at hd₂; cases hd₂; rfl
    subst hlen
    have hs₂ : s₂ = (({ U with heap := s₂.heap, slotsUsed := s₂.slotsUsed } : State).setVm s₂.vm).setTop { g with pc := g.pc + len₂, stack := v.toList ++ g.stack } := by
      refine e3.trans ?_
      rw [hf₂, State.calling_eq h.top, State.setFrames_setFrames, State.setTop_of_frames _ hr', hr]
      rfl
    have hsame : U.sameButNew ({ U with heap := s₂.heap, slotsUsed := s₂.slotsUsed } : State) L mc ms := by
      refine ⟨?_, q2, q3, q4, q5, q6⟩
      obtain ⟨t, ht, -⟩ := State.frames_cons hr
      show ({ U with heap := s₂.heap, slotsUsed := s₂.slotsUsed } : State) = { U.setFrames U.frames with heap := s₂.heap, slotsUsed := s₂.slotsUsed }
      rw [State.setFrames_self ht]
    subst hg
    refine Or.inl ⟨v, ⟨(({ U with heap := s₂.heap, slotsUsed := s₂.slotsUsed } : State).setVm s₂.vm), Ls ++ L, c0 + mc, s0 + ms⟩,
      ⟨X.admits, X.cas, X.clock, X.frames, X.room, X.hears, X.method, X.code, (X.here.setHeapUsed s₂.heap s₂.slotsUsed).setVm hW'.alike, X.tail, State.WarmedH.trans X.warmed hW', X.limits, X.bytes, X.same.trans (hsame.setVm s.vm)⟩,
      ⟨g, mk, s₂, L, rfl, rfl, hqc, rfl, hL, rfl, rfl⟩, ?_⟩
    show Steps p.tables e below _ ((({ U with heap := s₂.heap, slotsUsed := s₂.slotsUsed } : State).setVm s₂.vm).setTop { g with pc := g.pc + len₂, stack := v.toList ++ g.stack })
    rw [← hs₂]
    exact hsteps
  · obtain ⟨e2, q2, q3, q4, q5, q6⟩ := id hsm
    have e3 : s₂ = ({ (U.calling g mk a).setFrames s₂.frames with heap := s₂.heap, slotsUsed := s₂.slotsUsed } : State).setVm s₂.vm := by
      have : s₂ = ({ s₂ with vm := (U.calling g mk a).vm } : State).setVm s₂.vm := rfl
      rw [e2] at this
      exact this
    have hf₂ : s₂.frames = .throwing q :: .java g :: U.frames.tail := hend
    have hW' : U.WarmedH s₂.vm := hW₂
    have hs₂ : s₂ = ((({ U with heap := s₂.heap, slotsUsed := s₂.slotsUsed } : State).setVm s₂.vm).setTop g).pushFrame (.throwing q) := by
      refine e3.trans ?_
      rw [hf₂, State.calling_eq h.top, State.setFrames_setFrames, State.pushFrame, State.frames_setTop _ hr', State.setTop_of_frames _ hr', State.setFrames_setFrames, hr]
      rfl
    have hsame : U.sameButNew ({ U with heap := s₂.heap, slotsUsed := s₂.slotsUsed } : State) L mc ms := by
      refine ⟨?_, q2, q3, q4, q5, q6⟩
      obtain ⟨t, ht, -⟩ := State.frames_cons hr
      show ({ U with heap := s₂.heap, slotsUsed := s₂.slotsUsed } : State) = { U.setFrames U.frames with heap := s₂.heap, slotsUsed := s₂.slotsUsed }
      rw [State.setFrames_self ht]
    subst hg
    refine Or.inr ⟨q, ⟨(({ U with heap := s₂.heap, slotsUsed := s₂.slotsUsed } : State).setVm s₂.vm), Ls ++ L, c0 + mc, s0 + ms⟩,
      ⟨X.admits, X.cas, X.clock, X.frames, X.room, X.hears, X.method, X.code, (X.here.setHeapUsed s₂.heap s₂.slotsUsed).setVm hW'.alike, X.tail, State.WarmedH.trans X.warmed hW', X.limits, X.bytes, X.same.trans (hsame.setVm s.vm)⟩,
      ⟨g, mk, s₂, L, E, ce, rfl, rfl, hx, hce, hcv, hcl, rfl, hL, rfl, rfl⟩, ?_⟩
    show Steps p.tables e below _ (((({ U with heap := s₂.heap, slotsUsed := s₂.slotsUsed } : State).setVm s₂.vm).setTop g).pushFrame (.throwing q))
    rw [← hs₂]
    exact hsteps
end Payer
section Calls
variable {p : Program} {l : Launch} {e : Env} {R : Room} {s : State} {m : MethodId} {args : Array Value} {below : List Frame} {meth : Method} {c : Code} {T : State} {locs : List Loc} {cells slots : Nat}
theorem vx_callV (X : Stand p l e R s m args below meth c T locs cells slots) (hexec : p.tables.exec = Jvm.exec) {own C : String} {index : Nat} {y : MethodName} {bytes : ByteArray} {maxL : Nat} {ret : Option FieldType}
    (hown : s.vm.findClass own = some m.cls) (hlink : (Cond.methodLink own index y).before args s = true) (hinst : (Cond.instanceMethod y).before args s = true) (hsel : (Cond.selects C y y).before args s = true)
    (hcode : (Cond.code y bytes maxL ret).before args s = true) (hy : y.cls ≠ "java/lang/invoke/MethodHandle" ∧ y.cls ≠ "java/lang/invoke/VarHandle")
    {W9 : Nat} {Pre : Pt → Array Value → Prop} {Post : Pt → Array Value → Option Value → Pt → Prop} {PostX : Pt → Array Value → Addr → Pt → Prop} (hK : vx_Back l R p e below s args y 3 W9 Pre Post PostX)
    {b : Addr} {cellB : Cell} (hcell : T.heap[b]? = some cellB) (hobj : cellB.vm.isStatics = false) (hcls : s.vm.findClass C = some cellB.cls)
    {g : JFrame} (hg : g.method = m) (hsize : g.locals.size = c.maxLocals) {argsL rest : List Value} (hlen : ∀ sig, parseMethodDescriptor y.desc = some sig → argsL.length = sig.parameters.length)
    (hstack : g.stack = argsL.reverse ++ .ref b :: rest) (hW : 2 * g.monitorRoom + (rest.map fun v => v.category).sum ≤ W9) (hdg : decode c.code g.pc = .ok (.invokevirtual index, 3))
    (hpre : ∀ vm₁, s.WarmedH vm₁ → Pre ⟨T.setVm vm₁, locs, cells, slots⟩ (Value.ref b :: argsL).toArray) :
    (∃ (v : Option Value) (vm₁ : Vm) (B : Pt), s.WarmedH vm₁ ∧ Stand p l e R s m args below meth c B.U B.locs B.cells B.slots ∧ Post ⟨T.setVm vm₁, locs, cells, slots⟩ (Value.ref b :: argsL).toArray v B ∧
      ∀ target, Steps p.tables e below (B.U.setTop { g with pc := g.pc + 3, stack := v.toList ++ rest }) target → Steps p.tables e below (T.setTop g) target) ∨
    (∃ (q : Addr) (vm₁ : Vm) (B : Pt), s.WarmedH vm₁ ∧ Stand p l e R s m args below meth c B.U B.locs B.cells B.slots ∧ PostX ⟨T.setVm vm₁, locs, cells, slots⟩ (Value.ref b :: argsL).toArray q B ∧
      Steps p.tables e below (T.setTop g) ((B.U.setTop { g with stack := rest }).pushFrame (.throwing q))) := by
  obtain ⟨mk, methM, hnamed, hmethM, hstM, habM⟩ := Cond.instanceMethod_spec hinst
  obtain ⟨methM', cM, hmethM', -, -, -, -, -, -, hsigM⟩ := Cond.code_spec hnamed hcode
  cases hmethM.symm.trans hmethM'
  obtain ⟨c2, r2, m2, q1, q2, q3, q4, kP, hkP, hkPi⟩ := Cond.selects_spec hsel
  cases hcls.symm.trans q1
  cases (State.methodFound?_of_named hnamed hy).symm.trans q2
  cases hnamed.symm.trans q3
  have hselP : selectMethod e.platform s.vm cellB.cls mk = .method mk := by rw [Launch.admits_selectMethod X.admits]; exact q4
  obtain ⟨vm₁, X₁, hstep₁⟩ := X.invokevirtual hexec hown hlink hnamed hmethM hstM hkP hkPi hy (a := b) (cell := cellB) hcell
    (fun z h => by rw [h] at hobj; cases hobj) hselP hmethM habM hkP hkPi (g := g) hg (argsL := argsL) (rest := rest) (hlen _ hsigM) hstack hdg
  rcases hK m meth c ⟨T.setVm vm₁, locs, cells, slots⟩ { g with stack := rest } (.invokevirtual index) mk (Value.ref b :: argsL).toArray X₁ hg hsize hdg hW (X₁.named hnamed) (hpre vm₁ X₁.warmed) with ⟨v, B, X', hpost, hsteps⟩ | ⟨q, B, X', hpost, hsteps⟩
  · exact Or.inl ⟨v, vm₁, B, X₁.warmed, X', hpost, fun target h => hstep₁ _ fun acts => by rw [doInvoke_state]; exact hsteps.trans h⟩
  · exact Or.inr ⟨q, vm₁, B, X₁.warmed, X', hpost, hstep₁ _ fun acts => by rw [doInvoke_state]; exact hsteps⟩
theorem vx_callS (X : Stand p l e R s m args below meth c T locs cells slots) (hexec : p.tables.exec = Jvm.exec) {own : String} {index : Nat} {y : MethodName} {bytes : ByteArray} {maxL : Nat} {ret : Option FieldType}
    (hown : s.vm.findClass own = some m.cls) (hlink : (Cond.methodLink own index y).before args s = true) (hstat : (Cond.static y).before args s = true) (hinit : (Cond.initialized y.cls).before args s = true)
    (hcode : (Cond.code y bytes maxL ret).before args s = true) (hy : y.cls ≠ "java/lang/invoke/MethodHandle" ∧ y.cls ≠ "java/lang/invoke/VarHandle")
    {W9 : Nat} {Pre : Pt → Array Value → Prop} {Post : Pt → Array Value → Option Value → Pt → Prop} {PostX : Pt → Array Value → Addr → Pt → Prop} (hK : vx_Back l R p e below s args y 3 W9 Pre Post PostX)
    {g : JFrame} (hg : g.method = m) (hsize : g.locals.size = c.maxLocals) {argsL rest : List Value} (hlen : ∀ sig, parseMethodDescriptor y.desc = some sig → argsL.length = sig.parameters.length)
    (hstack : g.stack = argsL.reverse ++ rest) (hW : 2 * g.monitorRoom + (rest.map fun v => v.category).sum ≤ W9) (hdg : decode c.code g.pc = .ok (.invokestatic index, 3))
    (hpre : ∀ vm₁, s.WarmedH vm₁ → Pre ⟨T.setVm vm₁, locs, cells, slots⟩ argsL.toArray) :
    (∃ (v : Option Value) (vm₁ : Vm) (B : Pt), s.WarmedH vm₁ ∧ Stand p l e R s m args below meth c B.U B.locs B.cells B.slots ∧ Post ⟨T.setVm vm₁, locs, cells, slots⟩ argsL.toArray v B ∧
      ∀ target, Steps p.tables e below (B.U.setTop { g with pc := g.pc + 3, stack := v.toList ++ rest }) target → Steps p.tables e below (T.setTop g) target) ∨
    (∃ (q : Addr) (vm₁ : Vm) (B : Pt), s.WarmedH vm₁ ∧ Stand p l e R s m args below meth c B.U B.locs B.cells B.slots ∧ PostX ⟨T.setVm vm₁, locs, cells, slots⟩ argsL.toArray q B ∧
      Steps p.tables e below (T.setTop g) ((B.U.setTop { g with stack := rest }).pushFrame (.throwing q))) := by
  obtain ⟨mk, hnamed⟩ := Cond.code_named hcode
  obtain ⟨methM, cM, hmethM, -, -, -, -, -, -, hsigM⟩ := Cond.code_spec hnamed hcode
  have hstatic : methM.isStatic = true := Cond.static_spec hnamed hmethM hstat
  obtain ⟨kP, hkP, -⟩ := className_of_methodNamed hnamed
  have hinitP : kP.init = .initialized := Cond.initialized_spec (findClass_of_methodNamed hnamed) hkP hinit
  obtain ⟨vm₁, X₁, hstep₁⟩ := X.invokestatic hexec hown hlink hnamed hmethM hstatic hkP hinitP hy (g := g) hg (argsL := argsL) (rest := rest) (hlen _ hsigM) hstack hdg
  rcases hK m meth c ⟨T.setVm vm₁, locs, cells, slots⟩ { g with stack := rest } (.invokestatic index) mk argsL.toArray X₁ hg hsize hdg hW (X₁.named hnamed) (hpre vm₁ X₁.warmed) with ⟨v, B, X', hpost, hsteps⟩ | ⟨q, B, X', hpost, hsteps⟩
  · exact Or.inl ⟨v, vm₁, B, X₁.warmed, X', hpost, fun target h => hstep₁ _ fun acts => by rw [doInvoke_state]; exact hsteps.trans h⟩
  · exact Or.inr ⟨q, vm₁, B, X₁.warmed, X', hpost, hstep₁ _ fun acts => by rw [doInvoke_state]; exact hsteps⟩
end Calls
theorem vx_cls {s : State} {T : State} {vm₁ : Vm} {E : String} {k : ClassId} (hW : s.WarmedH vm₁) (h : (T.setVm vm₁).vm.findClass E = some k) : s.vm.findClass E = some k := by
  have h1 : vm₁.findClass E = some k := h
  rw [hW.alike.findClass] at h1
  exact h1
/-- the method's frame g, with q thrown over it -/
def vx_W (p : Program) (l : Launch) (e : Env) (R : Room) (s : State) (m : MethodId) (args : Array Value) (below : List Frame) (meth : Method) (c : Code) (H : Heap) (locs : List Loc) (cells slots : Nat) (Q : State → Prop) (g : JFrame) (q : Addr) : Prop :=
  ∀ T : State, T.heap = H → Stand p l e R s m args below meth c T locs cells slots → ∃ t, Steps p.tables e below ((T.setTop g).pushFrame (.throwing q)) t ∧ Q t
def vx_Run (p : Program) (l : Launch) (e : Env) (R : Room) (s : State) (m : MethodId) (args : Array Value) (below : List Frame) (meth : Method) (c : Code) (H : Heap) (locs : List Loc) (cells slots mc ms : Nat) (g : JFrame) (rest : List Value) (Qa : State → Outcome → State → Prop) (XC : String → State → State → Prop) (free : Addr → Prop) : Prop :=
  ∀ T : State, T.heap = H → Stand p l e R s m args below meth c T locs cells slots →
    (∃ (v : Option Value) (st₀ t T' : State) (L : List Loc), st₀.heap = H ∧ Stand p l e R s m args below meth c T' (locs ++ L) (cells + mc) (slots + ms) ∧ (∀ q ∈ L, free q.base) ∧ T'.heap = t.heap ∧ T'.vm = t.vm ∧ Qa st₀ (.returned v) t ∧
      Goes p e below T g T' { g with pc := g.pc + 3, stack := v.toList ++ rest }) ∨
    (∃ (q : Addr) (st₀ t T' : State) (L : List Loc) (E : String) (ce : Cell), st₀.heap = H ∧ Stand p l e R s m args below meth c T' (locs ++ L) (cells + mc) (slots + ms) ∧ (∀ z ∈ L, free z.base) ∧ T'.heap = t.heap ∧ T'.vm = t.vm ∧ XC E st₀ t ∧ t.heap[q]? = some ce ∧ ce.vm = .none ∧ s.vm.findClass E = some ce.cls ∧
      Steps p.tables e below (T.setTop g) ((T'.setTop { g with stack := rest }).pushFrame (.throwing q)))
def vx_X {S : Type} (px : S → Prop) (B : String → S → State → Prop) (A : Nat → Prop) : String → State → State → Prop := fun E st t => ∃ u : S, px u ∧ B E u t ∧ va_F A st t
section Runs
variable {p : Program} {l : Launch} {e : Env} {R : Room} {s : State} {m : MethodId} {args : Array Value} {below : List Frame} {meth : Method} {c : Code} {H : Heap} {locs : List Loc} {cells slots : Nat}
variable {y : MethodName} {bytes cc : ByteArray} {maxL nL mc ms n index : Nat} {ret : Option FieldType} {ws : List Cond} {rm : Room} {Pc : Array Value → State → Prop} {Qc : Array Value → State → Outcome → State → Prop} {XC : String → State → State → Prop} {free : Addr → Prop} {Ts : List Cond} {own C : String} {b : Addr} {As rest : List Value} {g : JFrame}
theorem vx_callBack (cb : CallB R s args own index y bytes maxL ret ws rm mc ms n) (hM : vx_Met l y ws rm Pc Qc XC mc ms free) (hbl : FrameBlind Pc) : vx_Back l R p e below s args y 3 8 (PreOf R mc ms Pc) (PostOf Qc mc ms free) (vx_Post XC mc ms free) := by
  obtain ⟨hrc, hrs, hfr, hlo, hws, hcw, -, hini, -⟩ := cb
  exact vx_back (bytes := bytes) (maxL := maxL) (ret := ret) hM hbl hrc hrs hfr hlo hws hcw (fun a' U hW => word_at hW (Or.inl (by first | rfl | simp [Cond.onTables, Cond.keeps, Cond.steady])) hini)
theorem vx_runV (S : CallFix p m c cc nL s args Ts own) (hM : vx_Met l y ws rm Pc Qc XC mc ms free) (cw : CallW R s args own C index y bytes maxL ret ws rm mc ms n) (hp : PreV s H C b Pc As)
    (hg : g.method = m) (hn : As.length = n) (hsize : g.locals.size = nL) (hstack : g.stack = As.reverse ++ .ref b :: rest) (hW : 2 * g.monitorRoom + (rest.map fun v => v.category).sum ≤ 8) (hdg : decode cc g.pc = .ok (.invokevirtual index, 3)) (hf : cells + mc ≤ R.cells ∧ slots + ms ≤ R.slots) :
    vx_Run p l e R s m args below meth c H locs cells slots mc ms g rest (Qc (Value.ref b :: As).toArray) XC free := by
  have hK : vx_Back l R p e below s args y 3 8 (PreOf R mc ms Pc) (PostOf Qc mc ms free) (vx_Post XC mc ms free) := vx_callBack cw.1 hM hp.1
  obtain ⟨⟨-, -, -, -, -, -, hcode, -, hy, hlen, hl⟩, hin, hse⟩ := cw
  obtain ⟨hx, hb, hml, ho, -⟩ := S
  obtain ⟨-, ⟨cellB, hcB, hoB, hclB⟩, hPc⟩ := hp
  intro T hT X
  rcases vx_callV X hx (C := C) (bytes := bytes) (maxL := maxL) (ret := ret) ho hl hin hse hcode hy hK (by rw [hT]; exact hcB) hoB hclB hg (hsize.trans hml.symm) (argsL := As) (rest := rest) (fun sig h => hn.trans (hlen sig h)) hstack hW (by rw [hb]; exact hdg)
    (fun vm₁ hW₁ => ⟨hf.1, hf.2, hPc (T.setVm vm₁) hT hW₁⟩) with ⟨v, vm₁, ⟨U', l2, c2, s2⟩, hW₁, X', ⟨g', mk, t, L, e1, e2, hq, h1, hL, h2, h3⟩, st⟩ | ⟨q, vm₁, ⟨U', l2, c2, s2⟩, hW₁, X', ⟨g', mk, t, L, E, ce, e1, e2, hq, hce, hcv, hcl, h1, hL, h2, h3⟩, st⟩
  · dsimp only [Pt.U, Pt.locs, Pt.cells, Pt.slots] at X' e1 e2 h1 h2 h3 st
    subst h1; subst h2; subst h3
    exact Or.inl ⟨v, (T.setVm vm₁).calling g' mk (Value.ref b :: As).toArray, t, U', L, hT, X', hL, e1, e2, hq, st⟩
  · dsimp only [Pt.U, Pt.locs, Pt.cells, Pt.slots] at X' e1 e2 h1 h2 h3 st hcl
    subst h1; subst h2; subst h3
    exact Or.inr ⟨q, (T.setVm vm₁).calling g' mk (Value.ref b :: As).toArray, t, U', L, E, ce, hT, X', hL, e1, e2, hq, hce, hcv, vx_cls hW₁ hcl, st⟩
theorem vx_runS (S : CallFix p m c cc nL s args Ts own) (hM : vx_Met l y ws rm Pc Qc XC mc ms free) (cw : CallB R s args own index y bytes maxL ret ws rm mc ms n ∧ (Cond.static y).before args s = true) (hp : PreS s H Pc As)
    (hg : g.method = m) (hn : As.length = n) (hsize : g.locals.size = nL) (hstack : g.stack = As.reverse ++ rest) (hW : 2 * g.monitorRoom + (rest.map fun v => v.category).sum ≤ 8) (hdg : decode cc g.pc = .ok (.invokestatic index, 3)) (hf : cells + mc ≤ R.cells ∧ slots + ms ≤ R.slots) :
    vx_Run p l e R s m args below meth c H locs cells slots mc ms g rest (Qc As.toArray) XC free := by
  have hK : vx_Back l R p e below s args y 3 8 (PreOf R mc ms Pc) (PostOf Qc mc ms free) (vx_Post XC mc ms free) := vx_callBack cw.1 hM hp.1
  obtain ⟨⟨-, -, -, -, -, -, hcode, hini, hy, hlen, hl⟩, hstt⟩ := cw
  obtain ⟨hx, hb, hml, ho, -⟩ := S
  intro T hT X
  rcases vx_callS X hx (bytes := bytes) (maxL := maxL) (ret := ret) ho hl hstt hini hcode hy hK hg (hsize.trans hml.symm) (argsL := As) (rest := rest) (fun sig h => hn.trans (hlen sig h)) hstack hW (by rw [hb]; exact hdg)
    (fun vm₁ hW₁ => ⟨hf.1, hf.2, hp.2 (T.setVm vm₁) hT hW₁⟩) with ⟨v, vm₁, ⟨U', l2, c2, s2⟩, hW₁, X', ⟨g', mk, t, L, e1, e2, hq, h1, hL, h2, h3⟩, st⟩ | ⟨q, vm₁, ⟨U', l2, c2, s2⟩, hW₁, X', ⟨g', mk, t, L, E, ce, e1, e2, hq, hce, hcv, hcl, h1, hL, h2, h3⟩, st⟩
  · dsimp only [Pt.U, Pt.locs, Pt.cells, Pt.slots] at X' e1 e2 h1 h2 h3 st
    subst h1; subst h2; subst h3
    exact Or.inl ⟨v, (T.setVm vm₁).calling g' mk As.toArray, t, U', L, hT, X', hL, e1, e2, hq, st⟩
  · dsimp only [Pt.U, Pt.locs, Pt.cells, Pt.slots] at X' e1 e2 h1 h2 h3 st hcl
    subst h1; subst h2; subst h3
    exact Or.inr ⟨q, (T.setVm vm₁).calling g' mk As.toArray, t, U', L, E, ce, hT, X', hL, e1, e2, hq, hce, hcv, vx_cls hW₁ hcl, st⟩
end Runs
section Rows
variable {p : Program} {l : Launch} {e : Env} {R : Room} {s : State} {m : MethodId} {args : Array Value} {below : List Frame} {meth : Method} {c : Code} {H : Heap} {locs : List Loc} {cells slots : Nat} {Q : State → Prop}
variable {mc ms : Nat} {free : Addr → Prop} {A0 A1 : Nat → Prop} {H0 : Heap} {a : Array Value} {pc : Nat} {ls : Array Slot} {st0 rest : List Value}
theorem vx_keep {st₀ t T' : State} {L : List Loc} (h0 : st₀.heap = H) (e1 : T'.heap = t.heap) (hS : va_S A0 H0 H locs) (hA : ∀ q, q < H.size → A1 q → A0 q) (hf : ∀ q, free q → A0 q) (hL : ∀ q ∈ L, free q.base) (hF : va_F A1 st₀ t) :
    H.size ≤ T'.heap.size ∧ (∀ q : Nat, q < H.size → ¬ A1 q → T'.heap[q]? = H[q]?) ∧ va_S A0 H0 T'.heap (locs ++ L) := by
  obtain ⟨hz, hk⟩ := hF
  rw [h0] at hz hk
  exact ⟨by rw [e1]; exact hz, fun q h1 h2 => by rw [e1]; exact hk q h1 h2,
    ⟨Nat.le_trans hS.1 (by rw [e1]; exact hz), fun q h1 h2 => by rw [e1, hk q (Nat.lt_of_lt_of_le h1 hS.1) (fun z => h2 (hA q (Nat.lt_of_lt_of_le h1 hS.1) z))]; exact hS.2.1 q h1 h2, fun q hq => by
      rcases List.mem_append.mp hq with h | h
      · exact hS.2.2 q h
      · exact hf _ (hL q h)⟩⟩
theorem vx_calli {S SX : Type} {post : Int32 → S → Prop} {px : SX → Prop} {B : S → State → Prop} {BX : String → SX → State → Prop} {AX : Nat → Prop} (hr : vx_Run p l e R s m args below meth c H locs cells slots mc ms (F0 m pc ls st0) rest (va_Qi post B A1 a) (vx_X px BX AX) free) (hS : va_S A0 H0 H locs) (hA : ∀ q, q < H.size → A1 q → A0 q) (hf : ∀ q, free q → A0 q) (hAX : ∀ q, q < H.size → AX q → A0 q)
    (kx : ∀ (E : String) (ce : Cell) (q9 : Addr) (u : SX) (t : State) (H1 : Heap) (locs1 : List Loc), t.heap = H1 → s.vm.Alike t.vm → px u → BX E u t → H.size ≤ H1.size → (∀ q : Nat, q < H.size → ¬ AX q → H1[q]? = H[q]?) → va_S A0 H0 H1 locs1 → H1[q9]? = some ce → ce.vm = .none → s.vm.findClass E = some ce.cls → vx_W p l e R s m args below meth c H1 locs1 (cells + mc) (slots + ms) Q (F0 m pc ls rest) q9)
    (kk : ∀ (r : Int32) (u : S) (t : State) (H1 : Heap) (locs1 : List Loc), t.heap = H1 → s.vm.Alike t.vm → post r u → B u t → H.size ≤ H1.size → (∀ q : Nat, q < H.size → ¬ A1 q → H1[q]? = H[q]?) → va_S A0 H0 H1 locs1 → W p l e R s m args below meth c H1 locs1 (cells + mc) (slots + ms) Q (F0 m (pc + 3) ls (.int r :: rest))) : W p l e R s m args below meth c H locs cells slots Q (F0 m pc ls st0) := by
  intro T hT X
  rcases hr T hT X with ⟨v, st₀, t, T', L, h0, X', hL, e1, e2, ⟨⟨r, u, hv, hp, hb⟩, hF⟩, st⟩ | ⟨q, st₀, t, T', L, E, ce, h0, X', hL, e1, e2, ⟨u, hp, hb, hF⟩, hce, hcv, hcl, st⟩
  · cases hv
    obtain ⟨k1, k2, k3⟩ := vx_keep h0 e1 hS hA hf hL hF
    obtain ⟨t2, a1, b1⟩ := kk r u t T'.heap (locs ++ L) e1.symm (by rw [← e2]; exact X'.warmed.alike) hp hb k1 k2 k3 T' rfl X'
    exact ⟨t2, st t2 a1, b1⟩
  · obtain ⟨k1, k2, k3⟩ := vx_keep h0 e1 hS hAX hf hL hF
    obtain ⟨t2, a1, b1⟩ := kx E ce q u t T'.heap (locs ++ L) e1.symm (by rw [← e2]; exact X'.warmed.alike) hp hb k1 k2 k3 (by rw [e1]; exact hce) hcv hcl T' rfl X'
    exact ⟨t2, st.trans a1, b1⟩
theorem vx_calll {S SX : Type} {post : Int64 → S → Prop} {px : SX → Prop} {B : S → State → Prop} {BX : String → SX → State → Prop} {AX : Nat → Prop} (hr : vx_Run p l e R s m args below meth c H locs cells slots mc ms (F0 m pc ls st0) rest (va_Ql post B A1 a) (vx_X px BX AX) free) (hS : va_S A0 H0 H locs) (hA : ∀ q, q < H.size → A1 q → A0 q) (hf : ∀ q, free q → A0 q) (hAX : ∀ q, q < H.size → AX q → A0 q)
    (kx : ∀ (E : String) (ce : Cell) (q9 : Addr) (u : SX) (t : State) (H1 : Heap) (locs1 : List Loc), t.heap = H1 → s.vm.Alike t.vm → px u → BX E u t → H.size ≤ H1.size → (∀ q : Nat, q < H.size → ¬ AX q → H1[q]? = H[q]?) → va_S A0 H0 H1 locs1 → H1[q9]? = some ce → ce.vm = .none → s.vm.findClass E = some ce.cls → vx_W p l e R s m args below meth c H1 locs1 (cells + mc) (slots + ms) Q (F0 m pc ls rest) q9)
    (kk : ∀ (r : Int64) (u : S) (t : State) (H1 : Heap) (locs1 : List Loc), t.heap = H1 → s.vm.Alike t.vm → post r u → B u t → H.size ≤ H1.size → (∀ q : Nat, q < H.size → ¬ A1 q → H1[q]? = H[q]?) → va_S A0 H0 H1 locs1 → W p l e R s m args below meth c H1 locs1 (cells + mc) (slots + ms) Q (F0 m (pc + 3) ls (.long r :: rest))) : W p l e R s m args below meth c H locs cells slots Q (F0 m pc ls st0) := by
  intro T hT X
  rcases hr T hT X with ⟨v, st₀, t, T', L, h0, X', hL, e1, e2, ⟨⟨r, u, hv, hp, hb⟩, hF⟩, st⟩ | ⟨q, st₀, t, T', L, E, ce, h0, X', hL, e1, e2, ⟨u, hp, hb, hF⟩, hce, hcv, hcl, st⟩
  · cases hv
    obtain ⟨k1, k2, k3⟩ := vx_keep h0 e1 hS hA hf hL hF
    obtain ⟨t2, a1, b1⟩ := kk r u t T'.heap (locs ++ L) e1.symm (by rw [← e2]; exact X'.warmed.alike) hp hb k1 k2 k3 T' rfl X'
    exact ⟨t2, st t2 a1, b1⟩
  · obtain ⟨k1, k2, k3⟩ := vx_keep h0 e1 hS hAX hf hL hF
    obtain ⟨t2, a1, b1⟩ := kx E ce q u t T'.heap (locs ++ L) e1.symm (by rw [← e2]; exact X'.warmed.alike) hp hb k1 k2 k3 (by rw [e1]; exact hce) hcv hcl T' rfl X'
    exact ⟨t2, st.trans a1, b1⟩
theorem vx_callf {S SX : Type} {post : UInt32 → S → Prop} {px : SX → Prop} {B : S → State → Prop} {BX : String → SX → State → Prop} {AX : Nat → Prop} (hr : vx_Run p l e R s m args below meth c H locs cells slots mc ms (F0 m pc ls st0) rest (va_Qf post B A1 a) (vx_X px BX AX) free) (hS : va_S A0 H0 H locs) (hA : ∀ q, q < H.size → A1 q → A0 q) (hf : ∀ q, free q → A0 q) (hAX : ∀ q, q < H.size → AX q → A0 q)
    (kx : ∀ (E : String) (ce : Cell) (q9 : Addr) (u : SX) (t : State) (H1 : Heap) (locs1 : List Loc), t.heap = H1 → s.vm.Alike t.vm → px u → BX E u t → H.size ≤ H1.size → (∀ q : Nat, q < H.size → ¬ AX q → H1[q]? = H[q]?) → va_S A0 H0 H1 locs1 → H1[q9]? = some ce → ce.vm = .none → s.vm.findClass E = some ce.cls → vx_W p l e R s m args below meth c H1 locs1 (cells + mc) (slots + ms) Q (F0 m pc ls rest) q9)
    (kk : ∀ (r : UInt32) (u : S) (t : State) (H1 : Heap) (locs1 : List Loc), t.heap = H1 → s.vm.Alike t.vm → post r u → B u t → H.size ≤ H1.size → (∀ q : Nat, q < H.size → ¬ A1 q → H1[q]? = H[q]?) → va_S A0 H0 H1 locs1 → W p l e R s m args below meth c H1 locs1 (cells + mc) (slots + ms) Q (F0 m (pc + 3) ls (.float r :: rest))) : W p l e R s m args below meth c H locs cells slots Q (F0 m pc ls st0) := by
  intro T hT X
  rcases hr T hT X with ⟨v, st₀, t, T', L, h0, X', hL, e1, e2, ⟨⟨r, u, hv, hp, hb⟩, hF⟩, st⟩ | ⟨q, st₀, t, T', L, E, ce, h0, X', hL, e1, e2, ⟨u, hp, hb, hF⟩, hce, hcv, hcl, st⟩
  · cases hv
    obtain ⟨k1, k2, k3⟩ := vx_keep h0 e1 hS hA hf hL hF
    obtain ⟨t2, a1, b1⟩ := kk r u t T'.heap (locs ++ L) e1.symm (by rw [← e2]; exact X'.warmed.alike) hp hb k1 k2 k3 T' rfl X'
    exact ⟨t2, st t2 a1, b1⟩
  · obtain ⟨k1, k2, k3⟩ := vx_keep h0 e1 hS hAX hf hL hF
    obtain ⟨t2, a1, b1⟩ := kx E ce q u t T'.heap (locs ++ L) e1.symm (by rw [← e2]; exact X'.warmed.alike) hp hb k1 k2 k3 (by rw [e1]; exact hce) hcv hcl T' rfl X'
    exact ⟨t2, st.trans a1, b1⟩
theorem vx_calld {S SX : Type} {post : UInt64 → S → Prop} {px : SX → Prop} {B : S → State → Prop} {BX : String → SX → State → Prop} {AX : Nat → Prop} (hr : vx_Run p l e R s m args below meth c H locs cells slots mc ms (F0 m pc ls st0) rest (va_Qd post B A1 a) (vx_X px BX AX) free) (hS : va_S A0 H0 H locs) (hA : ∀ q, q < H.size → A1 q → A0 q) (hf : ∀ q, free q → A0 q) (hAX : ∀ q, q < H.size → AX q → A0 q)
    (kx : ∀ (E : String) (ce : Cell) (q9 : Addr) (u : SX) (t : State) (H1 : Heap) (locs1 : List Loc), t.heap = H1 → s.vm.Alike t.vm → px u → BX E u t → H.size ≤ H1.size → (∀ q : Nat, q < H.size → ¬ AX q → H1[q]? = H[q]?) → va_S A0 H0 H1 locs1 → H1[q9]? = some ce → ce.vm = .none → s.vm.findClass E = some ce.cls → vx_W p l e R s m args below meth c H1 locs1 (cells + mc) (slots + ms) Q (F0 m pc ls rest) q9)
    (kk : ∀ (r : UInt64) (u : S) (t : State) (H1 : Heap) (locs1 : List Loc), t.heap = H1 → s.vm.Alike t.vm → post r u → B u t → H.size ≤ H1.size → (∀ q : Nat, q < H.size → ¬ A1 q → H1[q]? = H[q]?) → va_S A0 H0 H1 locs1 → W p l e R s m args below meth c H1 locs1 (cells + mc) (slots + ms) Q (F0 m (pc + 3) ls (.double r :: rest))) : W p l e R s m args below meth c H locs cells slots Q (F0 m pc ls st0) := by
  intro T hT X
  rcases hr T hT X with ⟨v, st₀, t, T', L, h0, X', hL, e1, e2, ⟨⟨r, u, hv, hp, hb⟩, hF⟩, st⟩ | ⟨q, st₀, t, T', L, E, ce, h0, X', hL, e1, e2, ⟨u, hp, hb, hF⟩, hce, hcv, hcl, st⟩
  · cases hv
    obtain ⟨k1, k2, k3⟩ := vx_keep h0 e1 hS hA hf hL hF
    obtain ⟨t2, a1, b1⟩ := kk r u t T'.heap (locs ++ L) e1.symm (by rw [← e2]; exact X'.warmed.alike) hp hb k1 k2 k3 T' rfl X'
    exact ⟨t2, st t2 a1, b1⟩
  · obtain ⟨k1, k2, k3⟩ := vx_keep h0 e1 hS hAX hf hL hF
    obtain ⟨t2, a1, b1⟩ := kx E ce q u t T'.heap (locs ++ L) e1.symm (by rw [← e2]; exact X'.warmed.alike) hp hb k1 k2 k3 (by rw [e1]; exact hce) hcv hcl T' rfl X'
    exact ⟨t2, st.trans a1, b1⟩
theorem vx_callv {S SX : Type} {post : S → Prop} {px : SX → Prop} {B : S → State → Prop} {BX : String → SX → State → Prop} {AX : Nat → Prop} (hr : vx_Run p l e R s m args below meth c H locs cells slots mc ms (F0 m pc ls st0) rest (va_Qv post B A1 a) (vx_X px BX AX) free) (hS : va_S A0 H0 H locs) (hA : ∀ q, q < H.size → A1 q → A0 q) (hf : ∀ q, free q → A0 q) (hAX : ∀ q, q < H.size → AX q → A0 q)
    (kx : ∀ (E : String) (ce : Cell) (q9 : Addr) (u : SX) (t : State) (H1 : Heap) (locs1 : List Loc), t.heap = H1 → s.vm.Alike t.vm → px u → BX E u t → H.size ≤ H1.size → (∀ q : Nat, q < H.size → ¬ AX q → H1[q]? = H[q]?) → va_S A0 H0 H1 locs1 → H1[q9]? = some ce → ce.vm = .none → s.vm.findClass E = some ce.cls → vx_W p l e R s m args below meth c H1 locs1 (cells + mc) (slots + ms) Q (F0 m pc ls rest) q9)
    (kk : ∀ (u : S) (t : State) (H1 : Heap) (locs1 : List Loc), t.heap = H1 → s.vm.Alike t.vm → post u → B u t → H.size ≤ H1.size → (∀ q : Nat, q < H.size → ¬ A1 q → H1[q]? = H[q]?) → va_S A0 H0 H1 locs1 → W p l e R s m args below meth c H1 locs1 (cells + mc) (slots + ms) Q (F0 m (pc + 3) ls (rest))) : W p l e R s m args below meth c H locs cells slots Q (F0 m pc ls st0) := by
  intro T hT X
  rcases hr T hT X with ⟨v, st₀, t, T', L, h0, X', hL, e1, e2, ⟨⟨u, hv, hp, hb⟩, hF⟩, st⟩ | ⟨q, st₀, t, T', L, E, ce, h0, X', hL, e1, e2, ⟨u, hp, hb, hF⟩, hce, hcv, hcl, st⟩
  · cases hv
    obtain ⟨k1, k2, k3⟩ := vx_keep h0 e1 hS hA hf hL hF
    obtain ⟨t2, a1, b1⟩ := kk u t T'.heap (locs ++ L) e1.symm (by rw [← e2]; exact X'.warmed.alike) hp hb k1 k2 k3 T' rfl X'
    exact ⟨t2, st t2 a1, b1⟩
  · obtain ⟨k1, k2, k3⟩ := vx_keep h0 e1 hS hAX hf hL hF
    obtain ⟨t2, a1, b1⟩ := kx E ce q u t T'.heap (locs ++ L) e1.symm (by rw [← e2]; exact X'.warmed.alike) hp hb k1 k2 k3 (by rw [e1]; exact hce) hcv hcl T' rfl X'
    exact ⟨t2, st.trans a1, b1⟩
/-- caught by the row x of this method's table; the rows ahead don't take it -/
theorem vx_catch {own name : String} {E : String} {ce : Cell} {q : Addr} (hown : s.vm.findClass own = some m.cls) (pre : List ExceptionTableEntry) (x : ExceptionTableEntry) (suf : List ExceptionTableEntry) (hsplit : c.exceptionTable.toList = pre ++ x :: suf)
    (hpass : ∀ z ∈ pre, covers z pc = false ∨ (z.catchType ≠ 0 ∧ ∃ nm : String, (Cond.classLink own z.catchType nm).before args s = true ∧ va_Nc E nm s)) (hx : covers x pc = true) (h0 : x.catchType ≠ 0)
    (hlink : (Cond.classLink own x.catchType name).before args s = true) (hcast : (Cond.castable E name).before args s = true) (hcell : H[q]? = some ce) (hv : ce.vm = .none) (hcl : s.vm.findClass E = some ce.cls)
    (kk : W p l e R s m args below meth c H locs cells slots Q (F0 m x.handlerPc ls [.ref q])) : vx_W p l e R s m args below meth c H locs cells slots Q (F0 m pc ls rest) q := by
  intro T hT X
  have hpl : e.platform.magicAccessors = ({} : Platform).magicAccessors := by rw [X.admits.platform]
  obtain ⟨c3, c4, hc3, hc4, hasg⟩ := Cond.castable_spec hcast
  cases Option.some.inj (hc3.symm.trans hcl)
  obtain ⟨c5, hc5, hcl5⟩ := Cond.classLink_spec hown hlink e.platform hpl
  cases Option.some.inj (hc4.symm.trans hc5)
  obtain ⟨vm', X', st⟩ := X.thenCaughtThrough q (g := F0 m pc ls rest) rfl (Steps.refl _) (by rw [hT]; exact hcell) (by rw [hv]; rfl) (by obtain ⟨k9, h9, -⟩ := Vm.findClass_spec hcl; exact ⟨k9, h9⟩) pre x suf hsplit
    (fun z hz => by
      rcases hpass z hz with h | ⟨hz0, nm, hl1, hn1⟩
      · exact Or.inl h
      · obtain ⟨c6, hc6, hcl6⟩ := Cond.classLink_spec hown hl1 e.platform hpl
        obtain ⟨a8, b8, h1, h2, h3⟩ := hn1
        cases Option.some.inj (h1.symm.trans hcl)
        cases Option.some.inj (h2.symm.trans hc6)
        exact Or.inr ⟨hz0, _, hcl6, h3⟩) hx (Or.inr ⟨h0, c4, hcl5, hasg⟩)
  obtain ⟨t, a1, b1⟩ := kk (T.setVm vm') hT X'
  exact ⟨t, st.trans a1, b1⟩
end Rows
section Ends
variable {p : Program} {l : Launch} {e : Env} {R : Room} {s : State} {m : MethodId} {args : Array Value} {below : List Frame} {meth : Method} {c : Code} {H : Heap} {locs : List Loc} {cells slots : Nat} {Q : State → Prop}
variable {mc ms : Nat} {free : Addr → Prop} {A0 A1 : Nat → Prop} {H0 : Heap} {a : Array Value} {ls : Array Slot} {st0 rest : List Value}
variable {Qc : Array Value → State → Outcome → State → Prop} {XC : String → State → State → Prop}
/-- what a body that may throw owes at its end -/
def vx_MQ (below : List Frame) (Qc : Array Value → State → Outcome → State → Prop) (XC : String → State → State → Prop) (a : Array Value) (s : State) (mc ms : Nat) (free : Addr → Prop) : State → Prop := fun t =>
  ∃ o, t.status = .running ∧ Ended t below o ∧ vx_Q Qc XC mc ms free a s o t
theorem vx_ret {g : JFrame} {mc ms : Nat} (k : W p l e R s m args below meth c H locs cells slots (MQ below Qc args s mc ms free) g) : W p l e R s m args below meth c H locs cells slots (vx_MQ below Qc XC args s mc ms free) g := by
  intro T hT X
  obtain ⟨t, a1, o, b1, b2, b3, b4⟩ := k T hT X
  exact ⟨t, a1, o, b1, b2, Or.inl ⟨b3, b4⟩⟩
/-- not caught here: it goes on to the caller -/
theorem vx_widen {g : JFrame} {q : Addr} {k n : Nat} (h1 : cells ≤ k) (h2 : slots ≤ n) (kk : vx_W p l e R s m args below meth c H locs k n Q g q) : vx_W p l e R s m args below meth c H locs cells slots Q g q := fun T hT X => kk T hT (stand_widen X h1 h2)
theorem vx_out {pc : Nat} {E : String} {ce : Cell} {q : Addr} {mc ms : Nat} (hout : ∀ x ∈ c.exceptionTable.toList, covers x pc = false) (hlocks : meth.locks = false) (hcell : H[q]? = some ce) (hv : ce.vm = .none) (hcl : s.vm.findClass E = some ce.cls)
    (hx : ∀ t : State, t.heap = H → s.vm.Alike t.vm → XC E s t) (hf : ∀ z ∈ locs, free z.base) (hc : cells ≤ mc) (hs : slots ≤ ms) :
    vx_W p l e R s m args below meth c H locs cells slots (vx_MQ below Qc XC args s mc ms free) (F0 m pc ls rest) q := by
  intro T hT X
  obtain ⟨st1, hrun, hend, hW, hsm⟩ := X.leaveThrown q (g := F0 m pc ls rest) rfl rfl rfl hout hlocks
  have hcell9 : (T.setFrames (.throwing q :: below)).heap[q]? = some ce := by
    show T.heap[q]? = some ce
    rw [hT]; exact hcell
  exact ⟨_, st1, .threw q, hrun, hend, Or.inr ⟨q, rfl, E, ce, locs, hx _ hT hW.alike, hcell9, hv, hcl, hW, hsm.mono hc hs, hf⟩⟩
theorem vx_frame {U : State} {k n : Nat} (h : s.sameButNew ({ U with vm := s.vm } : State) locs k n) : s.heap.size ≤ U.heap.size ∧ ∀ q : Nat, q < s.heap.size → (∀ z ∈ locs, z.base ≠ q) → U.heap[q]? = s.heap[q]? := by
  obtain ⟨-, h2, -, -, -, h6⟩ := h
  refine ⟨h2, fun q hq hz => ?_⟩
  obtain ⟨c9, e1, e2, e3, e4⟩ := h6 q _ (Array.getElem?_eq_getElem hq)
  have hs : c9.slots = (s.heap[q]).slots := Array.ext_getElem? fun i => e4 i fun hm => hz _ hm rfl
  have h9 : c9 = s.heap[q] := by
    rw [hs] at e2
    exact e2
  have e5 : U.heap[q]? = some c9 := e1
  rw [e5, h9, Array.getElem?_eq_getElem hq]
/-- the words of a throw but the four that speak of the heap -/
def vx_no (w : Cond) : Bool := decide (w ≠ .isRef (.static Bundle.tN "UNASSIGNED_STACK" Bundle.steD)) && decide (w ≠ .isRef (.static Bundle.tN "SUPPRESSED_SENTINEL" Bundle.listD)) && decide (w ≠ .laysStatic Bundle.tN "UNASSIGNED_STACK" Bundle.steD) && decide (w ≠ .laysStatic Bundle.tN "SUPPRESSED_SENTINEL" Bundle.listD)
def vx_at0 (own : String) (ic : Nat) (X : String) (names : List String) : List Cond := (Bundle.ownAtoms0 own ic X names).filter vx_no
def vx_atS (own : String) (ic : Nat) (X : String) (names : List String) : List Cond := (Bundle.ownAtoms own ic X names).filter vx_no
/-- a word that the tables alone decide, or a good one -/
def vx_ot (w : Cond) : Bool := w.onTables || goodWord w
theorem vx_ot_at {args a' : Array Value} {s U : State} {w : Cond} (hW : s.WarmedH U.vm) (hvm : s.vm = U.vm) (hg : vx_ot w = true) (h : w.before args s = true) : w.before a' U = true := by
  simp only [vx_ot, Bool.or_eq_true] at hg
  rcases hg with hg | hg
  · exact va_tabs hg hvm h
  · exact word_at hW (good_of_word hg) h
/-- a list's words: the good ones out of the method's own list, the others by premises of their own -/
theorem vx_hat {args : Array Value} {s : State} {L B : List Cond} (h1 : ∀ w ∈ L.filter goodWord, w.before args s = true) (h2 : ∀ w ∈ L.filter (fun w => !goodWord w), w ∈ B) (h3 : ∀ w ∈ B, w.before args s = true) : ∀ w ∈ L, w.before args s = true := by
  intro w hw
  by_cases g : goodWord w = true
  · exact h1 w (List.mem_filter.mpr ⟨hw, g⟩)
  · refine h3 w (h2 w (List.mem_filter.mpr ⟨hw, ?_⟩))
    show (!goodWord w) = true
    cases hgw : goodWord w
    · rfl
    · exact absurd hgw g
theorem vx_c {args : Array Value} {s : State} {w : Cond} {B : List Cond} (h : w.before args s = true) (t : ∀ w ∈ B, w.before args s = true) : ∀ w' ∈ w :: B, w'.before args s = true := fun w' h' => (List.mem_cons.mp h').elim (fun e => by rw [e]; exact h) (t w')
theorem vx_n {args : Array Value} {s : State} : ∀ w ∈ ([] : List Cond), w.before args s = true := fun _ h => nomatch h
theorem vx_own {args : Array Value} {s : State} {L : List Cond} (h1 : ∀ w ∈ L.filter vx_no, w.before args s = true)
    (hU : (Cond.isRef (.static Bundle.tN "UNASSIGNED_STACK" Bundle.steD)).before args s = true) (hN : (Cond.isRef (.static Bundle.tN "SUPPRESSED_SENTINEL" Bundle.listD)).before args s = true)
    (lU : (Cond.laysStatic Bundle.tN "UNASSIGNED_STACK" Bundle.steD).before args s = true) (lN : (Cond.laysStatic Bundle.tN "SUPPRESSED_SENTINEL" Bundle.listD).before args s = true) : ∀ w ∈ L, w.before args s = true := by
  intro w hw
  by_cases e1 : w = .isRef (.static Bundle.tN "UNASSIGNED_STACK" Bundle.steD)
  · rw [e1]; exact hU
  · by_cases e2 : w = .isRef (.static Bundle.tN "SUPPRESSED_SENTINEL" Bundle.listD)
    · rw [e2]; exact hN
    · by_cases e3 : w = .laysStatic Bundle.tN "UNASSIGNED_STACK" Bundle.steD
      · rw [e3]; exact lU
      · by_cases e4 : w = .laysStatic Bundle.tN "SUPPRESSED_SENTINEL" Bundle.listD
        · rw [e4]; exact lN
        · exact h1 w (List.mem_filter.mpr ⟨hw, by unfold vx_no; rw [decide_eq_true e1, decide_eq_true e2, decide_eq_true e3, decide_eq_true e4]; rfl⟩)
/-- where a static field lies, its class's statics cell in H -/
def vx_L (C n d : String) (A : Nat → Prop) (U : State) (H : Heap) : Prop := ∃ (c : ClassId) (k : Class) (i : Nat) (f : Field) (a : Nat) (cell : Cell), U.vm.findClass C = some c ∧ U.fieldFound? C n d = some (c, k, i, f) ∧ f.isStatic = true ∧ k.statics = some a ∧ H[a]? = some cell ∧ cell.vm.isStatics = true ∧ cell.cls = c ∧ f.slot < cell.slots.size ∧ k.staticTypes[f.slot]? = some f.type ∧ ¬ A a
theorem vx_L.moved {C n d : String} {A : Nat → Prop} {u U : State} {H : Heap} (hvm : u.vm.Alike U.vm) (h : vx_L C n d A u H) : vx_L C n d A U H := by
  obtain ⟨c, k, i, f, a, cell, h1, h2, h3, h4, h5, h6, h7, h8, h9, h10⟩ := h
  obtain ⟨k', hi', he⟩ := State.fieldFound?_setVm hvm h2
  exact ⟨c, k', i, f, a, cell, by rw [hvm.findClass]; exact h1, hi', h3, by rw [he]; exact h4, h5, h6, h7, h8, by rw [he]; exact h9, h10⟩
theorem vx_L.kept {C n d : String} {A : Nat → Prop} {U : State} {H H1 : Heap} (h : vx_L C n d A U H) (hq : ∀ a : Nat, a < H.size → ¬ A a → H1[a]? = H[a]?) : vx_L C n d A U H1 := by
  obtain ⟨c, k, i, f, a, cell, h1, h2, h3, h4, h5, h6, h7, h8, h9, h10⟩ := h
  exact ⟨c, k, i, f, a, cell, h1, h2, h3, h4, by rw [hq a (Array.getElem?_eq_some_iff.mp h5).1 h10]; exact h5, h6, h7, h8, h9, h10⟩
theorem vx_L.narrow {C n d : String} {A B : Nat → Prop} {U : State} {H : Heap} (h : vx_L C n d A U H) (hAB : ∀ q, B q → A q) : vx_L C n d B U H := by
  obtain ⟨c, k, i, f, a, cell, h1, h2, h3, h4, h5, h6, h7, h8, h9, h10⟩ := h
  exact ⟨c, k, i, f, a, cell, h1, h2, h3, h4, h5, h6, h7, h8, h9, fun z => h10 (hAB _ z)⟩
theorem vx_L.word {C n d : String} {A : Nat → Prop} {s : State} {args : Array Value} (h : vx_L C n d A s s.heap) : (Cond.laysStatic C n d).before args s = true := by
  obtain ⟨c, k, i, f, a, cell, h1, h2, h3, h4, h5, h6, h7, h8, h9, -⟩ := h
  show (Cond.laysStatic C n d).holds args s none s [] = true
  exact Cond.laysStatic_of h1 h2 h3 h4 h5 h6 h7 h8 h9
/-- .. and what it holds: null or some reference -/
def vx_Zq (C n d : String) (A : Nat → Prop) (U : State) (H : Heap) : Prop := va_Zq C n d A U H ∧ vx_L C n d A U H
theorem vx_Zq.moved {C n d : String} {A : Nat → Prop} {u U : State} {H : Heap} (hvm : u.vm.Alike U.vm) (h : vx_Zq C n d A u H) : vx_Zq C n d A U H := ⟨va_Zq.moved hvm h.1, vx_L.moved hvm h.2⟩
theorem vx_Zq.kept {C n d : String} {A : Nat → Prop} {U : State} {H H1 : Heap} (h : vx_Zq C n d A U H) (hq : ∀ a : Nat, a < H.size → ¬ A a → H1[a]? = H[a]?) : vx_Zq C n d A U H1 := ⟨va_Zq.kept h.1 hq, vx_L.kept h.2 hq⟩
theorem vx_Zq.narrow {C n d : String} {A B : Nat → Prop} {U : State} {H : Heap} (h : vx_Zq C n d A U H) (hAB : ∀ q, B q → A q) : vx_Zq C n d B U H := ⟨va_Zq.narrow h.1 hAB, vx_L.narrow h.2 hAB⟩
theorem vx_Zqof {args : Array Value} {s : State} {C n d : String} {A : Nat → Prop} (hl : (Cond.laysStatic C n d).before args s = true) (hini : (Cond.initialized C).before args s = true) (h : (Cond.isRef (.static C n d)).before args s = true) (hA : ∀ a : Nat, a < s.heap.size → ¬ A a) : vx_Zq C n d A s s.heap := by
  refine ⟨va_Zqof hl hini h hA, ?_⟩
  obtain ⟨c, k, i, f, a, cell, h1, h2, h3, h4, h5, h6, h7, h8, h9⟩ := Cond.laysStatic_spec hl
  exact ⟨c, k, i, f, a, cell, h1, h2, h3, h4, h5, h6, h7, h8, h9, hA a (Array.getElem?_eq_some_iff.mp h5).1⟩
theorem vx_isRef {C n d : String} {v : Value} {A : Nat → Prop} {s : State} {args : Array Value} (h : va_Z C n d v A s s.heap) (hv : v.isRef = true) : (Cond.isRef (.static C n d)).before args s = true := by
  obtain ⟨cf, kf, fi, f, a, cell, h1, h2, h3, h4, h5, h6, h7, -⟩ := h
  have he : (Term.static C n d).eval args s none [] s = some v := by
    simp [Term.eval, State.fieldNamed?, h1, h2, h4, h5, h6, h7]
  simp only [Cond.before, Cond.holds, Cond.value, he]
  cases v <;> simp_all [Value.isRef]
theorem vx_isRefq {C n d : String} {A : Nat → Prop} {s : State} {args : Array Value} (h : va_Zq C n d A s s.heap) : (Cond.isRef (.static C n d)).before args s = true := by
  rcases h with h | ⟨t, h⟩
  · exact vx_isRef h rfl
  · exact vx_isRef h rfl
/-- the same frame, seen from here: as if the method were called anew in this heap -/
theorem vx_rebase {T : State} (X : Stand p l e R s m args below meth c T locs cells slots) {R' : Room} (hf : R'.frames ≤ R.frames) (hl : R'.locals ≤ R.locals) (hc : cells + R'.cells ≤ R.cells) (hs : slots + R'.slots ≤ R.slots) :
    Stand p l e R' ((T.setVm s.vm).setFrames (.invoking m args :: below)) m args below meth c T [] 0 0 := by
  have htop : (T.setVm s.vm).topJava?.isSome := X.here.top
  have hF : ((T.setVm s.vm).setFrames (.invoking m args :: below)).frames = .invoking m args :: below := State.frames_setFrames _ (State.cur_lt_of_top htop)
  obtain ⟨g₀, hg0⟩ := Option.isSome_iff_exists.mp htop
  obtain ⟨r, hr⟩ := State.topJava?_eq_some.mp hg0
  have hl9 : e.platform.stackLimits (T.setVm s.vm).me = e.platform.stackLimits s.me := X.limits
  have hb9 : (T.setVm s.vm).me.stackBytes = s.me.stackBytes := X.bytes
  refine ⟨X.admits, X.cas, X.clock, hF, ?_, X.hears, X.method, X.code, X.here, X.tail, X.warmed, ?_, ?_, ?_⟩
  · have h := X.room
    have hU : ((T.setVm s.vm).setFrames (.invoking m args :: below)).localsInUse = s.localsInUse := by
      rw [State.localsInUse_invoking hF (meth := meth) (c := c) X.method X.code, State.localsInUse_invoking X.frames X.method X.code]
    simp only [State.hasRoom, Bool.and_eq_true, decide_eq_true_eq] at h ⊢
    obtain ⟨⟨⟨⟨h1, h2, h3, h4, h5, h6⟩, h7⟩, h8⟩, h9⟩ := h
    rw [X.frames, List.length_cons] at h2 h3
    have q1 := X.heapSize
    have q2 := X.used
    simp only [hF, hU, List.length_cons, State.stackLimits_setFrames, State.stackBytes_setFrames, hl9, hb9]
    refine ⟨⟨⟨⟨by omega, by omega, by omega, by omega, by omega, h6⟩, ?_⟩, ?_⟩, X.book⟩
    · show T.heap.size + R'.cells ≤ e.platform.maxCells
      omega
    · show T.slotsUsed + R'.slots ≤ e.platform.maxSlots
      omega
  · rw [State.stackLimits_setFrames]; rfl
  · rw [State.stackBytes_setFrames]; rfl
  · refine ⟨?_, Nat.le_refl _, Nat.le_refl _, ?_, ?_, fun a c9 h9 => ⟨c9, h9, rfl, rfl, fun _ _ => rfl⟩⟩
    · obtain ⟨t, ht, -⟩ := State.frames_cons hr
      show T.setVm s.vm = { ((T.setVm s.vm).setFrames (.invoking m args :: below)).setFrames (T.setVm s.vm).frames with heap := T.heap, slotsUsed := T.slotsUsed }
      rw [State.setFrames_setFrames, State.setFrames_self ht]
      rfl
    · show T.slotsUsed = T.slotsUsed + ((T.heap.toList.drop T.heap.size).map (·.slots.size)).sum
      rw [List.drop_eq_nil_of_le (Nat.le_of_eq Array.length_toList)]
      rfl
    · show ((T.heap.toList.drop T.heap.size).map (·.slots.size)).sum ≤ 0
      rw [List.drop_eq_nil_of_le (Nat.le_of_eq Array.length_toList)]
      exact Nat.le_refl _
/-- 'throw new E()': new; dup; invokespecial; athrow -/
theorem vx_throw0 {cc : ByteArray} {pc : Nat} (hexec : p.tables.exec = Jvm.exec) (hb : c.code = cc) (hl : l.stackTraces = false) {own cls : String} {names : List String} {ik ic mc ms : Nat} {A : Nat → Prop}
    (hown : s.vm.findClass own = some m.cls) (hcls : Bundle.fit cls = true) (hnames : ∀ n ∈ names, Bundle.fit n = true)
    (hk : (Cond.classLink own ik cls).before args s = true) (hini : (Cond.initialized cls).before args s = true) (hat : ∀ w ∈ vx_at0 own ic cls names, w.before args s = true)
    (hgood : ∀ w ∈ Cond.classLink own ik cls :: Cond.initialized cls :: vx_at0 own ic cls names, vx_ot w = true)
    (hU : vx_Zq Bundle.tN "UNASSIGNED_STACK" Bundle.steD A s s.heap) (hN : vx_Zq Bundle.tN "SUPPRESSED_SENTINEL" Bundle.listD A s s.heap) (hS : va_S A s.heap H locs) (hsize : ls.size = c.maxLocals)
    (d0 : decode cc pc = .ok (.new ik, 3)) (d3 : decode cc (pc + 3) = .ok (.dup, 1)) (d4 : decode cc (pc + 4) = .ok (.invokespecial ic, 3)) (d7 : decode cc (pc + 7) = .ok (.athrow, 1))
    (hout : ∀ x ∈ c.exceptionTable.toList, covers x (pc + 7) = false)
    (hRframes : names.length + 3 < R.frames) (hRlocals : (rest.map fun v => v.category).sum + (13 * (names.length + 1) + 42) ≤ R.locals) (hRcells : cells + 1 ≤ R.cells) (hRslots : slots + 6 ≤ R.slots) (hlocks : meth.locks = false)
    (hx : ∀ t : State, s.vm.Alike t.vm → H.size ≤ t.heap.size → (∀ q : Nat, q < H.size → t.heap[q]? = H[q]?) → XC cls s t)
    (hf : ∀ z ∈ locs, free z.base) (hc : cells + 1 ≤ mc) (hs : slots + 6 ≤ ms) :
    W p l e R s m args below meth c H locs cells slots (vx_MQ below Qc XC args s mc ms free) (F0 m pc ls rest) := by
  intro T hT X
  have htr : e.platform.stackTraces = false := (show e.platform.stackTraces = l.stackTraces by rw [X.admits.platform]).trans hl
  have Y := vx_rebase X (R' := { frames := R.frames, locals := R.locals, cells := 1, slots := 6 }) (Nat.le_refl _) (Nat.le_refl _) hRcells hRslots
  obtain ⟨s', hA⟩ : ∃ z, z = (T.setVm s.vm).setFrames (.invoking m args :: below) := ⟨_, rfl⟩
  rw [← hA] at Y
  have hvm : s'.vm = s.vm := by rw [hA]; rfl
  have hhp : s'.heap = H := by rw [hA]; exact hT
  have hW0 : s.WarmedH s'.vm := by rw [hvm]; exact State.WarmedH.refl s
  have hat' : ∀ w ∈ vx_at0 own ic cls names, w.before args s' = true := fun w hw => vx_ot_at hW0 hvm.symm (hgood w (List.mem_cons_of_mem _ (List.mem_cons_of_mem _ hw))) (hat w hw)
  have hk' : (Cond.classLink own ik cls).before args s' = true := vx_ot_at hW0 hvm.symm (hgood _ List.mem_cons_self) hk
  have hini' : (Cond.initialized cls).before args s' = true := vx_ot_at hW0 hvm.symm (hgood _ (List.mem_cons_of_mem _ List.mem_cons_self)) hini
  have hU' : vx_Zq Bundle.tN "UNASSIGNED_STACK" Bundle.steD A s' s'.heap := by rw [hhp]; exact vx_Zq.moved hW0.alike (hU.kept hS.2.1)
  have hN' : vx_Zq Bundle.tN "SUPPRESSED_SENTINEL" Bundle.listD A s' s'.heap := by rw [hhp]; exact vx_Zq.moved hW0.alike (hN.kept hS.2.1)
  have h : ∀ w ∈ Bundle.ownAtoms0 own ic cls names, w.before args s' = true := vx_own hat' (vx_isRefq hU'.1) (vx_isRefq hN'.1) hU'.2.word hN'.2.word
  have hown' : s'.vm.findClass own = some m.cls := by rw [hvm]; exact hown
  have hins : (Cond.instantiable cls 6).before args s' = true := h _ (by simp [Bundle.ownAtoms0])
  obtain ⟨vm₁, cX, kX, hfX, hkX, -, -, X₁, st1⟩ := Y.newCold hexec (own := own) (C := cls) (index := ik) (n := 6) hown' hk' hins hini'
    (g := F0 m pc ls rest) rfl (by rw [hb]; exact d0) (Nat.le_refl _) (Nat.le_refl _)
  generalize hT1 : (T.setVm vm₁).pushCell { cls := cX, slots := kX.instanceTypes.map defaultValue, vm := .none } = T1 at X₁ st1
  have hcat : (Value.ref T.heap.size).category = 1 := rfl
  have hcellA : T1.heap[T.heap.size]? = some (freshCell cX kX) := by rw [← hT1]; exact State.heap_pushCell_size _ _
  have d3' : decode c.code (pc + 3) = .ok (.dup, 1) := by rw [hb]; exact d3
  obtain ⟨U, hsteps, hrun, hend, hW, hsame, ce, hce, hO⟩ := X₁.ctorThrow0 hexec htr (own := own) (cls := cls) (names := names) (ic := ic) hown' hcls hnames h (fun x hx => nomatch hx) hfX hkX hcellA (by rw [hhp, hT]; exact Nat.le_refl _)
    (g := { method := m, pc := pc + 4, locals := ls, stack := .ref T.heap.size :: .ref T.heap.size :: rest, locked := none }) rfl hsize rfl rfl (rest := rest) rfl
    (by rw [hb]; exact d4) (by rw [hb]; exact d7) hout hRframes (by simp only [List.map_cons, List.sum_cons, hcat]; omega) hlocks
  obtain ⟨f1, f2⟩ := vx_frame hsame
  rw [hhp] at f1 f2
  have hWs : s.WarmedH U.vm := State.WarmedH.trans hW0 hW
  have hcl : s.vm.findClass cls = some ce.cls := by
    have h9 := hO.cls
    rw [hvm] at h9
    exact h9
  have hall : s.sameButNew ({ U with vm := s.vm } : State) locs mc ms := by
    subst hA
    obtain ⟨e1, e2⟩ := hsame
    rw [State.setFrames_setFrames] at e1
    have h2 : (T.setVm s.vm).sameButNew ({ U with vm := s.vm } : State) [] (0 + 1) (0 + 6) := ⟨e1, e2⟩
    have h3 := X.same.trans h2
    rw [List.append_nil] at h3
    exact h3.mono hc hs
  refine ⟨U, ?_, .threw T.heap.size, hrun, hend, Or.inr ⟨T.heap.size, rfl, cls, ce, locs, hx U hWs.alike f1 (fun q hq => f2 q hq (fun z hz => nomatch hz)), hce, hO.vm, hcl, hWs, hall, hf⟩⟩
  refine st1 _ ?_
  show Steps p.tables e below (T1.setTop { method := m, pc := pc + 3, locals := ls, stack := .ref T.heap.size :: rest, locked := none }) _
  jvm_step X₁.here [X₁.here.top, hexec, d3', Value.category]
  exact hsteps
/-- 'throw new E("text")': new; dup; ldc; invokespecial; athrow -/
theorem vx_throwS {cc : ByteArray} {pc : Nat} (hexec : p.tables.exec = Jvm.exec) (hb : c.code = cc) (hl : l.stackTraces = false) {own cls text : String} {names : List String} {ik is ic mc ms sa : Nat} {A : Nat → Prop}
    (hown : s.vm.findClass own = some m.cls) (hcls : Bundle.fit cls = true) (hnames : ∀ n ∈ names, Bundle.fit n = true)
    (hk : (Cond.classLink own ik cls).before args s = true) (hini : (Cond.initialized cls).before args s = true) (hstr : vk_R own is text sa s) (hat : ∀ w ∈ vx_atS own ic cls names, w.before args s = true)
    (hgood : ∀ w ∈ Cond.classLink own ik cls :: Cond.initialized cls :: vx_atS own ic cls names, vx_ot w = true)
    (hU : vx_Zq Bundle.tN "UNASSIGNED_STACK" Bundle.steD A s s.heap) (hN : vx_Zq Bundle.tN "SUPPRESSED_SENTINEL" Bundle.listD A s s.heap) (hS : va_S A s.heap H locs) (hsize : ls.size = c.maxLocals)
    (d0 : decode cc pc = .ok (.new ik, 3)) (d3 : decode cc (pc + 3) = .ok (.dup, 1)) (d4 : decode cc (pc + 4) = .ok (.ldc is, 2)) (d6 : decode cc (pc + 6) = .ok (.invokespecial ic, 3)) (d9 : decode cc (pc + 9) = .ok (.athrow, 1))
    (hout : ∀ x ∈ c.exceptionTable.toList, covers x (pc + 9) = false)
    (hRframes : names.length + 3 < R.frames) (hRlocals : (rest.map fun v => v.category).sum + (13 * (names.length + 1) + 43) ≤ R.locals) (hRcells : cells + 1 ≤ R.cells) (hRslots : slots + 6 ≤ R.slots) (hlocks : meth.locks = false)
    (hx : ∀ t : State, s.vm.Alike t.vm → H.size ≤ t.heap.size → (∀ q : Nat, q < H.size → t.heap[q]? = H[q]?) → XC cls s t)
    (hf : ∀ z ∈ locs, free z.base) (hc : cells + 1 ≤ mc) (hs : slots + 6 ≤ ms) :
    W p l e R s m args below meth c H locs cells slots (vx_MQ below Qc XC args s mc ms free) (F0 m pc ls rest) := by
  intro T hT X
  have htr : e.platform.stackTraces = false := (show e.platform.stackTraces = l.stackTraces by rw [X.admits.platform]).trans hl
  have Y := vx_rebase X (R' := { frames := R.frames, locals := R.locals, cells := 1, slots := 6 }) (Nat.le_refl _) (Nat.le_refl _) hRcells hRslots
  obtain ⟨s', hA⟩ : ∃ z, z = (T.setVm s.vm).setFrames (.invoking m args :: below) := ⟨_, rfl⟩
  rw [← hA] at Y
  have hvm : s'.vm = s.vm := by rw [hA]; rfl
  have hhp : s'.heap = H := by rw [hA]; exact hT
  have hW0 : s.WarmedH s'.vm := by rw [hvm]; exact State.WarmedH.refl s
  have hat' : ∀ w ∈ vx_atS own ic cls names, w.before args s' = true := fun w hw => vx_ot_at hW0 hvm.symm (hgood w (List.mem_cons_of_mem _ (List.mem_cons_of_mem _ hw))) (hat w hw)
  have hk' : (Cond.classLink own ik cls).before args s' = true := vx_ot_at hW0 hvm.symm (hgood _ List.mem_cons_self) hk
  have hini' : (Cond.initialized cls).before args s' = true := vx_ot_at hW0 hvm.symm (hgood _ (List.mem_cons_of_mem _ List.mem_cons_self)) hini
  have hU' : vx_Zq Bundle.tN "UNASSIGNED_STACK" Bundle.steD A s' s'.heap := by rw [hhp]; exact vx_Zq.moved hW0.alike (hU.kept hS.2.1)
  have hN' : vx_Zq Bundle.tN "SUPPRESSED_SENTINEL" Bundle.listD A s' s'.heap := by rw [hhp]; exact vx_Zq.moved hW0.alike (hN.kept hS.2.1)
  have h : ∀ w ∈ Bundle.ownAtoms own ic cls names, w.before args s' = true := vx_own hat' (vx_isRefq hU'.1) (vx_isRefq hN'.1) hU'.2.word hN'.2.word
  have hown' : s'.vm.findClass own = some m.cls := by rw [hvm]; exact hown
  have hins : (Cond.instantiable cls 6).before args s' = true := h _ (by simp [Bundle.ownAtoms])
  obtain ⟨vm₁, cX, kX, hfX, hkX, -, -, X₁, st1⟩ := Y.newCold hexec (own := own) (C := cls) (index := ik) (n := 6) hown' hk' hins hini'
    (g := F0 m pc ls rest) rfl (by rw [hb]; exact d0) (Nat.le_refl _) (Nat.le_refl _)
  generalize hT1 : (T.setVm vm₁).pushCell { cls := cX, slots := kX.instanceTypes.map defaultValue, vm := .none } = T1 at X₁ st1
  have hcat : (Value.ref T.heap.size).category = 1 := rfl
  have hcellA : T1.heap[T.heap.size]? = some (freshCell cX kX) := by rw [← hT1]; exact State.heap_pushCell_size _ _
  have d3' : decode c.code (pc + 3) = .ok (.dup, 1) := by rw [hb]; exact d3
  have d4' : decode c.code (pc + 4) = .ok (.ldc is, 2) := by rw [hb]; exact d4
  have hstr' : vk_R own is text sa s' := vk_R.warm hW0 hstr
  obtain ⟨U, hsteps, hrun, hend, hW, hsame, ce, hce, hO⟩ := X₁.ctorThrowS hexec htr (own := own) (cls := cls) (names := names) (ic := ic) hown' hcls hnames h (fun x hx => nomatch hx) hfX hkX hcellA (by rw [hhp, hT]; exact Nat.le_refl _) (msg := .ref sa) rfl
    (g := { method := m, pc := pc + 6, locals := ls, stack := .ref sa :: .ref T.heap.size :: .ref T.heap.size :: rest, locked := none }) rfl hsize rfl rfl (rest := rest) rfl
    (by rw [hb]; exact d6) (by rw [hb]; exact d9) hout hRframes (by simp only [List.map_cons, List.sum_cons, hcat]; omega) hlocks
  obtain ⟨f1, f2⟩ := vx_frame hsame
  rw [hhp] at f1 f2
  have hWs : s.WarmedH U.vm := State.WarmedH.trans hW0 hW
  have hcl : s.vm.findClass cls = some ce.cls := by
    have h9 := hO.cls
    rw [hvm] at h9
    exact h9
  have hall : s.sameButNew ({ U with vm := s.vm } : State) locs mc ms := by
    subst hA
    obtain ⟨e1, e2⟩ := hsame
    rw [State.setFrames_setFrames] at e1
    have h2 : (T.setVm s.vm).sameButNew ({ U with vm := s.vm } : State) [] (0 + 1) (0 + 6) := ⟨e1, e2⟩
    have h3 := X.same.trans h2
    rw [List.append_nil] at h3
    exact h3.mono hc hs
  refine ⟨U, ?_, .threw T.heap.size, hrun, hend, Or.inr ⟨T.heap.size, rfl, cls, ce, locs, hx U hWs.alike f1 (fun q hq => f2 q hq (fun z hz => nomatch hz)), hce, hO.vm, hcl, hWs, hall, hf⟩⟩
  refine st1 _ ?_
  show Steps p.tables e below (T1.setTop { method := m, pc := pc + 3, locals := ls, stack := .ref T.heap.size :: rest, locked := none }) _
  jvm_step X₁.here [X₁.here.top, hexec, d3', Value.category]
  exact X₁.ldcString hexec (own := own) (text := text) (index := is) (a := sa) hown' hstr'.1 hstr'.2
    (g := { method := m, pc := pc + 4, locals := ls, stack := .ref T.heap.size :: .ref T.heap.size :: rest, locked := none }) rfl d4' _ hsteps
/-- 'throw new E("text")', the text by a wide index -/
theorem vx_throwSW {cc : ByteArray} {pc : Nat} (hexec : p.tables.exec = Jvm.exec) (hb : c.code = cc) (hl : l.stackTraces = false) {own cls text : String} {names : List String} {ik is ic mc ms sa : Nat} {A : Nat → Prop}
    (hown : s.vm.findClass own = some m.cls) (hcls : Bundle.fit cls = true) (hnames : ∀ n ∈ names, Bundle.fit n = true)
    (hk : (Cond.classLink own ik cls).before args s = true) (hini : (Cond.initialized cls).before args s = true) (hstr : vk_R own is text sa s) (hat : ∀ w ∈ vx_atS own ic cls names, w.before args s = true)
    (hgood : ∀ w ∈ Cond.classLink own ik cls :: Cond.initialized cls :: vx_atS own ic cls names, vx_ot w = true)
    (hU : vx_Zq Bundle.tN "UNASSIGNED_STACK" Bundle.steD A s s.heap) (hN : vx_Zq Bundle.tN "SUPPRESSED_SENTINEL" Bundle.listD A s s.heap) (hS : va_S A s.heap H locs) (hsize : ls.size = c.maxLocals)
    (d0 : decode cc pc = .ok (.new ik, 3)) (d3 : decode cc (pc + 3) = .ok (.dup, 1)) (d4 : decode cc (pc + 4) = .ok (.ldc_w is, 3)) (d7 : decode cc (pc + 7) = .ok (.invokespecial ic, 3)) (d10 : decode cc (pc + 10) = .ok (.athrow, 1))
    (hout : ∀ x ∈ c.exceptionTable.toList, covers x (pc + 10) = false)
    (hRframes : names.length + 3 < R.frames) (hRlocals : (rest.map fun v => v.category).sum + (13 * (names.length + 1) + 43) ≤ R.locals) (hRcells : cells + 1 ≤ R.cells) (hRslots : slots + 6 ≤ R.slots) (hlocks : meth.locks = false)
    (hx : ∀ t : State, s.vm.Alike t.vm → H.size ≤ t.heap.size → (∀ q : Nat, q < H.size → t.heap[q]? = H[q]?) → XC cls s t)
    (hf : ∀ z ∈ locs, free z.base) (hc : cells + 1 ≤ mc) (hs : slots + 6 ≤ ms) :
    W p l e R s m args below meth c H locs cells slots (vx_MQ below Qc XC args s mc ms free) (F0 m pc ls rest) := by
  intro T hT X
  have htr : e.platform.stackTraces = false := (show e.platform.stackTraces = l.stackTraces by rw [X.admits.platform]).trans hl
  have Y := vx_rebase X (R' := { frames := R.frames, locals := R.locals, cells := 1, slots := 6 }) (Nat.le_refl _) (Nat.le_refl _) hRcells hRslots
  obtain ⟨s', hA⟩ : ∃ z, z = (T.setVm s.vm).setFrames (.invoking m args :: below) := ⟨_, rfl⟩
  rw [← hA] at Y
  have hvm : s'.vm = s.vm := by rw [hA]; rfl
  have hhp : s'.heap = H := by rw [hA]; exact hT
  have hW0 : s.WarmedH s'.vm := by rw [hvm]; exact State.WarmedH.refl s
  have hat' : ∀ w ∈ vx_atS own ic cls names, w.before args s' = true := fun w hw => vx_ot_at hW0 hvm.symm (hgood w (List.mem_cons_of_mem _ (List.mem_cons_of_mem _ hw))) (hat w hw)
  have hk' : (Cond.classLink own ik cls).before args s' = true := vx_ot_at hW0 hvm.symm (hgood _ List.mem_cons_self) hk
  have hini' : (Cond.initialized cls).before args s' = true := vx_ot_at hW0 hvm.symm (hgood _ (List.mem_cons_of_mem _ List.mem_cons_self)) hini
  have hU' : vx_Zq Bundle.tN "UNASSIGNED_STACK" Bundle.steD A s' s'.heap := by rw [hhp]; exact vx_Zq.moved hW0.alike (hU.kept hS.2.1)
  have hN' : vx_Zq Bundle.tN "SUPPRESSED_SENTINEL" Bundle.listD A s' s'.heap := by rw [hhp]; exact vx_Zq.moved hW0.alike (hN.kept hS.2.1)
  have h : ∀ w ∈ Bundle.ownAtoms own ic cls names, w.before args s' = true := vx_own hat' (vx_isRefq hU'.1) (vx_isRefq hN'.1) hU'.2.word hN'.2.word
  have hown' : s'.vm.findClass own = some m.cls := by rw [hvm]; exact hown
  have hins : (Cond.instantiable cls 6).before args s' = true := h _ (by simp [Bundle.ownAtoms])
  obtain ⟨vm₁, cX, kX, hfX, hkX, -, -, X₁, st1⟩ := Y.newCold hexec (own := own) (C := cls) (index := ik) (n := 6) hown' hk' hins hini'
    (g := F0 m pc ls rest) rfl (by rw [hb]; exact d0) (Nat.le_refl _) (Nat.le_refl _)
  generalize hT1 : (T.setVm vm₁).pushCell { cls := cX, slots := kX.instanceTypes.map defaultValue, vm := .none } = T1 at X₁ st1
  have hcat : (Value.ref T.heap.size).category = 1 := rfl
  have hcellA : T1.heap[T.heap.size]? = some (freshCell cX kX) := by rw [← hT1]; exact State.heap_pushCell_size _ _
  have d3' : decode c.code (pc + 3) = .ok (.dup, 1) := by rw [hb]; exact d3
  have d4' : decode c.code (pc + 4) = .ok (.ldc_w is, 3) := by rw [hb]; exact d4
  have hstr' : vk_R own is text sa s' := vk_R.warm hW0 hstr
  obtain ⟨U, hsteps, hrun, hend, hW, hsame, ce, hce, hO⟩ := X₁.ctorThrowS hexec htr (own := own) (cls := cls) (names := names) (ic := ic) hown' hcls hnames h (fun x hx => nomatch hx) hfX hkX hcellA (by rw [hhp, hT]; exact Nat.le_refl _) (msg := .ref sa) rfl
    (g := { method := m, pc := pc + 7, locals := ls, stack := .ref sa :: .ref T.heap.size :: .ref T.heap.size :: rest, locked := none }) rfl hsize rfl rfl (rest := rest) rfl
    (by rw [hb]; exact d7) (by rw [hb]; exact d10) hout hRframes (by simp only [List.map_cons, List.sum_cons, hcat]; omega) hlocks
  obtain ⟨f1, f2⟩ := vx_frame hsame
  rw [hhp] at f1 f2
  have hWs : s.WarmedH U.vm := State.WarmedH.trans hW0 hW
  have hcl : s.vm.findClass cls = some ce.cls := by
    have h9 := hO.cls
    rw [hvm] at h9
    exact h9
  have hall : s.sameButNew ({ U with vm := s.vm } : State) locs mc ms := by
    subst hA
    obtain ⟨e1, e2⟩ := hsame
    rw [State.setFrames_setFrames] at e1
    have h2 : (T.setVm s.vm).sameButNew ({ U with vm := s.vm } : State) [] (0 + 1) (0 + 6) := ⟨e1, e2⟩
    have h3 := X.same.trans h2
    rw [List.append_nil] at h3
    exact h3.mono hc hs
  refine ⟨U, ?_, .threw T.heap.size, hrun, hend, Or.inr ⟨T.heap.size, rfl, cls, ce, locs, hx U hWs.alike f1 (fun q hq => f2 q hq (fun z hz => nomatch hz)), hce, hO.vm, hcl, hWs, hall, hf⟩⟩
  refine st1 _ ?_
  show Steps p.tables e below (T1.setTop { method := m, pc := pc + 3, locals := ls, stack := .ref T.heap.size :: rest, locked := none }) _
  jvm_step X₁.here [X₁.here.top, hexec, d3', Value.category]
  exact X₁.ldcStringW hexec (own := own) (text := text) (index := is) (a := sa) hown' hstr'.1 hstr'.2
    (g := { method := m, pc := pc + 4, locals := ls, stack := .ref T.heap.size :: .ref T.heap.size :: rest, locked := none }) rfl d4' _ hsteps
end Ends
section Bodies
variable {l : Launch}
theorem vx_ofW {y : MethodName} {ws ws' : List Cond} {rm : Room} {Pc : Array Value → State → Prop} {Qc : Array Value → State → Outcome → State → Prop} {XC : String → State → State → Prop} {mc ms : Nat} {free : Addr → Prop} {cc : ByteArray} {maxL : Nat} {ret : Option FieldType}
    (hy : plainName y.cls = true) (hw : ws = Cond.code y cc maxL ret :: ws')
    (body : ∀ p e s m args below meth c s₁, BodyLoose p l y (headSpec ws rm) cc maxL ret e s m args below meth c s₁ → c.maxLocals = maxL → (∀ x ∈ c.exceptionTable.toList, False) → Pc args s →
      W p l e (headSpec ws rm).room s m args below meth c s.heap [] 0 0 (vx_MQ below Qc XC args s mc ms free) (entryFrame m args maxL)) : vx_Met l y ws rm Pc Qc XC mc ms free := by
  refine MetFree.of_bodyS (code := cc) (maxLocals := maxL) (ret := ret) hy ?_ ?_
  · intro args s m h hn
    obtain ⟨meth, c, h1, h2, h3, h4, h5, h6, -, -⟩ := Cond.code_spec hn (atoms_spec (ws := ws) h _ (by rw [hw]; exact List.mem_cons_self))
    exact ⟨meth, c, h1, h2, h3, h4, h5, h6⟩
  · intro p e s m args below meth c s₁ B hml hP _
    have hh0 : s₁.heap = s.heap := by rw [B.state]; rfl
    have ht : ∀ x ∈ c.exceptionTable.toList, False := by
      obtain ⟨meth9, c9, h1, h2, -, -, -, -, h7, -⟩ := Cond.code_spec B.named (atoms_spec (ws := ws) B.pre _ (by rw [hw]; exact List.mem_cons_self))
      cases Option.some.inj (h1.symm.trans B.method)
      cases Option.some.inj (h2.symm.trans (Stand.of_body B).code)
      intro x hx
      rw [Array.isEmpty_iff.mp h7] at hx
      cases hx
    obtain ⟨t, a1, o, b1, b2, b3⟩ := body p e s m args below meth c s₁ B hml ht hP s₁ hh0 (Stand.of_body B)
    exact ⟨t, o, a1, b1, b2, b3⟩
/-- the table of a body with handlers -/
theorem vx_table {p : Program} {x y : MethodName} {S : Spec} {cc bytes : ByteArray} {maxL maxL' : Nat} {ret ret' : Option FieldType} {e : Env} {s s₁ : State} {m : MethodId} {args : Array Value} {below : List Frame} {meth : Method} {c : Code} {hh : List (Nat × Nat × Nat × Nat)}
    (B : BodyLoose p l y S cc maxL ret e s m args below meth c s₁) (h : (Cond.codeWith y bytes maxL' ret' hh).before args s = true) : c.exceptionTable.toList = tableOf hh := by
  obtain ⟨m9, meth9, c9, hn9, h1, h2, -, -, h6, -⟩ := Cond.codeWith_spec h
  cases Option.some.inj (hn9.symm.trans B.named)
  cases Option.some.inj (h1.symm.trans B.method)
  cases Option.some.inj (h2.symm.trans (Stand.of_body B).code)
  rw [← h6, table_eq]
end Bodies
end VXA
/-! ===== END ===== -/
/-! ===== BEGIN a static call of a method with an exception table ===== -/
section VXS
variable {p : Program} {l : Launch} {e : Env} {R : Room} {s : State} {m : MethodId} {args : Array Value} {below : List Frame} {meth : Method} {c : Code} {T : State} {H : Heap} {locs : List Loc} {cells slots : Nat}
abbrev vx_CSW (R : Room) (s : State) (args : Array Value) (own : String) (index : Nat) (y : MethodName) (bytes : ByteArray) (maxL : Nat) (ret : Option FieldType) (hh : List (Nat × Nat × Nat × Nat)) (ws : List Cond) (rm : Room) (mc ms n : Nat) : Prop :=
  (rm.cells = mc ∧ rm.slots = ms ∧ rm.frames + 1 ≤ R.frames ∧ 8 + (maxL + 11) + rm.locals ≤ R.locals ∧ (∀ w ∈ ws, ∀ (a' : Array Value) (U : State), s.WarmedH U.vm → w.before a' U = true) ∧ Cond.codeWith y bytes maxL ret hh ∈ ws) ∧
  (Cond.codeWith y bytes maxL ret hh).before args s = true ∧ (Cond.initialized y.cls).before args s = true ∧ (y.cls ≠ "java/lang/invoke/MethodHandle" ∧ y.cls ≠ "java/lang/invoke/VarHandle") ∧
  (∀ sig, parseMethodDescriptor y.desc = some sig → n = sig.parameters.length) ∧ (Cond.methodLink own index y).before args s = true ∧ (Cond.static y).before args s = true
theorem vx_cwSW {own : String} {index maxL mc ms : Nat} {y : MethodName} {bytes : ByteArray} {ret : Option FieldType} {hh : List (Nat × Nat × Nat × Nat)} {Ts ws ws' : List Cond} {rm : Room} (n : Nat) (ht : ∀ w ∈ Ts, w.before args s = true) (hT : GoodIn Ts (va_wsS own index y ws)) (hw : ws = Cond.codeWith y bytes maxL ret hh :: ws') (hrc : rm.cells = mc) (hrs : rm.slots = ms)
    (hd : y.cls ≠ "java/lang/invoke/MethodHandle" ∧ y.cls ≠ "java/lang/invoke/VarHandle" ∧ (parseMethodDescriptor y.desc).map (fun d => d.parameters.length) = some n) (hR : rm.frames + 1 ≤ R.frames ∧ 8 + (maxL + 11) + rm.locals ≤ R.locals) :
    vx_CSW R s args own index y bytes maxL ret hh ws rm mc ms n := by
  have ok : ∀ w ∈ va_wsS own index y ws, w.before args s = true := fun w h => ht w (hT w h).1
  have hG : GoodIn Ts ws := fun w h => hT w (by unfold va_wsS; exact List.mem_append_right _ h)
  have hc : Cond.codeWith y bytes maxL ret hh ∈ ws := by rw [hw]; exact List.mem_cons_self
  refine ⟨⟨hrc, hrs, hR.1, hR.2, pay_in ht hG, hc⟩, ht _ (hG _ hc).1, ok _ (by simp [va_wsS]), ⟨hd.1, hd.2.1⟩, fun sig h => ?_, ok _ (by simp [va_wsS]), ok _ (by simp [va_wsS])⟩
  have h2 := hd.2.2
  rw [h] at h2
  exact (Option.some.inj h2).symm
theorem vx_callSW (X : Stand p l e R s m args below meth c T locs cells slots) (hexec : p.tables.exec = Jvm.exec) {own : String} {index : Nat} {y : MethodName} {bytes : ByteArray} {maxL : Nat} {ret : Option FieldType} {hh : List (Nat × Nat × Nat × Nat)}
    (hown : s.vm.findClass own = some m.cls) (hlink : (Cond.methodLink own index y).before args s = true) (hstat : (Cond.static y).before args s = true) (hinit : (Cond.initialized y.cls).before args s = true)
    (hcode : (Cond.codeWith y bytes maxL ret hh).before args s = true) (hy : y.cls ≠ "java/lang/invoke/MethodHandle" ∧ y.cls ≠ "java/lang/invoke/VarHandle")
    {W9 : Nat} {Pre : Pt → Array Value → Prop} {Post : Pt → Array Value → Option Value → Pt → Prop} (hK : Back l R p e below s args y 3 W9 Pre Post)
    {g : JFrame} (hg : g.method = m) (hsize : g.locals.size = c.maxLocals) {argsL rest : List Value} (hlen : ∀ sig, parseMethodDescriptor y.desc = some sig → argsL.length = sig.parameters.length)
    (hstack : g.stack = argsL.reverse ++ rest) (hW : 2 * g.monitorRoom + (rest.map fun v => v.category).sum ≤ W9) (hdg : decode c.code g.pc = .ok (.invokestatic index, 3))
    (hpre : ∀ vm₁, s.WarmedH vm₁ → Pre ⟨T.setVm vm₁, locs, cells, slots⟩ argsL.toArray) :
    ∃ (v : Option Value) (vm₁ : Vm) (B : Pt), s.WarmedH vm₁ ∧ Stand p l e R s m args below meth c B.U B.locs B.cells B.slots ∧ Post ⟨T.setVm vm₁, locs, cells, slots⟩ argsL.toArray v B ∧
      ∀ target, Steps p.tables e below (B.U.setTop { g with pc := g.pc + 3, stack := v.toList ++ rest }) target → Steps p.tables e below (T.setTop g) target := by
  obtain ⟨mk, methM, cM, hnamed, hmethM, -, -, -, -, -, -, hsigM⟩ := Cond.codeWith_spec hcode
  have hstatic : methM.isStatic = true := Cond.static_spec hnamed hmethM hstat
  obtain ⟨kP, hkP, -⟩ := className_of_methodNamed hnamed
  have hinitP : kP.init = .initialized := Cond.initialized_spec (findClass_of_methodNamed hnamed) hkP hinit
  obtain ⟨vm₁, X₁, hstep₁⟩ := X.invokestatic hexec hown hlink hnamed hmethM hstatic hkP hinitP hy (g := g) hg (argsL := argsL) (rest := rest) (hlen _ hsigM) hstack hdg
  obtain ⟨v, B, X', hpost, hsteps⟩ := hK m meth c ⟨T.setVm vm₁, locs, cells, slots⟩ { g with stack := rest } (.invokestatic index) mk argsL.toArray X₁ hg hsize hdg hW (X₁.named hnamed) (hpre vm₁ X₁.warmed)
  exact ⟨v, vm₁, B, X₁.warmed, X', hpost, fun target h => hstep₁ _ fun acts => by rw [doInvoke_state]; exact hsteps.trans h⟩
theorem vx_runSW {y : MethodName} {bytes cc : ByteArray} {maxL nL mc ms n index : Nat} {ret : Option FieldType} {hh : List (Nat × Nat × Nat × Nat)} {ws : List Cond} {rm : Room} {Pc : Array Value → State → Prop} {Qc : Array Value → State → Outcome → State → Prop} {free : Addr → Prop} {Ts : List Cond} {own : String} {As rest : List Value} {g : JFrame}
    (S : CallFix p m c cc nL s args Ts own) (hM : Met l y ws rm Pc Qc mc ms free) (cw : vx_CSW R s args own index y bytes maxL ret hh ws rm mc ms n) (hp : PreS s H Pc As)
    (hg : g.method = m) (hn : As.length = n) (hsize : g.locals.size = nL) (hstack : g.stack = As.reverse ++ rest) (hW : 2 * g.monitorRoom + (rest.map fun v => v.category).sum ≤ 8) (hdg : decode cc g.pc = .ok (.invokestatic index, 3)) (hf : cells + mc ≤ R.cells ∧ slots + ms ≤ R.slots) :
    va_Run p l e R s m args below meth c H locs cells slots mc ms g rest (Qc As.toArray) (free) := by
  obtain ⟨⟨hrc, hrs, hfr, hlo, hws, hcw⟩, hcode, hini, hy, hlen, hl, hstt⟩ := cw
  have hK : Back l R p e below s args y 3 8 (PreOf R mc ms Pc) (PostOf Qc mc ms free) := va_backW (hh := hh) (bytes := bytes) (maxL := maxL) (ret := ret) hM hp.1 hrc hrs hfr hlo hws hcw (fun a' U hW => word_at hW (Or.inl (by first | rfl | simp [Cond.onTables, Cond.keeps, Cond.steady])) hini)
  obtain ⟨hx, hb, hml, ho, -⟩ := S
  intro T hT X
  obtain ⟨v, vm₁, ⟨U', l2, c2, s2⟩, hW₁, X', ⟨g', mk, t, L, e1, e2, hq, h1, hL, h2, h3⟩, st⟩ := vx_callSW X hx (hh := hh) (bytes := bytes) (maxL := maxL) (ret := ret) ho hl hstt hini hcode hy hK hg (hsize.trans hml.symm) (argsL := As) (rest := rest) (fun sig h => hn.trans (hlen sig h)) hstack hW (by rw [hb]; exact hdg)
    (fun vm₁ hW₁ => ⟨hf.1, hf.2, hp.2 (T.setVm vm₁) hT hW₁⟩)
  dsimp only [Pt.U, Pt.locs, Pt.cells, Pt.slots] at X' e1 e2 h1 h2 h3 st
  subst h1; subst h2; subst h3
  exact ⟨v, (T.setVm vm₁).calling g' mk As.toArray, t, U', L, hT, X', hL, e1, e2, hq, st⟩
/-- not caught here, past rows that name other classes: it goes on to the caller -/
theorem vx_outP {p : Program} {l : Launch} {e : Env} {R : Room} {s : State} {m : MethodId} {args : Array Value} {below : List Frame} {meth : Method} {c : Code} {H : Heap} {locs : List Loc} {cells slots : Nat} {free : Addr → Prop} {ls : Array Slot} {rest : List Value} {Qc : Array Value → State → Outcome → State → Prop} {XC : String → State → State → Prop}
    {pc : Nat} {own E : String} {ce : Cell} {q : Addr} {mc ms : Nat} (hown : s.vm.findClass own = some m.cls) (hlocks : meth.locks = false)
    (hpass : ∀ z ∈ c.exceptionTable.toList, covers z pc = false ∨ (z.catchType ≠ 0 ∧ ∃ nm : String, (Cond.classLink own z.catchType nm).before args s = true ∧ va_Nc E nm s)) (hcell : H[q]? = some ce) (hv : ce.vm = .none) (hcl : s.vm.findClass E = some ce.cls)
    (hx : ∀ t : State, t.heap = H → s.vm.Alike t.vm → XC E s t) (hf : ∀ z ∈ locs, free z.base) (hc : cells ≤ mc) (hs : slots ≤ ms) :
    vx_W p l e R s m args below meth c H locs cells slots (vx_MQ below Qc XC args s mc ms free) (F0 m pc ls rest) q := by
  intro T hT X
  have hpl : e.platform.magicAccessors = ({} : Platform).magicAccessors := by rw [X.admits.platform]
  obtain ⟨vm', hW', X', st⟩ := X.outThrough hlocks q (g := F0 m pc ls rest) rfl rfl rfl (cell := ce) (by rw [hT]; exact hcell) (by rw [hv]; rfl)
    (by obtain ⟨k9, h9, -⟩ := Vm.findClass_spec hcl; exact ⟨k9, h9⟩) (fun z hz => by
      rcases hpass z hz with h | ⟨hz0, nm, hl1, hn1⟩
      · exact Or.inl h
      · obtain ⟨c6, hc6, hcl6⟩ := Cond.classLink_spec hown hl1 e.platform hpl
        obtain ⟨a8, b8, h1, h2, h3⟩ := hn1
        cases Option.some.inj (h1.symm.trans hcl)
        cases Option.some.inj (h2.symm.trans hc6)
        exact Or.inr ⟨hz0, _, hcl6, h3⟩)
  obtain ⟨g₀, hfr⟩ := X'.frames_eq
  have hcell9 : ((T.setVm vm').setFrames (.throwing q :: below)).heap[q]? = some ce := by
    show T.heap[q]? = some ce
    rw [hT]; exact hcell
  have hend : Ended ((T.setVm vm').setFrames (.throwing q :: below)) below (.threw q) := State.frames_setFrames _ (State.cur_lt_of_frames hfr)
  refine ⟨(T.setVm vm').setFrames (.throwing q :: below), ?_, .threw q, X'.here.running, hend, Or.inr ⟨q, rfl, E, ce, locs, hx _ hT (X'.ends _).1.alike, hcell9, hv, hcl, (X'.ends _).1, (X'.ends _).2.mono hc hs, hf⟩⟩
  rw [X.pushThrowing_eq]
  exact st
/-- a thing of a world lies in the heap -/
theorem vx_lt {D : va_G} {cl : List vw_C} {ws : va_W} {H1 : Heap} (h : va_P D cl ws H1) {k : Nat} {q : Nat × va_E} (hk : ws[k]? = some q) : q.1 < H1.size := (h k q hk).lt
end VXS
/-! ===== END ===== -/
/-! ===== BEGIN methods with a table of their own: called by a name, returning or throwing ===== -/
section VXH
/-! vx_backW, vx_callVX, vx_callSX, vx_callVW, vx_runVW, vx_runVX, vx_runSX, vx_ofWH follow the same proofs as their sisters above (Free/Laws.lean, Shelf42/LK1.lean); vx_outP calls Shelf42/NT130.lean (outThrough). -/
section
variable {l : Launch} {R : Room} {p : Program} {e : Env} {below : List Frame} {s : State} {sargs : Array Value} {y : MethodName} {len W9 : Nat}
theorem vx_backW {ws : List Cond} {rm : Room} {Pc : Array Value → State → Prop} {Qc : Array Value → State → Outcome → State → Prop} {XC : String → State → State → Prop} {mc ms : Nat} {free : Addr → Prop} {bytes : ByteArray} {maxL : Nat} {ret : Option FieldType} {hh : List (Nat × Nat × Nat × Nat)}
    (hM : vx_Met l y ws rm Pc Qc XC mc ms free) (hblind : FrameBlind Pc) (hrc : rm.cells = mc) (hrs : rm.slots = ms)
    (hframes : rm.frames + 1 ≤ R.frames) (hlocals : W9 + (maxL + 11) + rm.locals ≤ R.locals)
    (hws : ∀ w ∈ ws, ∀ a' U, s.WarmedH U.vm → w.before a' U = true) (hcode : Cond.codeWith y bytes maxL ret hh ∈ ws) (hinit : ∀ a' U, s.WarmedH U.vm → (Cond.initialized y.cls).before a' U = true) :
    vx_Back l R p e below s sargs y len W9 (PreOf R mc ms Pc) (PostOf Qc mc ms free) (vx_Post XC mc ms free) := by
  intro m meth c A g ig mk a X hg hsize hdg hW hn hp
  have h1 : (headSpec ws rm).pre.before a A.U = true := atoms_intro fun w hw => hws w hw _ _ X.warmed
  have h2 : (Cond.codeWith y bytes maxL ret hh).before a A.U = true := hws _ hcode _ _ X.warmed
  have h3 : (Cond.initialized y.cls).before a A.U = true := hinit _ _ X.warmed
  have h4 : A.cells + (headSpec ws rm).room.cells ≤ R.cells := by rw [show (headSpec ws rm).room.cells = mc from hrc]; exact hp.1
  have h5 : A.slots + (headSpec ws rm).room.slots ≤ R.slots := by rw [show (headSpec ws rm).room.slots = ms from hrs]; exact hp.2.1
  have hPc : Pc a (A.U.calling g mk a) := hblind _ _ _ _ hp.2.2
  obtain ⟨U, Ls, c0, s0⟩ := A
  dsimp only [Pt.U, Pt.locs, Pt.cells, Pt.slots] at h1 h2 h3 h4 h5 X hn hPc ⊢
  obtain ⟨m9, methY, cY, hn9, hmY, hcY, -, hlY, -⟩ := Cond.codeWith_spec h2
  cases Option.some.inj (hn9.symm.trans hn)
  obtain ⟨kY, hkY, -⟩ := className_of_methodNamed hn
  have hinitY : kY.init = .initialized := Cond.initialized_spec (findClass_of_methodNamed hn) hkY h3
  have h : At U g.method c below := by rw [hg]; exact X.here
  have hlocals9 : W9 + (maxL + 11) + (headSpec ws rm).room.locals ≤ R.locals := hlocals
  have happ : (headSpec ws rm).appliesLoose y e.platform (U.calling g mk a) = true :=
    Spec.appliesLoose_calling (g := g) h hdg hn hkY hinitY
      (X.room_calling (g := g) (R' := (headSpec ws rm).room) hsize hmY hcY hframes (by rw [hlY]; omega) h4 h5) h1
  obtain ⟨mid, hmid⟩ := h.above
  have hfr : (U.setTop g).frames = (.java g :: mid) ++ below := by rw [State.frames_setTop' g h.top, hmid]; rfl
  obtain ⟨o, s₂, hsteps, -, hend, hq⟩ := Steps.callFree hM p X.admits X.cas X.clock (acts := []) hfr happ hPc trivial
  have hq' : vx_Q Qc XC mc ms free a (U.calling g mk a) o s₂ := hq
  rw [State.frames_setTop' g h.top] at hend
  obtain ⟨g₀, hg0⟩ := Option.isSome_iff_exists.mp h.top
  obtain ⟨r, hr⟩ := State.topJava?_eq_some.mp hg0
  have hr' : (({ U with heap := s₂.heap, slotsUsed := s₂.slotsUsed } : State).setVm s₂.vm).frames = .java g₀ :: r := hr
  rcases hq' with ⟨hqc, L, hfe, hL⟩ | ⟨q, rfl, E, ce, L, hx, hce, hcv, hcl, hW₂, hsm, hL⟩
  · obtain ⟨⟨v, rfl⟩, hW₂, e2, q2, q3, q4, q5, q6⟩ := id hfe
    have e3 : s₂ = ({ (U.calling g mk a).setFrames s₂.frames with heap := s₂.heap, slotsUsed := s₂.slotsUsed } : State).setVm s₂.vm := by
      have : s₂ = ({ s₂ with vm := (U.calling g mk a).vm } : State).setVm s₂.vm := rfl
      rw [e2] at this
      exact this
    obtain ⟨c₂, i₂, len₂, hc₂, hd₂, hf₂⟩ := hend
    have hW' : U.WarmedH s₂.vm := hW₂
    have hcc : c₂ = c := by
      have h1 : s₂.code? g.method = U.code? g.method := by
        rw [State.code?_eq, State.code?_eq, hW'.alike.method?]
      exact Option.some.inj (hc₂.symm.trans (h1.trans h.code))
    subst hcc
    have hlen : len₂ = len := by rw [hdg] at hd₂; cases hd₂; rfl
    subst hlen
    have hs₂ : s₂ = (({ U with heap := s₂.heap, slotsUsed := s₂.slotsUsed } : State).setVm s₂.vm).setTop { g with pc := g.pc + len₂, stack := v.toList ++ g.stack } := by
      refine e3.trans ?_
      rw [hf₂, State.calling_eq h.top, State.setFrames_setFrames, State.setTop_of_frames _ hr', hr]
      rfl
    have hsame : U.sameButNew ({ U with heap := s₂.heap, slotsUsed := s₂.slotsUsed } : State) L mc ms := by
      refine ⟨?_, q2, q3, q4, q5, q6⟩
      obtain ⟨t, ht, -⟩ := State.frames_cons hr
      show ({ U with heap := s₂.heap, slotsUsed := s₂.slotsUsed } : State) = { U.setFrames U.frames with heap := s₂.heap, slotsUsed := s₂.slotsUsed }
      rw [State.setFrames_self ht]
    subst hg
    refine Or.inl ⟨v, ⟨(({ U with heap := s₂.heap, slotsUsed := s₂.slotsUsed } : State).setVm s₂.vm), Ls ++ L, c0 + mc, s0 + ms⟩,
      ⟨X.admits, X.cas, X.clock, X.frames, X.room, X.hears, X.method, X.code, (X.here.setHeapUsed s₂.heap s₂.slotsUsed).setVm hW'.alike, X.tail, State.WarmedH.trans X.warmed hW', X.limits, X.bytes, X.same.trans (hsame.setVm s.vm)⟩,
      ⟨g, mk, s₂, L, rfl, rfl, hqc, rfl, hL, rfl, rfl⟩, ?_⟩
    show Steps p.tables e below _ ((({ U with heap := s₂.heap, slotsUsed := s₂.slotsUsed } : State).setVm s₂.vm).setTop { g with pc := g.pc + len₂, stack := v.toList ++ g.stack })
    rw [← hs₂]
    exact hsteps
  · obtain ⟨e2, q2, q3, q4, q5, q6⟩ := id hsm
    have e3 : s₂ = ({ (U.calling g mk a).setFrames s₂.frames with heap := s₂.heap, slotsUsed := s₂.slotsUsed } : State).setVm s₂.vm := by
      have : s₂ = ({ s₂ with vm := (U.calling g mk a).vm } : State).setVm s₂.vm := rfl
      rw [e2] at this
      exact this
    have hf₂ : s₂.frames = .throwing q :: .java g :: U.frames.tail := hend
    have hW' : U.WarmedH s₂.vm := hW₂
    have hs₂ : s₂ = ((({ U with heap := s₂.heap, slotsUsed := s₂.slotsUsed } : State).setVm s₂.vm).setTop g).pushFrame (.throwing q) := by
      refine e3.trans ?_
      rw [hf₂, State.calling_eq h.top, State.setFrames_setFrames, State.pushFrame, State.frames_setTop _ hr', State.setTop_of_frames _ hr', State.setFrames_setFrames, hr]
      rfl
    have hsame : U.sameButNew ({ U with heap := s₂.heap, slotsUsed := s₂.slotsUsed } : State) L mc ms := by
      refine ⟨?_, q2, q3, q4, q5, q6⟩
      obtain ⟨t, ht, -⟩ := State.frames_cons hr
      show ({ U with heap := s₂.heap, slotsUsed := s₂.slotsUsed } : State) = { U.setFrames U.frames with heap := s₂.heap, slotsUsed := s₂.slotsUsed }
      rw [State.setFrames_self ht]
    subst hg
    refine Or.inr ⟨q, ⟨(({ U with heap := s₂.heap, slotsUsed := s₂.slotsUsed } : State).setVm s₂.vm), Ls ++ L, c0 + mc, s0 + ms⟩,
      ⟨X.admits, X.cas, X.clock, X.frames, X.room, X.hears, X.method, X.code, (X.here.setHeapUsed s₂.heap s₂.slotsUsed).setVm hW'.alike, X.tail, State.WarmedH.trans X.warmed hW', X.limits, X.bytes, X.same.trans (hsame.setVm s.vm)⟩,
      ⟨g, mk, s₂, L, E, ce, rfl, rfl, hx, hce, hcv, hcl, rfl, hL, rfl, rfl⟩, ?_⟩
    show Steps p.tables e below _ (((({ U with heap := s₂.heap, slotsUsed := s₂.slotsUsed } : State).setVm s₂.vm).setTop g).pushFrame (.throwing q))
    rw [← hs₂]
    exact hsteps
end
variable {p : Program} {l : Launch} {e : Env} {R : Room} {s : State} {m : MethodId} {args : Array Value} {below : List Frame} {meth : Method} {c : Code} {T : State} {H : Heap} {locs : List Loc} {cells slots : Nat}
theorem vx_callVX (X : Stand p l e R s m args below meth c T locs cells slots) (hexec : p.tables.exec = Jvm.exec) {own C : String} {index : Nat} {y : MethodName} {bytes : ByteArray} {maxL : Nat} {ret : Option FieldType} {hh : List (Nat × Nat × Nat × Nat)}
    (hown : s.vm.findClass own = some m.cls) (hlink : (Cond.methodLink own index y).before args s = true) (hinst : (Cond.instanceMethod y).before args s = true) (hsel : (Cond.selects C y y).before args s = true)
    (hcode : (Cond.codeWith y bytes maxL ret hh).before args s = true) (hy : y.cls ≠ "java/lang/invoke/MethodHandle" ∧ y.cls ≠ "java/lang/invoke/VarHandle")
    {W9 : Nat} {Pre : Pt → Array Value → Prop} {Post : Pt → Array Value → Option Value → Pt → Prop} {PostX : Pt → Array Value → Addr → Pt → Prop} (hK : vx_Back l R p e below s args y 3 W9 Pre Post PostX)
    {b : Addr} {cellB : Cell} (hcell : T.heap[b]? = some cellB) (hobj : cellB.vm.isStatics = false) (hcls : s.vm.findClass C = some cellB.cls)
    {g : JFrame} (hg : g.method = m) (hsize : g.locals.size = c.maxLocals) {argsL rest : List Value} (hlen : ∀ sig, parseMethodDescriptor y.desc = some sig → argsL.length = sig.parameters.length)
    (hstack : g.stack = argsL.reverse ++ .ref b :: rest) (hW : 2 * g.monitorRoom + (rest.map fun v => v.category).sum ≤ W9) (hdg : decode c.code g.pc = .ok (.invokevirtual index, 3))
    (hpre : ∀ vm₁, s.WarmedH vm₁ → Pre ⟨T.setVm vm₁, locs, cells, slots⟩ (Value.ref b :: argsL).toArray) :
    (∃ (v : Option Value) (vm₁ : Vm) (B : Pt), s.WarmedH vm₁ ∧ Stand p l e R s m args below meth c B.U B.locs B.cells B.slots ∧ Post ⟨T.setVm vm₁, locs, cells, slots⟩ (Value.ref b :: argsL).toArray v B ∧
      ∀ target, Steps p.tables e below (B.U.setTop { g with pc := g.pc + 3, stack := v.toList ++ rest }) target → Steps p.tables e below (T.setTop g) target) ∨
    (∃ (q : Addr) (vm₁ : Vm) (B : Pt), s.WarmedH vm₁ ∧ Stand p l e R s m args below meth c B.U B.locs B.cells B.slots ∧ PostX ⟨T.setVm vm₁, locs, cells, slots⟩ (Value.ref b :: argsL).toArray q B ∧
      Steps p.tables e below (T.setTop g) ((B.U.setTop { g with stack := rest }).pushFrame (.throwing q))) := by
  obtain ⟨mk, methM, hnamed, hmethM, hstM, habM⟩ := Cond.instanceMethod_spec hinst
  obtain ⟨m8, methM', cM, hn8, hmethM', -, -, -, -, -, -, hsigM⟩ := Cond.codeWith_spec hcode
  cases Option.some.inj (hn8.symm.trans hnamed)
  cases hmethM.symm.trans hmethM'
  obtain ⟨c2, r2, m2, q1, q2, q3, q4, kP, hkP, hkPi⟩ := Cond.selects_spec hsel
  cases hcls.symm.trans q1
  cases (State.methodFound?_of_named hnamed hy).symm.trans q2
  cases hnamed.symm.trans q3
  have hselP : selectMethod e.platform s.vm cellB.cls mk = .method mk := by rw [Launch.admits_selectMethod X.admits]; exact q4
  obtain ⟨vm₁, X₁, hstep₁⟩ := X.invokevirtual hexec hown hlink hnamed hmethM hstM hkP hkPi hy (a := b) (cell := cellB) hcell
    (fun z h => by rw [h] at hobj; cases hobj) hselP hmethM habM hkP hkPi (g := g) hg (argsL := argsL) (rest := rest) (hlen _ hsigM) hstack hdg
  rcases hK m meth c ⟨T.setVm vm₁, locs, cells, slots⟩ { g with stack := rest } (.invokevirtual index) mk (Value.ref b :: argsL).toArray X₁ hg hsize hdg hW (X₁.named hnamed) (hpre vm₁ X₁.warmed) with ⟨v, B, X', hpost, hsteps⟩ | ⟨q, B, X', hpost, hsteps⟩
  · exact Or.inl ⟨v, vm₁, B, X₁.warmed, X', hpost, fun target h => hstep₁ _ fun acts => by rw [doInvoke_state]; exact hsteps.trans h⟩
  · exact Or.inr ⟨q, vm₁, B, X₁.warmed, X', hpost, hstep₁ _ fun acts => by rw [doInvoke_state]; exact hsteps⟩
theorem vx_callSX (X : Stand p l e R s m args below meth c T locs cells slots) (hexec : p.tables.exec = Jvm.exec) {own : String} {index : Nat} {y : MethodName} {bytes : ByteArray} {maxL : Nat} {ret : Option FieldType} {hh : List (Nat × Nat × Nat × Nat)}
    (hown : s.vm.findClass own = some m.cls) (hlink : (Cond.methodLink own index y).before args s = true) (hstat : (Cond.static y).before args s = true) (hinit : (Cond.initialized y.cls).before args s = true)
    (hcode : (Cond.codeWith y bytes maxL ret hh).before args s = true) (hy : y.cls ≠ "java/lang/invoke/MethodHandle" ∧ y.cls ≠ "java/lang/invoke/VarHandle")
    {W9 : Nat} {Pre : Pt → Array Value → Prop} {Post : Pt → Array Value → Option Value → Pt → Prop} {PostX : Pt → Array Value → Addr → Pt → Prop} (hK : vx_Back l R p e below s args y 3 W9 Pre Post PostX)
    {g : JFrame} (hg : g.method = m) (hsize : g.locals.size = c.maxLocals) {argsL rest : List Value} (hlen : ∀ sig, parseMethodDescriptor y.desc = some sig → argsL.length = sig.parameters.length)
    (hstack : g.stack = argsL.reverse ++ rest) (hW : 2 * g.monitorRoom + (rest.map fun v => v.category).sum ≤ W9) (hdg : decode c.code g.pc = .ok (.invokestatic index, 3))
    (hpre : ∀ vm₁, s.WarmedH vm₁ → Pre ⟨T.setVm vm₁, locs, cells, slots⟩ argsL.toArray) :
    (∃ (v : Option Value) (vm₁ : Vm) (B : Pt), s.WarmedH vm₁ ∧ Stand p l e R s m args below meth c B.U B.locs B.cells B.slots ∧ Post ⟨T.setVm vm₁, locs, cells, slots⟩ argsL.toArray v B ∧
      ∀ target, Steps p.tables e below (B.U.setTop { g with pc := g.pc + 3, stack := v.toList ++ rest }) target → Steps p.tables e below (T.setTop g) target) ∨
    (∃ (q : Addr) (vm₁ : Vm) (B : Pt), s.WarmedH vm₁ ∧ Stand p l e R s m args below meth c B.U B.locs B.cells B.slots ∧ PostX ⟨T.setVm vm₁, locs, cells, slots⟩ argsL.toArray q B ∧
      Steps p.tables e below (T.setTop g) ((B.U.setTop { g with stack := rest }).pushFrame (.throwing q))) := by
  obtain ⟨mk, methM, cM, hnamed, hmethM, -, -, -, -, -, -, hsigM⟩ := Cond.codeWith_spec hcode
  have hstatic : methM.isStatic = true := Cond.static_spec hnamed hmethM hstat
  obtain ⟨kP, hkP, -⟩ := className_of_methodNamed hnamed
  have hinitP : kP.init = .initialized := Cond.initialized_spec (findClass_of_methodNamed hnamed) hkP hinit
  obtain ⟨vm₁, X₁, hstep₁⟩ := X.invokestatic hexec hown hlink hnamed hmethM hstatic hkP hinitP hy (g := g) hg (argsL := argsL) (rest := rest) (hlen _ hsigM) hstack hdg
  rcases hK m meth c ⟨T.setVm vm₁, locs, cells, slots⟩ { g with stack := rest } (.invokestatic index) mk argsL.toArray X₁ hg hsize hdg hW (X₁.named hnamed) (hpre vm₁ X₁.warmed) with ⟨v, B, X', hpost, hsteps⟩ | ⟨q, B, X', hpost, hsteps⟩
  · exact Or.inl ⟨v, vm₁, B, X₁.warmed, X', hpost, fun target h => hstep₁ _ fun acts => by rw [doInvoke_state]; exact hsteps.trans h⟩
  · exact Or.inr ⟨q, vm₁, B, X₁.warmed, X', hpost, hstep₁ _ fun acts => by rw [doInvoke_state]; exact hsteps⟩
theorem vx_callVW (X : Stand p l e R s m args below meth c T locs cells slots) (hexec : p.tables.exec = Jvm.exec) {own C : String} {index : Nat} {y : MethodName} {bytes : ByteArray} {maxL : Nat} {ret : Option FieldType} {hh : List (Nat × Nat × Nat × Nat)}
    (hown : s.vm.findClass own = some m.cls) (hlink : (Cond.methodLink own index y).before args s = true) (hinst : (Cond.instanceMethod y).before args s = true) (hsel : (Cond.selects C y y).before args s = true)
    (hcode : (Cond.codeWith y bytes maxL ret hh).before args s = true) (hy : y.cls ≠ "java/lang/invoke/MethodHandle" ∧ y.cls ≠ "java/lang/invoke/VarHandle")
    {W9 : Nat} {Pre : Pt → Array Value → Prop} {Post : Pt → Array Value → Option Value → Pt → Prop} (hK : Back l R p e below s args y 3 W9 Pre Post)
    {b : Addr} {cellB : Cell} (hcell : T.heap[b]? = some cellB) (hobj : cellB.vm.isStatics = false) (hcls : s.vm.findClass C = some cellB.cls)
    {g : JFrame} (hg : g.method = m) (hsize : g.locals.size = c.maxLocals) {argsL rest : List Value} (hlen : ∀ sig, parseMethodDescriptor y.desc = some sig → argsL.length = sig.parameters.length)
    (hstack : g.stack = argsL.reverse ++ .ref b :: rest) (hW : 2 * g.monitorRoom + (rest.map fun v => v.category).sum ≤ W9) (hdg : decode c.code g.pc = .ok (.invokevirtual index, 3))
    (hpre : ∀ vm₁, s.WarmedH vm₁ → Pre ⟨T.setVm vm₁, locs, cells, slots⟩ (Value.ref b :: argsL).toArray) :
    ∃ (v : Option Value) (vm₁ : Vm) (B : Pt), s.WarmedH vm₁ ∧ Stand p l e R s m args below meth c B.U B.locs B.cells B.slots ∧ Post ⟨T.setVm vm₁, locs, cells, slots⟩ (Value.ref b :: argsL).toArray v B ∧
      ∀ target, Steps p.tables e below (B.U.setTop { g with pc := g.pc + 3, stack := v.toList ++ rest }) target → Steps p.tables e below (T.setTop g) target := by
  obtain ⟨mk, methM, hnamed, hmethM, hstM, habM⟩ := Cond.instanceMethod_spec hinst
  obtain ⟨m8, methM', cM, hn8, hmethM', -, -, -, -, -, -, hsigM⟩ := Cond.codeWith_spec hcode
  cases Option.some.inj (hn8.symm.trans hnamed)
  cases hmethM.symm.trans hmethM'
  obtain ⟨c2, r2, m2, q1, q2, q3, q4, kP, hkP, hkPi⟩ := Cond.selects_spec hsel
  cases hcls.symm.trans q1
  cases (State.methodFound?_of_named hnamed hy).symm.trans q2
  cases hnamed.symm.trans q3
  have hselP : selectMethod e.platform s.vm cellB.cls mk = .method mk := by rw [Launch.admits_selectMethod X.admits]; exact q4
  obtain ⟨vm₁, X₁, hstep₁⟩ := X.invokevirtual hexec hown hlink hnamed hmethM hstM hkP hkPi hy (a := b) (cell := cellB) hcell
    (fun z h => by rw [h] at hobj; cases hobj) hselP hmethM habM hkP hkPi (g := g) hg (argsL := argsL) (rest := rest) (hlen _ hsigM) hstack hdg
  obtain ⟨v, B, X', hpost, hsteps⟩ := hK m meth c ⟨T.setVm vm₁, locs, cells, slots⟩ { g with stack := rest } (.invokevirtual index) mk (Value.ref b :: argsL).toArray X₁ hg hsize hdg hW (X₁.named hnamed) (hpre vm₁ X₁.warmed)
  exact ⟨v, vm₁, B, X₁.warmed, X', hpost, fun target h => hstep₁ _ fun acts => by rw [doInvoke_state]; exact hsteps.trans h⟩
abbrev vx_CVW (R : Room) (s : State) (args : Array Value) (own C : String) (index : Nat) (y : MethodName) (bytes : ByteArray) (maxL : Nat) (ret : Option FieldType) (hh : List (Nat × Nat × Nat × Nat)) (ws : List Cond) (rm : Room) (mc ms n : Nat) : Prop :=
  (rm.cells = mc ∧ rm.slots = ms ∧ rm.frames + 1 ≤ R.frames ∧ 8 + (maxL + 11) + rm.locals ≤ R.locals ∧ (∀ w ∈ ws, ∀ (a' : Array Value) (U : State), s.WarmedH U.vm → w.before a' U = true) ∧ Cond.codeWith y bytes maxL ret hh ∈ ws) ∧
  (Cond.codeWith y bytes maxL ret hh).before args s = true ∧ (Cond.initialized y.cls).before args s = true ∧ (y.cls ≠ "java/lang/invoke/MethodHandle" ∧ y.cls ≠ "java/lang/invoke/VarHandle") ∧
  (∀ sig, parseMethodDescriptor y.desc = some sig → n = sig.parameters.length) ∧ (Cond.methodLink own index y).before args s = true ∧ (Cond.instanceMethod y).before args s = true ∧ (Cond.selects C y y).before args s = true
theorem vx_cwVW {own C : String} {index maxL mc ms : Nat} {y : MethodName} {bytes : ByteArray} {ret : Option FieldType} {hh : List (Nat × Nat × Nat × Nat)} {Ts ws ws' : List Cond} {rm : Room} (n : Nat) (ht : ∀ w ∈ Ts, w.before args s = true) (hT : GoodIn Ts (wsV own index C y ws)) (hw : ws = Cond.codeWith y bytes maxL ret hh :: ws') (hrc : rm.cells = mc) (hrs : rm.slots = ms)
    (hd : y.cls = C ∧ y.cls ≠ "java/lang/invoke/MethodHandle" ∧ y.cls ≠ "java/lang/invoke/VarHandle" ∧ (parseMethodDescriptor y.desc).map (fun d => d.parameters.length) = some n) (hR : rm.frames + 1 ≤ R.frames ∧ 8 + (maxL + 11) + rm.locals ≤ R.locals) :
    vx_CVW R s args own C index y bytes maxL ret hh ws rm mc ms n := by
  obtain ⟨hC, hd⟩ := hd
  subst hC
  have ok : ∀ w ∈ wsV own index y.cls y ws, w.before args s = true := fun w h => ht w (hT w h).1
  have hG : GoodIn Ts ws := fun w h => hT w (by unfold wsV; exact List.mem_append_right _ h)
  have hc : Cond.codeWith y bytes maxL ret hh ∈ ws := by rw [hw]; exact List.mem_cons_self
  refine ⟨⟨hrc, hrs, hR.1, hR.2, pay_in ht hG, hc⟩, ht _ (hG _ hc).1, ok _ (by simp [wsV]), ⟨hd.1, hd.2.1⟩, fun sig h => ?_, ok _ (by simp [wsV]), ok _ (by simp [wsV]), ok _ (by simp [wsV])⟩
  have h2 := hd.2.2
  rw [h] at h2
  exact (Option.some.inj h2).symm
theorem vx_runVW {y : MethodName} {bytes cc : ByteArray} {maxL nL mc ms n index : Nat} {ret : Option FieldType} {hh : List (Nat × Nat × Nat × Nat)} {ws : List Cond} {rm : Room} {Pc : Array Value → State → Prop} {Qc : Array Value → State → Outcome → State → Prop} {free : Addr → Prop} {Ts : List Cond} {own C : String} {b : Addr} {As rest : List Value} {g : JFrame}
    (S : CallFix p m c cc nL s args Ts own) (hM : Met l y ws rm Pc Qc mc ms free) (cw : vx_CVW R s args own C index y bytes maxL ret hh ws rm mc ms n) (hp : PreV s H C b Pc As)
    (hg : g.method = m) (hn : As.length = n) (hsize : g.locals.size = nL) (hstack : g.stack = As.reverse ++ .ref b :: rest) (hW : 2 * g.monitorRoom + (rest.map fun v => v.category).sum ≤ 8) (hdg : decode cc g.pc = .ok (.invokevirtual index, 3)) (hf : cells + mc ≤ R.cells ∧ slots + ms ≤ R.slots) :
    va_Run p l e R s m args below meth c H locs cells slots mc ms g rest (Qc (Value.ref b :: As).toArray) free := by
  obtain ⟨⟨hrc, hrs, hfr, hlo, hws, hcw⟩, hcode, hini, hy, hlen, hl, hin, hse⟩ := cw
  have hK : Back l R p e below s args y 3 8 (PreOf R mc ms Pc) (PostOf Qc mc ms free) := va_backW (hh := hh) (bytes := bytes) (maxL := maxL) (ret := ret) hM hp.1 hrc hrs hfr hlo hws hcw (fun a' U hW => word_at hW (Or.inl (by first | rfl | simp [Cond.onTables, Cond.keeps, Cond.steady])) hini)
  obtain ⟨hx, hb, hml, ho, -⟩ := S
  obtain ⟨-, ⟨cellB, hcB, hoB, hclB⟩, hPc⟩ := hp
  intro T hT X
  obtain ⟨v, vm₁, ⟨U', l2, c2, s2⟩, hW₁, X', ⟨g', mk, t, L, e1, e2, hq, h1, hL, h2, h3⟩, st⟩ := vx_callVW X hx (C := C) (hh := hh) (bytes := bytes) (maxL := maxL) (ret := ret) ho hl hin hse hcode hy hK (by rw [hT]; exact hcB) hoB hclB hg (hsize.trans hml.symm) (argsL := As) (rest := rest) (fun sig h => hn.trans (hlen sig h)) hstack hW (by rw [hb]; exact hdg)
    (fun vm₁ hW₁ => ⟨hf.1, hf.2, hPc (T.setVm vm₁) hT hW₁⟩)
  dsimp only [Pt.U, Pt.locs, Pt.cells, Pt.slots] at X' e1 e2 h1 h2 h3 st
  subst h1; subst h2; subst h3
  exact ⟨v, (T.setVm vm₁).calling g' mk (Value.ref b :: As).toArray, t, U', L, hT, X', hL, e1, e2, hq, st⟩
section
variable {y : MethodName} {bytes cc : ByteArray} {maxL nL mc ms n index : Nat} {ret : Option FieldType} {ws : List Cond} {rm : Room} {Pc : Array Value → State → Prop} {Qc : Array Value → State → Outcome → State → Prop} {XC : String → State → State → Prop} {free : Addr → Prop} {Ts : List Cond} {own C : String} {b : Addr} {As rest : List Value} {g : JFrame}
theorem vx_runVX {hh : List (Nat × Nat × Nat × Nat)} (S : CallFix p m c cc nL s args Ts own) (hM : vx_Met l y ws rm Pc Qc XC mc ms free) (cw : vx_CVW R s args own C index y bytes maxL ret hh ws rm mc ms n) (hp : PreV s H C b Pc As)
    (hg : g.method = m) (hn : As.length = n) (hsize : g.locals.size = nL) (hstack : g.stack = As.reverse ++ .ref b :: rest) (hW : 2 * g.monitorRoom + (rest.map fun v => v.category).sum ≤ 8) (hdg : decode cc g.pc = .ok (.invokevirtual index, 3)) (hf : cells + mc ≤ R.cells ∧ slots + ms ≤ R.slots) :
    vx_Run p l e R s m args below meth c H locs cells slots mc ms g rest (Qc (Value.ref b :: As).toArray) XC free := by
  obtain ⟨⟨hrc, hrs, hfr, hlo, hws, hcw⟩, hcode, hini, hy, hlen, hl, hin, hse⟩ := cw
  have hK : vx_Back l R p e below s args y 3 8 (PreOf R mc ms Pc) (PostOf Qc mc ms free) (vx_Post XC mc ms free) := vx_backW (hh := hh) (bytes := bytes) (maxL := maxL) (ret := ret) hM hp.1 hrc hrs hfr hlo hws hcw (fun a' U hW => word_at hW (Or.inl (by first | rfl | simp [Cond.onTables, Cond.keeps, Cond.steady])) hini)
  obtain ⟨hx, hb, hml, ho, -⟩ := S
  obtain ⟨-, ⟨cellB, hcB, hoB, hclB⟩, hPc⟩ := hp
  intro T hT X
  rcases vx_callVX X hx (C := C) (hh := hh) (bytes := bytes) (maxL := maxL) (ret := ret) ho hl hin hse hcode hy hK (by rw [hT]; exact hcB) hoB hclB hg (hsize.trans hml.symm) (argsL := As) (rest := rest) (fun sig h => hn.trans (hlen sig h)) hstack hW (by rw [hb]; exact hdg)
    (fun vm₁ hW₁ => ⟨hf.1, hf.2, hPc (T.setVm vm₁) hT hW₁⟩) with ⟨v, vm₁, ⟨U', l2, c2, s2⟩, hW₁, X', ⟨g', mk, t, L, e1, e2, hq, h1, hL, h2, h3⟩, st⟩ | ⟨q, vm₁, ⟨U', l2, c2, s2⟩, hW₁, X', ⟨g', mk, t, L, E, ce, e1, e2, hq, hce, hcv, hcl, h1, hL, h2, h3⟩, st⟩
  · dsimp only [Pt.U, Pt.locs, Pt.cells, Pt.slots] at X' e1 e2 h1 h2 h3 st
    subst h1; subst h2; subst h3
    exact Or.inl ⟨v, (T.setVm vm₁).calling g' mk (Value.ref b :: As).toArray, t, U', L, hT, X', hL, e1, e2, hq, st⟩
  · dsimp only [Pt.U, Pt.locs, Pt.cells, Pt.slots] at X' e1 e2 h1 h2 h3 st hcl
    subst h1; subst h2; subst h3
    exact Or.inr ⟨q, (T.setVm vm₁).calling g' mk (Value.ref b :: As).toArray, t, U', L, E, ce, hT, X', hL, e1, e2, hq, hce, hcv, vx_cls hW₁ hcl, st⟩
theorem vx_runSX {hh : List (Nat × Nat × Nat × Nat)} (S : CallFix p m c cc nL s args Ts own) (hM : vx_Met l y ws rm Pc Qc XC mc ms free) (cw : vx_CSW R s args own index y bytes maxL ret hh ws rm mc ms n) (hp : PreS s H Pc As)
    (hg : g.method = m) (hn : As.length = n) (hsize : g.locals.size = nL) (hstack : g.stack = As.reverse ++ rest) (hW : 2 * g.monitorRoom + (rest.map fun v => v.category).sum ≤ 8) (hdg : decode cc g.pc = .ok (.invokestatic index, 3)) (hf : cells + mc ≤ R.cells ∧ slots + ms ≤ R.slots) :
    vx_Run p l e R s m args below meth c H locs cells slots mc ms g rest (Qc As.toArray) XC free := by
  obtain ⟨⟨hrc, hrs, hfr, hlo, hws, hcw⟩, hcode, hini, hy, hlen, hl, hstt⟩ := cw
  have hK : vx_Back l R p e below s args y 3 8 (PreOf R mc ms Pc) (PostOf Qc mc ms free) (vx_Post XC mc ms free) := vx_backW (hh := hh) (bytes := bytes) (maxL := maxL) (ret := ret) hM hp.1 hrc hrs hfr hlo hws hcw (fun a' U hW => word_at hW (Or.inl (by first | rfl | simp [Cond.onTables, Cond.keeps, Cond.steady])) hini)
  obtain ⟨hx, hb, hml, ho, -⟩ := S
  intro T hT X
  rcases vx_callSX X hx (hh := hh) (bytes := bytes) (maxL := maxL) (ret := ret) ho hl hstt hini hcode hy hK hg (hsize.trans hml.symm) (argsL := As) (rest := rest) (fun sig h => hn.trans (hlen sig h)) hstack hW (by rw [hb]; exact hdg)
    (fun vm₁ hW₁ => ⟨hf.1, hf.2, hp.2 (T.setVm vm₁) hT hW₁⟩) with ⟨v, vm₁, ⟨U', l2, c2, s2⟩, hW₁, X', ⟨g', mk, t, L, e1, e2, hq, h1, hL, h2, h3⟩, st⟩ | ⟨q, vm₁, ⟨U', l2, c2, s2⟩, hW₁, X', ⟨g', mk, t, L, E, ce, e1, e2, hq, hce, hcv, hcl, h1, hL, h2, h3⟩, st⟩
  · dsimp only [Pt.U, Pt.locs, Pt.cells, Pt.slots] at X' e1 e2 h1 h2 h3 st
    subst h1; subst h2; subst h3
    exact Or.inl ⟨v, (T.setVm vm₁).calling g' mk As.toArray, t, U', L, hT, X', hL, e1, e2, hq, st⟩
  · dsimp only [Pt.U, Pt.locs, Pt.cells, Pt.slots] at X' e1 e2 h1 h2 h3 st hcl
    subst h1; subst h2; subst h3
    exact Or.inr ⟨q, (T.setVm vm₁).calling g' mk As.toArray, t, U', L, E, ce, hT, X', hL, e1, e2, hq, hce, hcv, vx_cls hW₁ hcl, st⟩
end
end VXH
theorem vx_ofWH {l : Launch} {y : MethodName} {ws ws' : List Cond} {rm : Room} {Pc : Array Value → State → Prop} {Qc : Array Value → State → Outcome → State → Prop} {XC : String → State → State → Prop} {mc ms : Nat} {free : Addr → Prop} {cc : ByteArray} {maxL : Nat} {ret : Option FieldType} {hh : List (Nat × Nat × Nat × Nat)}
    (hy : plainName y.cls = true) (hw : ws = Cond.codeWith y cc maxL ret hh :: ws')
    (body : ∀ p e s m args below meth c s₁, BodyLoose p l y (headSpec ws rm) cc maxL ret e s m args below meth c s₁ → c.maxLocals = maxL → Pc args s →
      W p l e (headSpec ws rm).room s m args below meth c s.heap [] 0 0 (vx_MQ below Qc XC args s mc ms free) (entryFrame m args maxL)) : vx_Met l y ws rm Pc Qc XC mc ms free := by
  refine MetFree.of_bodyS (code := cc) (maxLocals := maxL) (ret := ret) hy ?_ ?_
  · intro args s m h hn
    obtain ⟨m9, meth, c, hn9, h1, h2, h3, h4, -, h5, h6, -⟩ := Cond.codeWith_spec (atoms_spec (ws := ws) h _ (by rw [hw]; exact List.mem_cons_self))
    cases hn.symm.trans hn9
    exact ⟨meth, c, h1, h2, h3, h4, h5, h6⟩
  · intro p e s m args below meth c s₁ B hml hP _
    have hh0 : s₁.heap = s.heap := by rw [B.state]; rfl
    obtain ⟨t, a1, o, b1, b2, b3⟩ := body p e s m args below meth c s₁ B hml hP s₁ hh0 (Stand.of_body B)
    exact ⟨t, o, a1, b1, b2, b3⟩
/-! ===== END ===== -/
end
section
def RX0 : String := "Genericwood$Forced"
def TX0 : u_T := fun k => match k with
  | 0 => ("Genericwood$Way", "order", "LGenericwood$Order;", true)
  | 1 => ("Genericwood$Way", "names", "LGenericwood$Names;", true)
  | 2 => ("Genericwood$Way", "formulas", "LGenericwood$Formulas;", true)
  | 3 => ("Genericwood$Way", "likes", "[I", true)
  | 4 => ("Genericwood$Way", "insides", "[I", true)
  | 5 => ("Genericwood$Way", "letters", "[I", true)
  | _ => ("Genericwood$Way", "seen", "I", false)
def tyX0 : Nat → FieldType := fun k => match k with
  | 0 => .object "Genericwood$Order"
  | 1 => .object "Genericwood$Names"
  | 2 => .object "Genericwood$Formulas"
  | 3 => .array .int
  | 4 => .array .int
  | 5 => .array .int
  | _ => .int
abbrev wsX00 : List Cond := u_ws RX0 TX0 7
theorem nmX0 : ∀ a, a < 7 → ∀ b, b < 7 → a ≠ b → (TX0 a).2.1 ≠ (TX0 b).2.1 := by decide +kernel
theorem tyX0_ok : ∀ k, k < 7 → parseFieldDescriptor (TX0 k).2.2.1 = some (tyX0 k) := by decide +kernel
abbrev cX0_init : ByteArray := prog_2_method_1_code
def yX0_init : MethodName := ⟨RX0, "<init>", "(LGenericwood$Order;LGenericwood$Names;LGenericwood$Formulas;)V"⟩
abbrev cX0_settled : ByteArray := prog_2_method_2_code
def yX0_settled : MethodName := ⟨RX0, "settled", "(I)I"⟩
def RX1 : String := "Genericwood$Formulas"
def TX1 : u_T := fun k => match k with
  | 0 => ("Genericwood$Formulas", "count", "I", false)
  | 1 => ("Genericwood$Formulas", "kinds", "[I", true)
  | 2 => ("Genericwood$Formulas", "firsts", "[I", true)
  | 3 => ("Genericwood$Formulas", "seconds", "[I", true)
  | 4 => ("Genericwood$Formulas", "letters", "[I", true)
  | 5 => ("Genericwood$Formulas", "depths", "[I", true)
  | _ => ("Genericwood$Formulas", "opens", "[I", true)
def tyX1 : Nat → FieldType := fun k => match k with
  | 0 => .int
  | 1 => .array .int
  | 2 => .array .int
  | 3 => .array .int
  | 4 => .array .int
  | 5 => .array .int
  | _ => .array .int
abbrev wsX10 : List Cond := u_ws RX1 TX1 7
theorem nmX1 : ∀ a, a < 7 → ∀ b, b < 7 → a ≠ b → (TX1 a).2.1 ≠ (TX1 b).2.1 := by decide +kernel
theorem tyX1_ok : ∀ k, k < 7 → parseFieldDescriptor (TX1 k).2.2.1 = some (tyX1 k) := by decide +kernel
abbrev cX1_init : ByteArray := prog_3_method_1_code
def yX1_init : MethodName := ⟨RX1, "<init>", "()V"⟩
abbrev cX1_size : ByteArray := prog_3_method_2_code
def yX1_size : MethodName := ⟨RX1, "size", "()I"⟩
abbrev cX1_knows : ByteArray := prog_3_method_3_code
def yX1_knows : MethodName := ⟨RX1, "knows", "(I)Z"⟩
abbrev cX1_add : ByteArray := prog_3_method_4_code
def yX1_add : MethodName := ⟨RX1, "add", "(IIIIII)I"⟩
abbrev cX1_removeAll : ByteArray := prog_3_method_5_code
def yX1_removeAll : MethodName := ⟨RX1, "removeAll", "()I"⟩
abbrev cX1_kind : ByteArray := prog_3_method_6_code
def yX1_kind : MethodName := ⟨RX1, "kind", "(I)I"⟩
abbrev cX1_first : ByteArray := prog_3_method_7_code
def yX1_first : MethodName := ⟨RX1, "first", "(I)I"⟩
abbrev cX1_second : ByteArray := prog_3_method_8_code
def yX1_second : MethodName := ⟨RX1, "second", "(I)I"⟩
abbrev cX1_letter : ByteArray := prog_3_method_9_code
def yX1_letter : MethodName := ⟨RX1, "letter", "(I)I"⟩
abbrev cX1_depth : ByteArray := prog_3_method_10_code
def yX1_depth : MethodName := ⟨RX1, "depth", "(I)I"⟩
abbrev cX1_open : ByteArray := prog_3_method_11_code
def yX1_open : MethodName := ⟨RX1, "open", "(I)I"⟩
def RX2 : String := "Genericwood$Names"
def TX2 : u_T := fun k => match k with
  | 0 => ("Genericwood$Names", "order", "LGenericwood$Order;", true)
  | 1 => ("Genericwood$Names", "count", "I", false)
  | 2 => ("Genericwood$Names", "changes", "I", false)
  | 3 => ("Genericwood$Names", "sizes", "[I", true)
  | 4 => ("Genericwood$Names", "pairs", "[I", true)
  | 5 => ("Genericwood$Names", "heights", "[I", true)
  | 6 => ("Genericwood$Names", "trial", "[I", true)
  | 7 => ("Genericwood$Names", "drafted", "[I", true)
  | _ => ("Genericwood$Names", "standards", "[I", true)
def tyX2 : Nat → FieldType := fun k => match k with
  | 0 => .object "Genericwood$Order"
  | 1 => .int
  | 2 => .int
  | 3 => .array .int
  | 4 => .array .int
  | 5 => .array .int
  | 6 => .array .int
  | 7 => .array .int
  | _ => .array .int
abbrev wsX20 : List Cond := u_ws RX2 TX2 9
theorem nmX2 : ∀ a, a < 9 → ∀ b, b < 9 → a ≠ b → (TX2 a).2.1 ≠ (TX2 b).2.1 := by decide +kernel
theorem tyX2_ok : ∀ k, k < 9 → parseFieldDescriptor (TX2 k).2.2.1 = some (tyX2 k) := by decide +kernel
abbrev cX2_init : ByteArray := prog_4_method_1_code
def yX2_init : MethodName := ⟨RX2, "<init>", "(LGenericwood$Order;)V"⟩
abbrev cX2_size : ByteArray := prog_4_method_2_code
def yX2_size : MethodName := ⟨RX2, "size", "()I"⟩
abbrev cX2_changes : ByteArray := prog_4_method_3_code
def yX2_changes : MethodName := ⟨RX2, "changes", "()I"⟩
abbrev cX2_knows : ByteArray := prog_4_method_4_code
def yX2_knows : MethodName := ⟨RX2, "knows", "(I)Z"⟩
abbrev cX2_pairsOf : ByteArray := prog_4_method_5_code
def yX2_pairsOf : MethodName := ⟨RX2, "pairsOf", "(I)I"⟩
abbrev cX2_lower : ByteArray := prog_4_method_6_code
def yX2_lower : MethodName := ⟨RX2, "lower", "(II)I"⟩
abbrev cX2_promise : ByteArray := prog_4_method_7_code
def yX2_promise : MethodName := ⟨RX2, "promise", "(II)I"⟩
abbrev cX2_height : ByteArray := prog_4_method_8_code
def yX2_height : MethodName := ⟨RX2, "height", "(I)I"⟩
abbrev cX2_hasPair : ByteArray := prog_4_method_9_code
def yX2_hasPair : MethodName := ⟨RX2, "hasPair", "(III)Z"⟩
abbrev cX2_add : ByteArray := prog_4_method_10_code
def yX2_add : MethodName := ⟨RX2, "add", "()I"⟩
abbrev cX2_addPair : ByteArray := prog_4_method_11_code
def yX2_addPair : MethodName := ⟨RX2, "addPair", "(III)V"⟩
abbrev cX2_dropPair : ByteArray := prog_4_method_12_code
def yX2_dropPair : MethodName := ⟨RX2, "dropPair", "(I)V"⟩
abbrev cX2_changed : ByteArray := prog_4_method_13_code
def yX2_changed : MethodName := ⟨RX2, "changed", "()V"⟩
abbrev cX2_rankAll : ByteArray := prog_4_method_14_code
def yX2_rankAll : MethodName := ⟨RX2, "rankAll", "([III)V"⟩
abbrev cX2_wouldRiseTooHigh : ByteArray := prog_4_method_15_code
def yX2_wouldRiseTooHigh : MethodName := ⟨RX2, "wouldRiseTooHigh", "(II)Z"⟩
abbrev cX2_standardOf : ByteArray := prog_4_method_16_code
def yX2_standardOf : MethodName := ⟨RX2, "standardOf", "(I)I"⟩
abbrev cX2_isStandard : ByteArray := prog_4_method_17_code
def yX2_isStandard : MethodName := ⟨RX2, "isStandard", "(I)Z"⟩
abbrev cX2_missingFor : ByteArray := prog_4_method_18_code
def yX2_missingFor : MethodName := ⟨RX2, "missingFor", "(I)I"⟩
abbrev cX2_addStandard : ByteArray := prog_4_method_19_code
def yX2_addStandard : MethodName := ⟨RX2, "addStandard", "(I)V"⟩
abbrev cX2_draft : ByteArray := prog_4_method_20_code
def yX2_draft : MethodName := ⟨RX2, "draft", "(IIII)I"⟩
abbrev cX2_draftPart : ByteArray := prog_4_method_21_code
def yX2_draftPart : MethodName := ⟨RX2, "draftPart", "(III)I"⟩
abbrev cX2_isDrafted : ByteArray := prog_4_method_22_code
def yX2_isDrafted : MethodName := ⟨RX2, "isDrafted", "(II)Z"⟩
abbrev cX2_addDraft : ByteArray := prog_4_method_23_code
def yX2_addDraft : MethodName := ⟨RX2, "addDraft", "(I)I"⟩
def RX3 : String := "Genericwood$Order"
def TX3 : u_T := fun k => match k with
  | 0 => ("Genericwood$Order", "count", "I", false)
  | 1 => ("Genericwood$Order", "changes", "I", false)
  | 2 => ("Genericwood$Order", "ends", "I", false)
  | 3 => ("Genericwood$Order", "downs", "[I", true)
  | _ => ("Genericwood$Order", "images", "[I", true)
def tyX3 : Nat → FieldType := fun k => match k with
  | 0 => .int
  | 1 => .int
  | 2 => .int
  | 3 => .array .int
  | _ => .array .int
abbrev wsX30 : List Cond := u_ws RX3 TX3 5
theorem nmX3 : ∀ a, a < 5 → ∀ b, b < 5 → a ≠ b → (TX3 a).2.1 ≠ (TX3 b).2.1 := by decide +kernel
theorem tyX3_ok : ∀ k, k < 5 → parseFieldDescriptor (TX3 k).2.2.1 = some (tyX3 k) := by decide +kernel
abbrev cX3_init : ByteArray := prog_5_method_1_code
def yX3_init : MethodName := ⟨RX3, "<init>", "()V"⟩
abbrev cX3_size : ByteArray := prog_5_method_2_code
def yX3_size : MethodName := ⟨RX3, "size", "()I"⟩
abbrev cX3_changes : ByteArray := prog_5_method_3_code
def yX3_changes : MethodName := ⟨RX3, "changes", "()I"⟩
abbrev cX3_knows : ByteArray := prog_5_method_4_code
def yX3_knows : MethodName := ⟨RX3, "knows", "(I)Z"⟩
abbrev cX3_all : ByteArray := prog_5_method_5_code
def yX3_all : MethodName := ⟨RX3, "all", "()I"⟩
abbrev cX3_add : ByteArray := prog_5_method_6_code
def yX3_add : MethodName := ⟨RX3, "add", "()I"⟩
abbrev cX3_down : ByteArray := prog_5_method_7_code
def yX3_down : MethodName := ⟨RX3, "down", "(I)I"⟩
abbrev cX3_up : ByteArray := prog_5_method_8_code
def yX3_up : MethodName := ⟨RX3, "up", "(I)I"⟩
abbrev cX3_stands : ByteArray := prog_5_method_9_code
def yX3_stands : MethodName := ⟨RX3, "stands", "(II)Z"⟩
abbrev cX3_agree : ByteArray := prog_5_method_10_code
def yX3_agree : MethodName := ⟨RX3, "agree", "(II)Z"⟩
abbrev cX3_place : ByteArray := prog_5_method_11_code
def yX3_place : MethodName := ⟨RX3, "place", "(II)V"⟩
abbrev cX3_pairsBelow : ByteArray := prog_5_method_12_code
def yX3_pairsBelow : MethodName := ⟨RX3, "pairsBelow", "()I"⟩
abbrev cX3_ends : ByteArray := prog_5_method_13_code
def yX3_ends : MethodName := ⟨RX3, "ends", "()I"⟩
abbrev cX3_endsOf : ByteArray := prog_5_method_14_code
def yX3_endsOf : MethodName := ⟨RX3, "endsOf", "(I)I"⟩
abbrev cX3_avoiding : ByteArray := prog_5_method_15_code
def yX3_avoiding : MethodName := ⟨RX3, "avoiding", "(I)I"⟩
abbrev cX3_image : ByteArray := prog_5_method_16_code
def yX3_image : MethodName := ⟨RX3, "image", "(I)I"⟩
abbrev cX3_exchange : ByteArray := prog_5_method_17_code
def yX3_exchange : MethodName := ⟨RX3, "exchange", "(II)V"⟩
abbrev cX3_isKept : ByteArray := prog_5_method_18_code
def yX3_isKept : MethodName := ⟨RX3, "isKept", "()Z"⟩
def RX4 : String := "Genericwood$Valued"
def TX4 : u_T := fun k => match k with
  | 0 => ("Genericwood$Way", "order", "LGenericwood$Order;", true)
  | 1 => ("Genericwood$Way", "names", "LGenericwood$Names;", true)
  | 2 => ("Genericwood$Way", "formulas", "LGenericwood$Formulas;", true)
  | 3 => ("Genericwood$Way", "likes", "[I", true)
  | 4 => ("Genericwood$Way", "insides", "[I", true)
  | 5 => ("Genericwood$Way", "letters", "[I", true)
  | _ => ("Genericwood$Way", "seen", "I", false)
def tyX4 : Nat → FieldType := fun k => match k with
  | 0 => .object "Genericwood$Order"
  | 1 => .object "Genericwood$Names"
  | 2 => .object "Genericwood$Formulas"
  | 3 => .array .int
  | 4 => .array .int
  | 5 => .array .int
  | _ => .int
abbrev wsX40 : List Cond := u_ws RX4 TX4 7
theorem nmX4 : ∀ a, a < 7 → ∀ b, b < 7 → a ≠ b → (TX4 a).2.1 ≠ (TX4 b).2.1 := by decide +kernel
theorem tyX4_ok : ∀ k, k < 7 → parseFieldDescriptor (TX4 k).2.2.1 = some (tyX4 k) := by decide +kernel
abbrev cX4_init : ByteArray := prog_6_method_1_code
def yX4_init : MethodName := ⟨RX4, "<init>", "(LGenericwood$Order;LGenericwood$Names;LGenericwood$Formulas;)V"⟩
abbrev cX4_whole : ByteArray := prog_6_method_2_code
def yX4_whole : MethodName := ⟨RX4, "whole", "()I"⟩
abbrev cX4_denied : ByteArray := prog_6_method_3_code
def yX4_denied : MethodName := ⟨RX4, "denied", "(I)I"⟩
abbrev cX4_along : ByteArray := prog_6_method_4_code
def yX4_along : MethodName := ⟨RX4, "along", "(II)I"⟩
abbrev cX4_unless : ByteArray := prog_6_method_5_code
def yX4_unless : MethodName := ⟨RX4, "unless", "(II)I"⟩
abbrev cX4_settled : ByteArray := prog_6_method_6_code
def yX4_settled : MethodName := ⟨RX4, "settled", "(I)I"⟩
def RX5 : String := "Genericwood$Way"
def TX5 : u_T := fun k => match k with
  | _ => ("", "", "", false)
def tyX5 : Nat → FieldType := fun k => match k with
  | _ => .int
abbrev wsX50 : List Cond := u_ws RX5 TX5 0
theorem nmX5 : ∀ a, a < 0 → ∀ b, b < 0 → a ≠ b → (TX5 a).2.1 ≠ (TX5 b).2.1 := by decide +kernel
theorem tyX5_ok : ∀ k, k < 0 → parseFieldDescriptor (TX5 k).2.2.1 = some (tyX5 k) := by decide +kernel
abbrev cX5_init : ByteArray := prog_7_method_1_code
def yX5_init : MethodName := ⟨RX5, "<init>", "(LGenericwood$Order;LGenericwood$Names;LGenericwood$Formulas;)V"⟩
abbrev cX5_alike : ByteArray := prog_7_method_7_code
def yX5_alike : MethodName := ⟨RX5, "alike", "(II)I"⟩
abbrev cX5_inside : ByteArray := prog_7_method_8_code
def yX5_inside : MethodName := ⟨RX5, "inside", "(II)I"⟩
abbrev cX5_judge : ByteArray := prog_7_method_9_code
def yX5_judge : MethodName := ⟨RX5, "judge", "(I)I"⟩
abbrev cX5_judged : ByteArray := prog_7_method_10_code
def yX5_judged : MethodName := ⟨RX5, "judged", "(II)I"⟩
abbrev cX5_judgedBound : ByteArray := prog_7_method_11_code
def yX5_judgedBound : MethodName := ⟨RX5, "judgedBound", "(II)I"⟩
abbrev cX5_named : ByteArray := prog_7_method_12_code
def yX5_named : MethodName := ⟨RX5, "named", "(I)I"⟩
abbrev cX5_refresh : ByteArray := prog_7_method_13_code
def yX5_refresh : MethodName := ⟨RX5, "refresh", "()V"⟩
abbrev cX5_partly : ByteArray := prog_7_method_14_code
def yX5_partly : MethodName := ⟨RX5, "partly", "(II)I"⟩
abbrev cX5_contained : ByteArray := prog_7_method_15_code
def yX5_contained : MethodName := ⟨RX5, "contained", "(II)I"⟩
def RX6 : String := "Genericwood$Weak"
def TX6 : u_T := fun k => match k with
  | 0 => ("Genericwood$Way", "order", "LGenericwood$Order;", true)
  | 1 => ("Genericwood$Way", "names", "LGenericwood$Names;", true)
  | 2 => ("Genericwood$Way", "formulas", "LGenericwood$Formulas;", true)
  | 3 => ("Genericwood$Way", "likes", "[I", true)
  | 4 => ("Genericwood$Way", "insides", "[I", true)
  | 5 => ("Genericwood$Way", "letters", "[I", true)
  | _ => ("Genericwood$Way", "seen", "I", false)
def tyX6 : Nat → FieldType := fun k => match k with
  | 0 => .object "Genericwood$Order"
  | 1 => .object "Genericwood$Names"
  | 2 => .object "Genericwood$Formulas"
  | 3 => .array .int
  | 4 => .array .int
  | 5 => .array .int
  | _ => .int
abbrev wsX60 : List Cond := u_ws RX6 TX6 7
theorem nmX6 : ∀ a, a < 7 → ∀ b, b < 7 → a ≠ b → (TX6 a).2.1 ≠ (TX6 b).2.1 := by decide +kernel
theorem tyX6_ok : ∀ k, k < 7 → parseFieldDescriptor (TX6 k).2.2.1 = some (tyX6 k) := by decide +kernel
abbrev cX6_init : ByteArray := prog_8_method_1_code
def yX6_init : MethodName := ⟨RX6, "<init>", "(LGenericwood$Order;LGenericwood$Names;LGenericwood$Formulas;)V"⟩
abbrev cX6_whole : ByteArray := prog_8_method_2_code
def yX6_whole : MethodName := ⟨RX6, "whole", "()I"⟩
abbrev cX6_denied : ByteArray := prog_8_method_3_code
def yX6_denied : MethodName := ⟨RX6, "denied", "(I)I"⟩
abbrev cX6_along : ByteArray := prog_8_method_4_code
def yX6_along : MethodName := ⟨RX6, "along", "(II)I"⟩
abbrev cX6_unless : ByteArray := prog_8_method_5_code
def yX6_unless : MethodName := ⟨RX6, "unless", "(II)I"⟩
abbrev cX6_settled : ByteArray := prog_8_method_6_code
def yX6_settled : MethodName := ⟨RX6, "settled", "(I)I"⟩
def RX7 : String := "Genericwood$World"
def TX7 : u_T := fun k => match k with
  | 0 => ("Genericwood$World", "order", "LGenericwood$Order;", true)
  | 1 => ("Genericwood$World", "names", "LGenericwood$Names;", true)
  | 2 => ("Genericwood$World", "formulas", "LGenericwood$Formulas;", true)
  | 3 => ("Genericwood$World", "codes", "[I", true)
  | _ => ("Genericwood$World", "letters", "[I", true)
def tyX7 : Nat → FieldType := fun k => match k with
  | 0 => .object "Genericwood$Order"
  | 1 => .object "Genericwood$Names"
  | 2 => .object "Genericwood$Formulas"
  | 3 => .array .int
  | _ => .array .int
abbrev wsX70 : List Cond := u_ws RX7 TX7 5
theorem nmX7 : ∀ a, a < 5 → ∀ b, b < 5 → a ≠ b → (TX7 a).2.1 ≠ (TX7 b).2.1 := by decide +kernel
theorem tyX7_ok : ∀ k, k < 5 → parseFieldDescriptor (TX7 k).2.2.1 = some (tyX7 k) := by decide +kernel
abbrev cX7_init : ByteArray := prog_9_method_1_code
def yX7_init : MethodName := ⟨RX7, "<init>", "(LGenericwood$Order;LGenericwood$Names;LGenericwood$Formulas;)V"⟩
abbrev cX7_enter : ByteArray := prog_9_method_2_code
def yX7_enter : MethodName := ⟨RX7, "enter", "(IZ)V"⟩
abbrev cX7_codeOf : ByteArray := prog_9_method_3_code
def yX7_codeOf : MethodName := ⟨RX7, "codeOf", "(I)I"⟩
abbrev cX7_agrees : ByteArray := prog_9_method_4_code
def yX7_agrees : MethodName := ⟨RX7, "agrees", "(I)Z"⟩
abbrev cX7_worldsOf : ByteArray := prog_9_method_5_code
def yX7_worldsOf : MethodName := ⟨RX7, "worldsOf", "(I)I"⟩
abbrev cX7_isSo : ByteArray := prog_9_method_6_code
def yX7_isSo : MethodName := ⟨RX7, "isSo", "(II)Z"⟩
abbrev cX7_isBoundSo : ByteArray := prog_9_method_7_code
def yX7_isBoundSo : MethodName := ⟨RX7, "isBoundSo", "(II)Z"⟩
abbrev cX7_meant : ByteArray := prog_9_method_8_code
def yX7_meant : MethodName := ⟨RX7, "meant", "(I)I"⟩
def RX8 : String := "Genericwood"
def TX8 : u_T := fun k => match k with
  | 0 => ("Genericwood", "order", "LGenericwood$Order;", true)
  | 1 => ("Genericwood", "names", "LGenericwood$Names;", true)
  | 2 => ("Genericwood", "formulas", "LGenericwood$Formulas;", true)
  | 3 => ("Genericwood", "valued", "LGenericwood$Way;", true)
  | 4 => ("Genericwood", "forced", "LGenericwood$Way;", true)
  | 5 => ("Genericwood", "weak", "LGenericwood$Way;", true)
  | _ => ("Genericwood", "visited", "LGenericwood$World;", true)
def tyX8 : Nat → FieldType := fun k => match k with
  | 0 => .object "Genericwood$Order"
  | 1 => .object "Genericwood$Names"
  | 2 => .object "Genericwood$Formulas"
  | 3 => .object "Genericwood$Way"
  | 4 => .object "Genericwood$Way"
  | 5 => .object "Genericwood$Way"
  | _ => .object "Genericwood$World"
abbrev wsX80 : List Cond := u_ws RX8 TX8 7
theorem nmX8 : ∀ a, a < 7 → ∀ b, b < 7 → a ≠ b → (TX8 a).2.1 ≠ (TX8 b).2.1 := by decide +kernel
theorem tyX8_ok : ∀ k, k < 7 → parseFieldDescriptor (TX8 k).2.2.1 = some (tyX8 k) := by decide +kernel
abbrev cX8_init : ByteArray := prog_1_method_1_code
def yX8_init : MethodName := ⟨RX8, "<init>", "()V"⟩
abbrev cX8_condition : ByteArray := prog_1_method_2_code
def yX8_condition : MethodName := ⟨RX8, "condition", "()I"⟩
abbrev cX8_under : ByteArray := prog_1_method_3_code
def yX8_under : MethodName := ⟨RX8, "under", "(II)I"⟩
abbrev cX8_isBelow : ByteArray := prog_1_method_4_code
def yX8_isBelow : MethodName := ⟨RX8, "isBelow", "(II)Z"⟩
abbrev cX8_fit : ByteArray := prog_1_method_5_code
def yX8_fit : MethodName := ⟨RX8, "fit", "(II)Z"⟩
abbrev cX8_lasts : ByteArray := prog_1_method_6_code
def yX8_lasts : MethodName := ⟨RX8, "lasts", "()I"⟩
abbrev cX8_isAntichain : ByteArray := prog_1_method_7_code
def yX8_isAntichain : MethodName := ⟨RX8, "isAntichain", "(I)Z"⟩
abbrev cX8_widest : ByteArray := prog_1_method_8_code
def yX8_widest : MethodName := ⟨RX8, "widest", "()I"⟩
abbrev cX8_isDense : ByteArray := prog_1_method_9_code
def yX8_isDense : MethodName := ⟨RX8, "isDense", "(I)Z"⟩
abbrev cX8_isFilter : ByteArray := prog_1_method_10_code
def yX8_isFilter : MethodName := ⟨RX8, "isFilter", "(I)Z"⟩
abbrev cX8_meetsAll : ByteArray := prog_1_method_11_code
def yX8_meetsAll : MethodName := ⟨RX8, "meetsAll", "(II)Z"⟩
abbrev cX8_filters : ByteArray := prog_1_method_12_code
def yX8_filters : MethodName := ⟨RX8, "filters", "()I"⟩
abbrev cX8_isSeparative : ByteArray := prog_1_method_13_code
def yX8_isSeparative : MethodName := ⟨RX8, "isSeparative", "()Z"⟩
abbrev cX8_canAvoid : ByteArray := prog_1_method_14_code
def yX8_canAvoid : MethodName := ⟨RX8, "canAvoid", "(II)Z"⟩
abbrev cX8_cut : ByteArray := prog_1_method_15_code
def yX8_cut : MethodName := ⟨RX8, "cut", "(I)I"⟩
abbrev cX8_closure : ByteArray := prog_1_method_16_code
def yX8_closure : MethodName := ⟨RX8, "closure", "(I)I"⟩
abbrev cX8_filterOf : ByteArray := prog_1_method_17_code
def yX8_filterOf : MethodName := ⟨RX8, "filterOf", "(I)I"⟩
abbrev cX8_name : ByteArray := prog_1_method_18_code
def yX8_name : MethodName := ⟨RX8, "name", "()I"⟩
abbrev cX8_pair : ByteArray := prog_1_method_19_code
def yX8_pair : MethodName := ⟨RX8, "pair", "(III)I"⟩
abbrev cX8_unpair : ByteArray := prog_1_method_20_code
def yX8_unpair : MethodName := ⟨RX8, "unpair", "(I)I"⟩
abbrev cX8_rank : ByteArray := prog_1_method_21_code
def yX8_rank : MethodName := ⟨RX8, "rank", "(I)I"⟩
abbrev cX8_standard : ByteArray := prog_1_method_22_code
def yX8_standard : MethodName := ⟨RX8, "standard", "(I)I"⟩
abbrev cX8_becomes : ByteArray := prog_1_method_23_code
def yX8_becomes : MethodName := ⟨RX8, "becomes", "(II)I"⟩
abbrev cX8_valueIn : ByteArray := prog_1_method_24_code
def yX8_valueIn : MethodName := ⟨RX8, "valueIn", "(II)I"⟩
abbrev cX8_valueLike : ByteArray := prog_1_method_25_code
def yX8_valueLike : MethodName := ⟨RX8, "valueLike", "(II)I"⟩
abbrev cX8_forcesIn : ByteArray := prog_1_method_26_code
def yX8_forcesIn : MethodName := ⟨RX8, "forcesIn", "(III)Z"⟩
abbrev cX8_forcesLike : ByteArray := prog_1_method_27_code
def yX8_forcesLike : MethodName := ⟨RX8, "forcesLike", "(III)Z"⟩
abbrev cX8_mix : ByteArray := prog_1_method_28_code
def yX8_mix : MethodName := ⟨RX8, "mix", "(IIII)I"⟩
abbrev cX8_atom : ByteArray := prog_1_method_29_code
def yX8_atom : MethodName := ⟨RX8, "atom", "(CII)I"⟩
abbrev cX8_both : ByteArray := prog_1_method_30_code
def yX8_both : MethodName := ⟨RX8, "both", "(CII)I"⟩
abbrev cX8_not : ByteArray := prog_1_method_31_code
def yX8_not : MethodName := ⟨RX8, "not", "(I)I"⟩
abbrev cX8_bind : ByteArray := prog_1_method_32_code
def yX8_bind : MethodName := ⟨RX8, "bind", "(CIII)I"⟩
abbrev cX8_free : ByteArray := prog_1_method_33_code
def yX8_free : MethodName := ⟨RX8, "free", "(I)I"⟩
abbrev cX8_value : ByteArray := prog_1_method_34_code
def yX8_value : MethodName := ⟨RX8, "value", "(I)I"⟩
abbrev cX8_forces : ByteArray := prog_1_method_35_code
def yX8_forces : MethodName := ⟨RX8, "forces", "(II)Z"⟩
abbrev cX8_weakly : ByteArray := prog_1_method_36_code
def yX8_weakly : MethodName := ⟨RX8, "weakly", "(II)Z"⟩
abbrev cX8_holds : ByteArray := prog_1_method_37_code
def yX8_holds : MethodName := ⟨RX8, "holds", "(II)Z"⟩
abbrev cX8_against : ByteArray := prog_1_method_38_code
def yX8_against : MethodName := ⟨RX8, "against", "(I)I"⟩
abbrev cX8_swap : ByteArray := prog_1_method_39_code
def yX8_swap : MethodName := ⟨RX8, "swap", "(II)Z"⟩
abbrev cX8_goes : ByteArray := prog_1_method_40_code
def yX8_goes : MethodName := ⟨RX8, "goes", "(I)I"⟩
abbrev cX8_isFixed : ByteArray := prog_1_method_41_code
def yX8_isFixed : MethodName := ⟨RX8, "isFixed", "(I)Z"⟩
abbrev cX8_clear : ByteArray := prog_1_method_42_code
def yX8_clear : MethodName := ⟨RX8, "clear", "()I"⟩
abbrev cX8_checksum : ByteArray := prog_1_method_43_code
def yX8_checksum : MethodName := ⟨RX8, "checksum", "()J"⟩
abbrev cX8_lastShare : ByteArray := prog_1_method_44_code
def yX8_lastShare : MethodName := ⟨RX8, "lastShare", "()F"⟩
abbrev cX8_meanRank : ByteArray := prog_1_method_45_code
def yX8_meanRank : MethodName := ⟨RX8, "meanRank", "()D"⟩
abbrev cX8_isSound : ByteArray := prog_1_method_46_code
def yX8_isSound : MethodName := ⟨RX8, "isSound", "()Z"⟩
abbrev cX8_isForcedAsValued : ByteArray := prog_1_method_47_code
def yX8_isForcedAsValued : MethodName := ⟨RX8, "isForcedAsValued", "(II)Z"⟩
abbrev cX8_isAlikeAsBecome : ByteArray := prog_1_method_48_code
def yX8_isAlikeAsBecome : MethodName := ⟨RX8, "isAlikeAsBecome", "(I)Z"⟩
abbrev cX8_needCondition : ByteArray := prog_1_method_49_code
def yX8_needCondition : MethodName := ⟨RX8, "needCondition", "(I)V"⟩
abbrev cX8_needConditions : ByteArray := prog_1_method_50_code
def yX8_needConditions : MethodName := ⟨RX8, "needConditions", "(II)V"⟩
abbrev cX8_needSet : ByteArray := prog_1_method_51_code
def yX8_needSet : MethodName := ⟨RX8, "needSet", "(I)V"⟩
abbrev cX8_needWorld : ByteArray := prog_1_method_52_code
def yX8_needWorld : MethodName := ⟨RX8, "needWorld", "(I)V"⟩
abbrev cX8_needName : ByteArray := prog_1_method_53_code
def yX8_needName : MethodName := ⟨RX8, "needName", "(I)V"⟩
abbrev cX8_needRoomForNames : ByteArray := prog_1_method_54_code
def yX8_needRoomForNames : MethodName := ⟨RX8, "needRoomForNames", "(I)V"⟩
abbrev cX8_needTerm : ByteArray := prog_1_method_55_code
def yX8_needTerm : MethodName := ⟨RX8, "needTerm", "(I)V"⟩
abbrev cX8_needFormula : ByteArray := prog_1_method_56_code
def yX8_needFormula : MethodName := ⟨RX8, "needFormula", "(I)V"⟩
abbrev cX8_needClosed : ByteArray := prog_1_method_57_code
def yX8_needClosed : MethodName := ⟨RX8, "needClosed", "(I)V"⟩
abbrev cX8_needDepth : ByteArray := prog_1_method_58_code
def yX8_needDepth : MethodName := ⟨RX8, "needDepth", "(I)V"⟩
abbrev cX8_needRoomForFormula : ByteArray := prog_1_method_59_code
def yX8_needRoomForFormula : MethodName := ⟨RX8, "needRoomForFormula", "()V"⟩
abbrev cX8_contains : ByteArray := prog_1_method_60_code
def yX8_contains : MethodName := ⟨RX8, "contains", "(II)Z"⟩
abbrev cX8_isPart : ByteArray := prog_1_method_61_code
def yX8_isPart : MethodName := ⟨RX8, "isPart", "(II)Z"⟩
abbrev cX8_isLetter : ByteArray := prog_1_method_62_code
def yX8_isLetter : MethodName := ⟨RX8, "isLetter", "(I)Z"⟩
abbrev cX8_letterOf : ByteArray := prog_1_method_63_code
def yX8_letterOf : MethodName := ⟨RX8, "letterOf", "(I)I"⟩
abbrev cX8_at : ByteArray := prog_1_method_64_code
def yX8_at : MethodName := ⟨RX8, "at", "([II)I"⟩
abbrev cX8_put : ByteArray := prog_1_method_65_code
def yX8_put : MethodName := ⟨RX8, "put", "([III)V"⟩
def RX9 : String := "GenericwoodModel$Formula"
def TX9 : u_T := fun k => match k with
  | 0 => ("GenericwoodModel$Formula", "kind", "C", true)
  | 1 => ("GenericwoodModel$Formula", "one", "I", true)
  | 2 => ("GenericwoodModel$Formula", "other", "I", true)
  | 3 => ("GenericwoodModel$Formula", "letter", "I", true)
  | 4 => ("GenericwoodModel$Formula", "bound", "I", true)
  | _ => ("GenericwoodModel$Formula", "depth", "I", false)
def tyX9 : Nat → FieldType := fun k => match k with
  | 0 => .char
  | 1 => .int
  | 2 => .int
  | 3 => .int
  | 4 => .int
  | _ => .int
abbrev wsX90 : List Cond := u_ws RX9 TX9 6
theorem nmX9 : ∀ a, a < 6 → ∀ b, b < 6 → a ≠ b → (TX9 a).2.1 ≠ (TX9 b).2.1 := by decide +kernel
theorem tyX9_ok : ∀ k, k < 6 → parseFieldDescriptor (TX9 k).2.2.1 = some (tyX9 k) := by decide +kernel
abbrev cX9_init : ByteArray := prog_12_method_1_code
def yX9_init : MethodName := ⟨RX9, "<init>", "(CIIII)V"⟩
def RX10 : String := "GenericwoodModel$Name"
def TX10 : u_T := fun k => match k with
  | 0 => ("GenericwoodModel$Name", "pairs", "Ljava/util/List;", true)
  | _ => ("GenericwoodModel$Name", "code", "I", false)
def tyX10 : Nat → FieldType := fun k => match k with
  | 0 => .object "java/util/List"
  | _ => .int
abbrev wsX100 : List Cond := u_ws RX10 TX10 2
theorem nmX10 : ∀ a, a < 2 → ∀ b, b < 2 → a ≠ b → (TX10 a).2.1 ≠ (TX10 b).2.1 := by decide +kernel
theorem tyX10_ok : ∀ k, k < 2 → parseFieldDescriptor (TX10 k).2.2.1 = some (tyX10 k) := by decide +kernel
abbrev cX10_init : ByteArray := prog_13_method_1_code
def yX10_init : MethodName := ⟨RX10, "<init>", "()V"⟩
def RX11 : String := "GenericwoodModel"
def TX11 : u_T := fun k => match k with
  | 0 => ("GenericwoodModel", "below", "Ljava/util/List;", true)
  | 1 => ("GenericwoodModel", "names", "Ljava/util/List;", true)
  | 2 => ("GenericwoodModel", "formulas", "Ljava/util/List;", true)
  | 3 => ("GenericwoodModel", "goes", "[I", true)
  | _ => ("GenericwoodModel", "thrown", "I", false)
def tyX11 : Nat → FieldType := fun k => match k with
  | 0 => .object "java/util/List"
  | 1 => .object "java/util/List"
  | 2 => .object "java/util/List"
  | 3 => .array .int
  | _ => .int
abbrev wsX110 : List Cond := u_ws RX11 TX11 5
theorem nmX11 : ∀ a, a < 5 → ∀ b, b < 5 → a ≠ b → (TX11 a).2.1 ≠ (TX11 b).2.1 := by decide +kernel
theorem tyX11_ok : ∀ k, k < 5 → parseFieldDescriptor (TX11 k).2.2.1 = some (tyX11 k) := by decide +kernel
abbrev cX11_init : ByteArray := prog_11_method_1_code
def yX11_init : MethodName := ⟨RX11, "<init>", "()V"⟩
abbrev cX11_thrown : ByteArray := prog_11_method_2_code
def yX11_thrown : MethodName := ⟨RX11, "thrown", "()I"⟩
abbrev cX11_no : ByteArray := prog_11_method_3_code
def yX11_no : MethodName := ⟨RX11, "no", "(ZI)Z"⟩
abbrev cX11_isIn : ByteArray := prog_11_method_4_code
def yX11_isIn : MethodName := ⟨RX11, "isIn", "(III)Z"⟩
abbrev cX11_isCondition : ByteArray := prog_11_method_5_code
def yX11_isCondition : MethodName := ⟨RX11, "isCondition", "(I)Z"⟩
abbrev cX11_isName : ByteArray := prog_11_method_6_code
def yX11_isName : MethodName := ⟨RX11, "isName", "(I)Z"⟩
abbrev cX11_isFormula : ByteArray := prog_11_method_7_code
def yX11_isFormula : MethodName := ⟨RX11, "isFormula", "(I)Z"⟩
abbrev cX11_isSet : ByteArray := prog_11_method_8_code
def yX11_isSet : MethodName := ⟨RX11, "isSet", "(I)Z"⟩
abbrev cX11_has : ByteArray := prog_11_method_9_code
def yX11_has : MethodName := ⟨RX11, "has", "(II)Z"⟩
abbrev cX11_condition : ByteArray := prog_11_method_10_code
def yX11_condition : MethodName := ⟨RX11, "condition", "()I"⟩
abbrev cX11_isUnder : ByteArray := prog_11_method_11_code
def yX11_isUnder : MethodName := ⟨RX11, "isUnder", "(II)Z"⟩
abbrev cX11_under : ByteArray := prog_11_method_12_code
def yX11_under : MethodName := ⟨RX11, "under", "(II)I"⟩
abbrev cX11_isBelow : ByteArray := prog_11_method_13_code
def yX11_isBelow : MethodName := ⟨RX11, "isBelow", "(II)Z"⟩
abbrev cX11_fits : ByteArray := prog_11_method_14_code
def yX11_fits : MethodName := ⟨RX11, "fits", "(II)Z"⟩
abbrev cX11_fit : ByteArray := prog_11_method_15_code
def yX11_fit : MethodName := ⟨RX11, "fit", "(II)Z"⟩
abbrev cX11_ends : ByteArray := prog_11_method_16_code
def yX11_ends : MethodName := ⟨RX11, "ends", "()I"⟩
abbrev cX11_lasts : ByteArray := prog_11_method_17_code
def yX11_lasts : MethodName := ⟨RX11, "lasts", "()I"⟩
abbrev cX11_apart : ByteArray := prog_11_method_18_code
def yX11_apart : MethodName := ⟨RX11, "apart", "(I)Z"⟩
abbrev cX11_isAntichain : ByteArray := prog_11_method_19_code
def yX11_isAntichain : MethodName := ⟨RX11, "isAntichain", "(I)Z"⟩
abbrev cX11_widest : ByteArray := prog_11_method_20_code
def yX11_widest : MethodName := ⟨RX11, "widest", "()I"⟩
abbrev cX11_isDense : ByteArray := prog_11_method_21_code
def yX11_isDense : MethodName := ⟨RX11, "isDense", "(I)Z"⟩
abbrev cX11_filters : ByteArray := prog_11_method_22_code
def yX11_filters : MethodName := ⟨RX11, "filters", "(I)Z"⟩
abbrev cX11_isFilter : ByteArray := prog_11_method_23_code
def yX11_isFilter : MethodName := ⟨RX11, "isFilter", "(I)Z"⟩
abbrev cX11_filters_ : ByteArray := prog_11_method_24_code
def yX11_filters_ : MethodName := ⟨RX11, "filters", "()I"⟩
abbrev cX11_isSeparative : ByteArray := prog_11_method_25_code
def yX11_isSeparative : MethodName := ⟨RX11, "isSeparative", "()Z"⟩
abbrev cX11_endsBelow : ByteArray := prog_11_method_26_code
def yX11_endsBelow : MethodName := ⟨RX11, "endsBelow", "(I)I"⟩
abbrev cX11_cut : ByteArray := prog_11_method_27_code
def yX11_cut : MethodName := ⟨RX11, "cut", "(I)I"⟩
abbrev cX11_closure : ByteArray := prog_11_method_28_code
def yX11_closure : MethodName := ⟨RX11, "closure", "(I)I"⟩
abbrev cX11_isWorld : ByteArray := prog_11_method_29_code
def yX11_isWorld : MethodName := ⟨RX11, "isWorld", "(I)Z"⟩
abbrev cX11_filterOf : ByteArray := prog_11_method_30_code
def yX11_filterOf : MethodName := ⟨RX11, "filterOf", "(I)I"⟩
abbrev cX11_name : ByteArray := prog_11_method_31_code
def yX11_name : MethodName := ⟨RX11, "name", "()I"⟩
abbrev cX11_rankOf : ByteArray := prog_11_method_32_code
def yX11_rankOf : MethodName := ⟨RX11, "rankOf", "(I)I"⟩
abbrev cX11_hasPair : ByteArray := prog_11_method_33_code
def yX11_hasPair : MethodName := ⟨RX11, "hasPair", "(Ljava/util/List;II)Z"⟩
abbrev cX11_pair : ByteArray := prog_11_method_34_code
def yX11_pair : MethodName := ⟨RX11, "pair", "(III)I"⟩
abbrev cX11_unpair : ByteArray := prog_11_method_35_code
def yX11_unpair : MethodName := ⟨RX11, "unpair", "(I)I"⟩
abbrev cX11_rank : ByteArray := prog_11_method_36_code
def yX11_rank : MethodName := ⟨RX11, "rank", "(I)I"⟩
abbrev cX11_ofCode : ByteArray := prog_11_method_37_code
def yX11_ofCode : MethodName := ⟨RX11, "ofCode", "(I)I"⟩
abbrev cX11_make : ByteArray := prog_11_method_38_code
def yX11_make : MethodName := ⟨RX11, "make", "(I)I"⟩
abbrev cX11_standard : ByteArray := prog_11_method_39_code
def yX11_standard : MethodName := ⟨RX11, "standard", "(I)I"⟩
abbrev cX11_becoming : ByteArray := prog_11_method_40_code
def yX11_becoming : MethodName := ⟨RX11, "becoming", "(II)I"⟩
abbrev cX11_becomes : ByteArray := prog_11_method_41_code
def yX11_becomes : MethodName := ⟨RX11, "becomes", "(II)I"⟩
abbrev cX11_worlds : ByteArray := prog_11_method_42_code
def yX11_worlds : MethodName := ⟨RX11, "worlds", "(IIZ)I"⟩
abbrev cX11_valueIn : ByteArray := prog_11_method_43_code
def yX11_valueIn : MethodName := ⟨RX11, "valueIn", "(II)I"⟩
abbrev cX11_valueLike : ByteArray := prog_11_method_44_code
def yX11_valueLike : MethodName := ⟨RX11, "valueLike", "(II)I"⟩
abbrev cX11_forcesIn : ByteArray := prog_11_method_45_code
def yX11_forcesIn : MethodName := ⟨RX11, "forcesIn", "(III)Z"⟩
abbrev cX11_forcesLike : ByteArray := prog_11_method_46_code
def yX11_forcesLike : MethodName := ⟨RX11, "forcesLike", "(III)Z"⟩
abbrev cX11_mix : ByteArray := prog_11_method_47_code
def yX11_mix : MethodName := ⟨RX11, "mix", "(IIII)I"⟩
abbrev cX11_isTerm : ByteArray := prog_11_method_48_code
def yX11_isTerm : MethodName := ⟨RX11, "isTerm", "(I)Z"⟩
abbrev cX11_keep : ByteArray := prog_11_method_49_code
def yX11_keep : MethodName := ⟨RX11, "keep", "(LGenericwoodModel$Formula;I)I"⟩
abbrev cX11_atom : ByteArray := prog_11_method_50_code
def yX11_atom : MethodName := ⟨RX11, "atom", "(CII)I"⟩
abbrev cX11_deep : ByteArray := prog_11_method_51_code
def yX11_deep : MethodName := ⟨RX11, "deep", "(I)I"⟩
abbrev cX11_both : ByteArray := prog_11_method_52_code
def yX11_both : MethodName := ⟨RX11, "both", "(CII)I"⟩
abbrev cX11_not : ByteArray := prog_11_method_53_code
def yX11_not : MethodName := ⟨RX11, "not", "(I)I"⟩
abbrev cX11_bind : ByteArray := prog_11_method_54_code
def yX11_bind : MethodName := ⟨RX11, "bind", "(CIII)I"⟩
abbrev cX11_letterOf : ByteArray := prog_11_method_55_code
def yX11_letterOf : MethodName := ⟨RX11, "letterOf", "(I)I"⟩
abbrev cX11_freeOf : ByteArray := prog_11_method_56_code
def yX11_freeOf : MethodName := ⟨RX11, "freeOf", "(I)I"⟩
abbrev cX11_free : ByteArray := prog_11_method_57_code
def yX11_free : MethodName := ⟨RX11, "free", "(I)I"⟩
abbrev cX11_isSo : ByteArray := prog_11_method_58_code
def yX11_isSo : MethodName := ⟨RX11, "isSo", "(II[I)Z"⟩
abbrev cX11_code : ByteArray := prog_11_method_59_code
def yX11_code : MethodName := ⟨RX11, "code", "(II[I)I"⟩
abbrev cX11_valueOf : ByteArray := prog_11_method_60_code
def yX11_valueOf : MethodName := ⟨RX11, "valueOf", "(I)I"⟩
abbrev cX11_value : ByteArray := prog_11_method_61_code
def yX11_value : MethodName := ⟨RX11, "value", "(I)I"⟩
abbrev cX11_forces : ByteArray := prog_11_method_62_code
def yX11_forces : MethodName := ⟨RX11, "forces", "(II)Z"⟩
abbrev cX11_weakIn : ByteArray := prog_11_method_63_code
def yX11_weakIn : MethodName := ⟨RX11, "weakIn", "(III)Z"⟩
abbrev cX11_weakLike : ByteArray := prog_11_method_64_code
def yX11_weakLike : MethodName := ⟨RX11, "weakLike", "(III)Z"⟩
abbrev cX11_nameOf : ByteArray := prog_11_method_65_code
def yX11_nameOf : MethodName := ⟨RX11, "nameOf", "(I[I)I"⟩
abbrev cX11_with : ByteArray := prog_11_method_66_code
def yX11_with : MethodName := ⟨RX11, "with", "([III)[I"⟩
abbrev cX11_weak : ByteArray := prog_11_method_67_code
def yX11_weak : MethodName := ⟨RX11, "weak", "(II[I)Z"⟩
abbrev cX11_weakly : ByteArray := prog_11_method_68_code
def yX11_weakly : MethodName := ⟨RX11, "weakly", "(II)Z"⟩
abbrev cX11_holds : ByteArray := prog_11_method_69_code
def yX11_holds : MethodName := ⟨RX11, "holds", "(II)Z"⟩
abbrev cX11_against : ByteArray := prog_11_method_70_code
def yX11_against : MethodName := ⟨RX11, "against", "(I)I"⟩
abbrev cX11_keepsOrder : ByteArray := prog_11_method_71_code
def yX11_keepsOrder : MethodName := ⟨RX11, "keepsOrder", "()Z"⟩
abbrev cX11_swap : ByteArray := prog_11_method_72_code
def yX11_swap : MethodName := ⟨RX11, "swap", "(II)Z"⟩
abbrev cX11_goes : ByteArray := prog_11_method_73_code
def yX11_goes : MethodName := ⟨RX11, "goes", "(I)I"⟩
abbrev cX11_moved : ByteArray := prog_11_method_74_code
def yX11_moved : MethodName := ⟨RX11, "moved", "(II)I"⟩
abbrev cX11_isFixed : ByteArray := prog_11_method_75_code
def yX11_isFixed : MethodName := ⟨RX11, "isFixed", "(I)Z"⟩
abbrev cX11_clear : ByteArray := prog_11_method_76_code
def yX11_clear : MethodName := ⟨RX11, "clear", "()I"⟩
abbrev cX11_checksum : ByteArray := prog_11_method_77_code
def yX11_checksum : MethodName := ⟨RX11, "checksum", "()J"⟩
abbrev cX11_lastShare : ByteArray := prog_11_method_78_code
def yX11_lastShare : MethodName := ⟨RX11, "lastShare", "()F"⟩
abbrev cX11_meanRank : ByteArray := prog_11_method_79_code
def yX11_meanRank : MethodName := ⟨RX11, "meanRank", "()D"⟩
abbrev cX11_isSound : ByteArray := prog_11_method_80_code
def yX11_isSound : MethodName := ⟨RX11, "isSound", "()Z"⟩
def RJx145de : String := "java/io/Serializable"
def TJx145de : u_T := fun k => match k with
  | _ => ("", "", "", false)
def tyJx145de : Nat → FieldType := fun k => match k with
  | _ => .int
abbrev wsJx145de0 : List Cond := u_ws RJx145de TJx145de 0
theorem nmJx145de : ∀ a, a < 0 → ∀ b, b < 0 → a ≠ b → (TJx145de a).2.1 ≠ (TJx145de b).2.1 := by decide +kernel
theorem tyJx145de_ok : ∀ k, k < 0 → parseFieldDescriptor (TJx145de k).2.2.1 = some (tyJx145de k) := by decide +kernel
def RJx8e188 : String := "java/lang/Cloneable"
def TJx8e188 : u_T := fun k => match k with
  | _ => ("", "", "", false)
def tyJx8e188 : Nat → FieldType := fun k => match k with
  | _ => .int
abbrev wsJx8e1880 : List Cond := u_ws RJx8e188 TJx8e188 0
theorem nmJx8e188 : ∀ a, a < 0 → ∀ b, b < 0 → a ≠ b → (TJx8e188 a).2.1 ≠ (TJx8e188 b).2.1 := by decide +kernel
theorem tyJx8e188_ok : ∀ k, k < 0 → parseFieldDescriptor (TJx8e188 k).2.2.1 = some (tyJx8e188 k) := by decide +kernel
def RJxb160c : String := "java/lang/Comparable"
def TJxb160c : u_T := fun k => match k with
  | _ => ("", "", "", false)
def tyJxb160c : Nat → FieldType := fun k => match k with
  | _ => .int
abbrev wsJxb160c0 : List Cond := u_ws RJxb160c TJxb160c 0
theorem nmJxb160c : ∀ a, a < 0 → ∀ b, b < 0 → a ≠ b → (TJxb160c a).2.1 ≠ (TJxb160c b).2.1 := by decide +kernel
theorem tyJxb160c_ok : ∀ k, k < 0 → parseFieldDescriptor (TJxb160c k).2.2.1 = some (tyJxb160c k) := by decide +kernel
def RJxabbfe : String := "java/lang/Integer$IntegerCache"
def TJxabbfe : u_T := fun k => match k with
  | _ => ("", "", "", false)
def tyJxabbfe : Nat → FieldType := fun k => match k with
  | _ => .int
abbrev wsJxabbfe0 : List Cond := u_ws RJxabbfe TJxabbfe 0
theorem nmJxabbfe : ∀ a, a < 0 → ∀ b, b < 0 → a ≠ b → (TJxabbfe a).2.1 ≠ (TJxabbfe b).2.1 := by decide +kernel
theorem tyJxabbfe_ok : ∀ k, k < 0 → parseFieldDescriptor (TJxabbfe k).2.2.1 = some (tyJxabbfe k) := by decide +kernel
def RJ6 : String := "java/lang/Integer"
def TJ6 : u_T := fun k => match k with
  | _ => ("java/lang/Integer", "value", "I", true)
def tyJ6 : Nat → FieldType := fun k => match k with
  | _ => .int
abbrev wsJ60 : List Cond := u_ws RJ6 TJ6 1
theorem nmJ6 : ∀ a, a < 1 → ∀ b, b < 1 → a ≠ b → (TJ6 a).2.1 ≠ (TJ6 b).2.1 := by decide +kernel
theorem tyJ6_ok : ∀ k, k < 1 → parseFieldDescriptor (TJ6 k).2.2.1 = some (tyJ6 k) := by decide +kernel
abbrev cJ6_valueOf_2dffe : ByteArray := prog_21_method_22_code
def yJ6_valueOf_2dffe : MethodName := ⟨RJ6, "valueOf", "(I)Ljava/lang/Integer;"⟩
abbrev cJ6_init_d00df : ByteArray := prog_21_method_23_code
def yJ6_init_d00df : MethodName := ⟨RJ6, "<init>", "(I)V"⟩
abbrev cJ6_intValue_8abf5 : ByteArray := prog_21_method_27_code
def yJ6_intValue_8abf5 : MethodName := ⟨RJ6, "intValue", "()I"⟩
abbrev cJ6_numberOfTrailingZeros_0f7a4 : ByteArray := prog_21_method_48_code
def yJ6_numberOfTrailingZeros_0f7a4 : MethodName := ⟨RJ6, "numberOfTrailingZeros", "(I)I"⟩
abbrev cJ6_bitCount_0f7a4 : ByteArray := prog_21_method_49_code
def yJ6_bitCount_0f7a4 : MethodName := ⟨RJ6, "bitCount", "(I)I"⟩
def RJxab1ab : String := "java/lang/Iterable"
def TJxab1ab : u_T := fun k => match k with
  | _ => ("", "", "", false)
def tyJxab1ab : Nat → FieldType := fun k => match k with
  | _ => .int
abbrev wsJxab1ab0 : List Cond := u_ws RJxab1ab TJxab1ab 0
theorem nmJxab1ab : ∀ a, a < 0 → ∀ b, b < 0 → a ≠ b → (TJxab1ab a).2.1 ≠ (TJxab1ab b).2.1 := by decide +kernel
theorem tyJxab1ab_ok : ∀ k, k < 0 → parseFieldDescriptor (TJxab1ab k).2.2.1 = some (tyJxab1ab k) := by decide +kernel
def RJ9 : String := "java/lang/Math"
def TJ9 : u_T := fun k => match k with
  | _ => ("", "", "", false)
def tyJ9 : Nat → FieldType := fun k => match k with
  | _ => .int
abbrev wsJ90 : List Cond := u_ws RJ9 TJ9 0
theorem nmJ9 : ∀ a, a < 0 → ∀ b, b < 0 → a ≠ b → (TJ9 a).2.1 ≠ (TJ9 b).2.1 := by decide +kernel
theorem tyJ9_ok : ∀ k, k < 0 → parseFieldDescriptor (TJ9 k).2.2.1 = some (tyJ9 k) := by decide +kernel
abbrev cJ9_max_7cf53 : ByteArray := prog_24_method_65_code
def yJ9_max_7cf53 : MethodName := ⟨RJ9, "max", "(II)I"⟩
abbrev cJ9_min_7cf53 : ByteArray := prog_24_method_69_code
def yJ9_min_7cf53 : MethodName := ⟨RJ9, "min", "(II)I"⟩
def RJxd2413 : String := "java/lang/Number"
def TJxd2413 : u_T := fun k => match k with
  | _ => ("", "", "", false)
def tyJxd2413 : Nat → FieldType := fun k => match k with
  | _ => .int
abbrev wsJxd24130 : List Cond := u_ws RJxd2413 TJxd2413 0
theorem nmJxd2413 : ∀ a, a < 0 → ∀ b, b < 0 → a ≠ b → (TJxd2413 a).2.1 ≠ (TJxd2413 b).2.1 := by decide +kernel
theorem tyJxd2413_ok : ∀ k, k < 0 → parseFieldDescriptor (TJxd2413 k).2.2.1 = some (tyJxd2413 k) := by decide +kernel
abbrev cJxd2413_init_da8c8 : ByteArray := prog_25_method_1_code
def yJxd2413_init_da8c8 : MethodName := ⟨RJxd2413, "<init>", "()V"⟩
def RJ0 : String := "java/lang/String"
def TJ0 : u_T := fun k => match k with
  | _ => ("", "", "", false)
def tyJ0 : Nat → FieldType := fun k => match k with
  | _ => .int
abbrev wsJ00 : List Cond := u_ws RJ0 TJ0 0
theorem nmJ0 : ∀ a, a < 0 → ∀ b, b < 0 → a ≠ b → (TJ0 a).2.1 ≠ (TJ0 b).2.1 := by decide +kernel
theorem tyJ0_ok : ∀ k, k < 0 → parseFieldDescriptor (TJ0 k).2.2.1 = some (tyJ0 k) := by decide +kernel
def RJ10 : String := "java/lang/System"
def TJ10 : u_T := fun k => match k with
  | _ => ("", "", "", false)
def tyJ10 : Nat → FieldType := fun k => match k with
  | _ => .int
abbrev wsJ100 : List Cond := u_ws RJ10 TJ10 0
theorem nmJ10 : ∀ a, a < 0 → ∀ b, b < 0 → a ≠ b → (TJ10 a).2.1 ≠ (TJ10 b).2.1 := by decide +kernel
theorem tyJ10_ok : ∀ k, k < 0 → parseFieldDescriptor (TJ10 k).2.2.1 = some (tyJ10 k) := by decide +kernel
def RJxfd54e : String := "java/lang/constant/Constable"
def TJxfd54e : u_T := fun k => match k with
  | _ => ("", "", "", false)
def tyJxfd54e : Nat → FieldType := fun k => match k with
  | _ => .int
abbrev wsJxfd54e0 : List Cond := u_ws RJxfd54e TJxfd54e 0
theorem nmJxfd54e : ∀ a, a < 0 → ∀ b, b < 0 → a ≠ b → (TJxfd54e a).2.1 ≠ (TJxfd54e b).2.1 := by decide +kernel
theorem tyJxfd54e_ok : ∀ k, k < 0 → parseFieldDescriptor (TJxfd54e k).2.2.1 = some (tyJxfd54e k) := by decide +kernel
def RJx3cf43 : String := "java/lang/constant/ConstantDesc"
def TJx3cf43 : u_T := fun k => match k with
  | _ => ("", "", "", false)
def tyJx3cf43 : Nat → FieldType := fun k => match k with
  | _ => .int
abbrev wsJx3cf430 : List Cond := u_ws RJx3cf43 TJx3cf43 0
theorem nmJx3cf43 : ∀ a, a < 0 → ∀ b, b < 0 → a ≠ b → (TJx3cf43 a).2.1 ≠ (TJx3cf43 b).2.1 := by decide +kernel
theorem tyJx3cf43_ok : ∀ k, k < 0 → parseFieldDescriptor (TJx3cf43 k).2.2.1 = some (tyJx3cf43 k) := by decide +kernel
def RJxa1e45 : String := "java/util/AbstractCollection"
def TJxa1e45 : u_T := fun k => match k with
  | _ => ("", "", "", false)
def tyJxa1e45 : Nat → FieldType := fun k => match k with
  | _ => .int
abbrev wsJxa1e450 : List Cond := u_ws RJxa1e45 TJxa1e45 0
theorem nmJxa1e45 : ∀ a, a < 0 → ∀ b, b < 0 → a ≠ b → (TJxa1e45 a).2.1 ≠ (TJxa1e45 b).2.1 := by decide +kernel
theorem tyJxa1e45_ok : ∀ k, k < 0 → parseFieldDescriptor (TJxa1e45 k).2.2.1 = some (tyJxa1e45 k) := by decide +kernel
abbrev cJxa1e45_init_da8c8 : ByteArray := prog_33_method_1_code
def yJxa1e45_init_da8c8 : MethodName := ⟨RJxa1e45, "<init>", "()V"⟩
def RJxc12de : String := "java/util/AbstractList"
def TJxc12de : u_T := fun k => match k with
  | _ => ("", "", "", false)
def tyJxc12de : Nat → FieldType := fun k => match k with
  | _ => .int
abbrev wsJxc12de0 : List Cond := u_ws RJxc12de TJxc12de 0
theorem nmJxc12de : ∀ a, a < 0 → ∀ b, b < 0 → a ≠ b → (TJxc12de a).2.1 ≠ (TJxc12de b).2.1 := by decide +kernel
theorem tyJxc12de_ok : ∀ k, k < 0 → parseFieldDescriptor (TJxc12de k).2.2.1 = some (tyJxc12de k) := by decide +kernel
abbrev cJxc12de_init_da8c8 : ByteArray := prog_34_method_1_code
def yJxc12de_init_da8c8 : MethodName := ⟨RJxc12de, "<init>", "()V"⟩
def RJx35411 : String := "java/util/ArrayList$Itr"
def TJx35411 : u_T := fun k => match k with
  | 0 => ("java/util/ArrayList$Itr", "cursor", "I", false)
  | 1 => ("java/util/ArrayList$Itr", "lastRet", "I", false)
  | 2 => ("java/util/ArrayList$Itr", "expectedModCount", "I", false)
  | _ => ("java/util/ArrayList$Itr", "this$0", "Ljava/util/ArrayList;", true)
def tyJx35411 : Nat → FieldType := fun k => match k with
  | 0 => .int
  | 1 => .int
  | 2 => .int
  | _ => .object "java/util/ArrayList"
abbrev wsJx354110 : List Cond := u_ws RJx35411 TJx35411 4
theorem nmJx35411 : ∀ a, a < 4 → ∀ b, b < 4 → a ≠ b → (TJx35411 a).2.1 ≠ (TJx35411 b).2.1 := by decide +kernel
theorem tyJx35411_ok : ∀ k, k < 4 → parseFieldDescriptor (TJx35411 k).2.2.1 = some (tyJx35411 k) := by decide +kernel
abbrev cJx35411_init_45d68 : ByteArray := prog_36_method_1_code
def yJx35411_init_45d68 : MethodName := ⟨RJx35411, "<init>", "(Ljava/util/ArrayList;)V"⟩
abbrev cJx35411_hasNext_aae02 : ByteArray := prog_36_method_2_code
def yJx35411_hasNext_aae02 : MethodName := ⟨RJx35411, "hasNext", "()Z"⟩
abbrev cJx35411_next_0502b : ByteArray := prog_36_method_3_code
def yJx35411_next_0502b : MethodName := ⟨RJx35411, "next", "()Ljava/lang/Object;"⟩
abbrev cJx35411_checkForComodification_da8c8 : ByteArray := prog_36_method_6_code
def yJx35411_checkForComodification_da8c8 : MethodName := ⟨RJx35411, "checkForComodification", "()V"⟩
def RJx4a65c : String := "java/util/ArrayList"
def TJx4a65c : u_T := fun k => match k with
  | 0 => ("java/util/AbstractList", "modCount", "I", false)
  | 1 => ("java/util/ArrayList", "elementData", "[Ljava/lang/Object;", false)
  | _ => ("java/util/ArrayList", "size", "I", false)
def tyJx4a65c : Nat → FieldType := fun k => match k with
  | 0 => .int
  | 1 => .array (.object "java/lang/Object")
  | _ => .int
abbrev wsJx4a65c0 : List Cond := u_ws RJx4a65c TJx4a65c 3
theorem nmJx4a65c : ∀ a, a < 3 → ∀ b, b < 3 → a ≠ b → (TJx4a65c a).2.1 ≠ (TJx4a65c b).2.1 := by decide +kernel
theorem tyJx4a65c_ok : ∀ k, k < 3 → parseFieldDescriptor (TJx4a65c k).2.2.1 = some (tyJx4a65c k) := by decide +kernel
abbrev cJx4a65c_init_da8c8 : ByteArray := prog_35_method_2_code
def yJx4a65c_init_da8c8 : MethodName := ⟨RJx4a65c, "<init>", "()V"⟩
abbrev cJx4a65c_grow_92f84 : ByteArray := prog_35_method_6_code
def yJx4a65c_grow_92f84 : MethodName := ⟨RJx4a65c, "grow", "(I)[Ljava/lang/Object;"⟩
abbrev cJx4a65c_grow_d5877 : ByteArray := prog_35_method_7_code
def yJx4a65c_grow_d5877 : MethodName := ⟨RJx4a65c, "grow", "()[Ljava/lang/Object;"⟩
abbrev cJx4a65c_size_8abf5 : ByteArray := prog_35_method_8_code
def yJx4a65c_size_8abf5 : MethodName := ⟨RJx4a65c, "size", "()I"⟩
abbrev cJx4a65c_isEmpty_aae02 : ByteArray := prog_35_method_9_code
def yJx4a65c_isEmpty_aae02 : MethodName := ⟨RJx4a65c, "isEmpty", "()Z"⟩
abbrev cJx4a65c_elementData_915e3 : ByteArray := prog_35_method_18_code
def yJx4a65c_elementData_915e3 : MethodName := ⟨RJx4a65c, "elementData", "(I)Ljava/lang/Object;"⟩
abbrev cJx4a65c_get_915e3 : ByteArray := prog_35_method_20_code
def yJx4a65c_get_915e3 : MethodName := ⟨RJx4a65c, "get", "(I)Ljava/lang/Object;"⟩
abbrev cJx4a65c_set_bcc79 : ByteArray := prog_35_method_23_code
def yJx4a65c_set_bcc79 : MethodName := ⟨RJx4a65c, "set", "(ILjava/lang/Object;)Ljava/lang/Object;"⟩
abbrev cJx4a65c_add_72be8 : ByteArray := prog_35_method_24_code
def yJx4a65c_add_72be8 : MethodName := ⟨RJx4a65c, "add", "(Ljava/lang/Object;[Ljava/lang/Object;I)V"⟩
abbrev cJx4a65c_add_9ea2d : ByteArray := prog_35_method_25_code
def yJx4a65c_add_9ea2d : MethodName := ⟨RJx4a65c, "add", "(Ljava/lang/Object;)Z"⟩
abbrev cJx4a65c_remove_915e3 : ByteArray := prog_35_method_29_code
def yJx4a65c_remove_915e3 : MethodName := ⟨RJx4a65c, "remove", "(I)Ljava/lang/Object;"⟩
abbrev cJx4a65c_fastRemove_b59b0 : ByteArray := prog_35_method_39_code
def yJx4a65c_fastRemove_b59b0 : MethodName := ⟨RJx4a65c, "fastRemove", "([Ljava/lang/Object;I)V"⟩
abbrev cJx4a65c_clear_da8c8 : ByteArray := prog_35_method_40_code
def yJx4a65c_clear_da8c8 : MethodName := ⟨RJx4a65c, "clear", "()V"⟩
abbrev cJx4a65c_iterator_32c93 : ByteArray := prog_35_method_55_code
def yJx4a65c_iterator_32c93 : MethodName := ⟨RJx4a65c, "iterator", "()Ljava/util/Iterator;"⟩
def RJ7 : String := "java/util/Arrays"
def TJ7 : u_T := fun k => match k with
  | _ => ("", "", "", false)
def tyJ7 : Nat → FieldType := fun k => match k with
  | _ => .int
abbrev wsJ70 : List Cond := u_ws RJ7 TJ7 0
theorem nmJ7 : ∀ a, a < 0 → ∀ b, b < 0 → a ≠ b → (TJ7 a).2.1 ≠ (TJ7 b).2.1 := by decide +kernel
theorem tyJ7_ok : ∀ k, k < 0 → parseFieldDescriptor (TJ7 k).2.2.1 = some (tyJ7 k) := by decide +kernel
abbrev cJ7_copyOf_1904c : ByteArray := prog_37_method_119_code
def yJ7_copyOf_1904c : MethodName := ⟨RJ7, "copyOf", "([Ljava/lang/Object;I)[Ljava/lang/Object;"⟩
abbrev cJ7_copyOf_6403c : ByteArray := prog_37_method_120_code
def yJ7_copyOf_6403c : MethodName := ⟨RJ7, "copyOf", "([Ljava/lang/Object;ILjava/lang/Class;)[Ljava/lang/Object;"⟩
def RJx5ef63 : String := "java/util/Collection"
def TJx5ef63 : u_T := fun k => match k with
  | _ => ("", "", "", false)
def tyJx5ef63 : Nat → FieldType := fun k => match k with
  | _ => .int
abbrev wsJx5ef630 : List Cond := u_ws RJx5ef63 TJx5ef63 0
theorem nmJx5ef63 : ∀ a, a < 0 → ∀ b, b < 0 → a ≠ b → (TJx5ef63 a).2.1 ≠ (TJx5ef63 b).2.1 := by decide +kernel
theorem tyJx5ef63_ok : ∀ k, k < 0 → parseFieldDescriptor (TJx5ef63 k).2.2.1 = some (tyJx5ef63 k) := by decide +kernel
def RJx4d0d8 : String := "java/util/Iterator"
def TJx4d0d8 : u_T := fun k => match k with
  | _ => ("", "", "", false)
def tyJx4d0d8 : Nat → FieldType := fun k => match k with
  | _ => .int
abbrev wsJx4d0d80 : List Cond := u_ws RJx4d0d8 TJx4d0d8 0
theorem nmJx4d0d8 : ∀ a, a < 0 → ∀ b, b < 0 → a ≠ b → (TJx4d0d8 a).2.1 ≠ (TJx4d0d8 b).2.1 := by decide +kernel
theorem tyJx4d0d8_ok : ∀ k, k < 0 → parseFieldDescriptor (TJx4d0d8 k).2.2.1 = some (tyJx4d0d8 k) := by decide +kernel
def RJxbd725 : String := "java/util/List"
def TJxbd725 : u_T := fun k => match k with
  | _ => ("", "", "", false)
def tyJxbd725 : Nat → FieldType := fun k => match k with
  | _ => .int
abbrev wsJxbd7250 : List Cond := u_ws RJxbd725 TJxbd725 0
theorem nmJxbd725 : ∀ a, a < 0 → ∀ b, b < 0 → a ≠ b → (TJxbd725 a).2.1 ≠ (TJxbd725 b).2.1 := by decide +kernel
theorem tyJxbd725_ok : ∀ k, k < 0 → parseFieldDescriptor (TJxbd725 k).2.2.1 = some (tyJxbd725 k) := by decide +kernel
def RJ15 : String := "java/util/Objects"
def TJ15 : u_T := fun k => match k with
  | _ => ("", "", "", false)
def tyJ15 : Nat → FieldType := fun k => match k with
  | _ => .int
abbrev wsJ150 : List Cond := u_ws RJ15 TJ15 0
theorem nmJ15 : ∀ a, a < 0 → ∀ b, b < 0 → a ≠ b → (TJ15 a).2.1 ≠ (TJ15 b).2.1 := by decide +kernel
theorem tyJ15_ok : ∀ k, k < 0 → parseFieldDescriptor (TJ15 k).2.2.1 = some (tyJ15 k) := by decide +kernel
abbrev cJ15_checkIndex_7cf53 : ByteArray := prog_42_method_17_code
def yJ15_checkIndex_7cf53 : MethodName := ⟨RJ15, "checkIndex", "(II)I"⟩
def RJxf0a74 : String := "java/util/RandomAccess"
def TJxf0a74 : u_T := fun k => match k with
  | _ => ("", "", "", false)
def tyJxf0a74 : Nat → FieldType := fun k => match k with
  | _ => .int
abbrev wsJxf0a740 : List Cond := u_ws RJxf0a74 TJxf0a74 0
theorem nmJxf0a74 : ∀ a, a < 0 → ∀ b, b < 0 → a ≠ b → (TJxf0a74 a).2.1 ≠ (TJxf0a74 b).2.1 := by decide +kernel
theorem tyJxf0a74_ok : ∀ k, k < 0 → parseFieldDescriptor (TJxf0a74 k).2.2.1 = some (tyJxf0a74 k) := by decide +kernel
def RJxa66e6 : String := "java/util/SequencedCollection"
def TJxa66e6 : u_T := fun k => match k with
  | _ => ("", "", "", false)
def tyJxa66e6 : Nat → FieldType := fun k => match k with
  | _ => .int
abbrev wsJxa66e60 : List Cond := u_ws RJxa66e6 TJxa66e6 0
theorem nmJxa66e6 : ∀ a, a < 0 → ∀ b, b < 0 → a ≠ b → (TJxa66e6 a).2.1 ≠ (TJxa66e6 b).2.1 := by decide +kernel
theorem tyJxa66e6_ok : ∀ k, k < 0 → parseFieldDescriptor (TJxa66e6 k).2.2.1 = some (tyJxa66e6 k) := by decide +kernel
def RJ8 : String := "jdk/internal/util/ArraysSupport"
def TJ8 : u_T := fun k => match k with
  | _ => ("", "", "", false)
def tyJ8 : Nat → FieldType := fun k => match k with
  | _ => .int
abbrev wsJ80 : List Cond := u_ws RJ8 TJ8 0
theorem nmJ8 : ∀ a, a < 0 → ∀ b, b < 0 → a ≠ b → (TJ8 a).2.1 ≠ (TJ8 b).2.1 := by decide +kernel
theorem tyJ8_ok : ∀ k, k < 0 → parseFieldDescriptor (TJ8 k).2.2.1 = some (tyJ8 k) := by decide +kernel
abbrev cJ8_newLength_cabcc : ByteArray := prog_45_method_27_code
def yJ8_newLength_cabcc : MethodName := ⟨RJ8, "newLength", "(III)I"⟩
abbrev cJ8_hugeLength_7cf53 : ByteArray := prog_45_method_28_code
def yJ8_hugeLength_7cf53 : MethodName := ⟨RJ8, "hugeLength", "(II)I"⟩
def RJ3 : String := "jdk/internal/util/Preconditions"
def TJ3 : u_T := fun k => match k with
  | _ => ("", "", "", false)
def tyJ3 : Nat → FieldType := fun k => match k with
  | _ => .int
abbrev wsJ30 : List Cond := u_ws RJ3 TJ3 0
theorem nmJ3 : ∀ a, a < 0 → ∀ b, b < 0 → a ≠ b → (TJ3 a).2.1 ≠ (TJ3 b).2.1 := by decide +kernel
theorem tyJ3_ok : ∀ k, k < 0 → parseFieldDescriptor (TJ3 k).2.2.1 = some (tyJ3 k) := by decide +kernel
abbrev cJ3_checkIndex_8e157 : ByteArray := prog_46_method_11_code
def yJ3_checkIndex_8e157 : MethodName := ⟨RJ3, "checkIndex", "(IILjava/util/function/BiFunction;)I"⟩
def RL : String := "GenericwoodLaw"
abbrev cL_condition : ByteArray := method_3_code
def yL_condition : MethodName := ⟨RL, "condition", "(LGenericwood;[J)I"⟩
abbrev cL_under : ByteArray := method_4_code
def yL_under : MethodName := ⟨RL, "under", "(LGenericwood;II[J)I"⟩
abbrev cL_isBelow : ByteArray := method_5_code
def yL_isBelow : MethodName := ⟨RL, "isBelow", "(LGenericwood;II[J)I"⟩
abbrev cL_fit : ByteArray := method_6_code
def yL_fit : MethodName := ⟨RL, "fit", "(LGenericwood;II[J)I"⟩
abbrev cL_isAntichain : ByteArray := method_7_code
def yL_isAntichain : MethodName := ⟨RL, "isAntichain", "(LGenericwood;I[J)I"⟩
abbrev cL_isDense : ByteArray := method_8_code
def yL_isDense : MethodName := ⟨RL, "isDense", "(LGenericwood;I[J)I"⟩
abbrev cL_isFilter : ByteArray := method_9_code
def yL_isFilter : MethodName := ⟨RL, "isFilter", "(LGenericwood;I[J)I"⟩
abbrev cL_cut : ByteArray := method_10_code
def yL_cut : MethodName := ⟨RL, "cut", "(LGenericwood;I[J)I"⟩
abbrev cL_closure : ByteArray := method_11_code
def yL_closure : MethodName := ⟨RL, "closure", "(LGenericwood;I[J)I"⟩
abbrev cL_filterOf : ByteArray := method_12_code
def yL_filterOf : MethodName := ⟨RL, "filterOf", "(LGenericwood;I[J)I"⟩
abbrev cL_name : ByteArray := method_13_code
def yL_name : MethodName := ⟨RL, "name", "(LGenericwood;[J)I"⟩
abbrev cL_pair : ByteArray := method_14_code
def yL_pair : MethodName := ⟨RL, "pair", "(LGenericwood;III[J)I"⟩
abbrev cL_unpair : ByteArray := method_15_code
def yL_unpair : MethodName := ⟨RL, "unpair", "(LGenericwood;I[J)I"⟩
abbrev cL_rank : ByteArray := method_16_code
def yL_rank : MethodName := ⟨RL, "rank", "(LGenericwood;I[J)I"⟩
abbrev cL_standard : ByteArray := method_17_code
def yL_standard : MethodName := ⟨RL, "standard", "(LGenericwood;I[J)I"⟩
abbrev cL_becomes : ByteArray := method_18_code
def yL_becomes : MethodName := ⟨RL, "becomes", "(LGenericwood;II[J)I"⟩
abbrev cL_valueIn : ByteArray := method_19_code
def yL_valueIn : MethodName := ⟨RL, "valueIn", "(LGenericwood;II[J)I"⟩
abbrev cL_valueLike : ByteArray := method_20_code
def yL_valueLike : MethodName := ⟨RL, "valueLike", "(LGenericwood;II[J)I"⟩
abbrev cL_forcesIn : ByteArray := method_21_code
def yL_forcesIn : MethodName := ⟨RL, "forcesIn", "(LGenericwood;III[J)I"⟩
abbrev cL_forcesLike : ByteArray := method_22_code
def yL_forcesLike : MethodName := ⟨RL, "forcesLike", "(LGenericwood;III[J)I"⟩
abbrev cL_mix : ByteArray := method_23_code
def yL_mix : MethodName := ⟨RL, "mix", "(LGenericwood;IIII[J)I"⟩
abbrev cL_atom : ByteArray := method_24_code
def yL_atom : MethodName := ⟨RL, "atom", "(LGenericwood;CII[J)I"⟩
abbrev cL_both : ByteArray := method_25_code
def yL_both : MethodName := ⟨RL, "both", "(LGenericwood;CII[J)I"⟩
abbrev cL_not : ByteArray := method_26_code
def yL_not : MethodName := ⟨RL, "not", "(LGenericwood;I[J)I"⟩
abbrev cL_bind : ByteArray := method_27_code
def yL_bind : MethodName := ⟨RL, "bind", "(LGenericwood;CIII[J)I"⟩
abbrev cL_free : ByteArray := method_28_code
def yL_free : MethodName := ⟨RL, "free", "(LGenericwood;I[J)I"⟩
abbrev cL_value : ByteArray := method_29_code
def yL_value : MethodName := ⟨RL, "value", "(LGenericwood;I[J)I"⟩
abbrev cL_forces : ByteArray := method_30_code
def yL_forces : MethodName := ⟨RL, "forces", "(LGenericwood;II[J)I"⟩
abbrev cL_weakly : ByteArray := method_31_code
def yL_weakly : MethodName := ⟨RL, "weakly", "(LGenericwood;II[J)I"⟩
abbrev cL_holds : ByteArray := method_32_code
def yL_holds : MethodName := ⟨RL, "holds", "(LGenericwood;II[J)I"⟩
abbrev cL_against : ByteArray := method_33_code
def yL_against : MethodName := ⟨RL, "against", "(LGenericwood;I[J)I"⟩
abbrev cL_swap : ByteArray := method_34_code
def yL_swap : MethodName := ⟨RL, "swap", "(LGenericwood;II[J)I"⟩
abbrev cL_goes : ByteArray := method_35_code
def yL_goes : MethodName := ⟨RL, "goes", "(LGenericwood;I[J)I"⟩
abbrev cL_isFixed : ByteArray := method_36_code
def yL_isFixed : MethodName := ⟨RL, "isFixed", "(LGenericwood;I[J)I"⟩
abbrev cL_lastShare : ByteArray := method_37_code
def yL_lastShare : MethodName := ⟨RL, "lastShare", "(LGenericwood;[D)I"⟩
abbrev cL_meanRank : ByteArray := method_38_code
def yL_meanRank : MethodName := ⟨RL, "meanRank", "(LGenericwood;[D)I"⟩
abbrev cL_law : ByteArray := code
def yL_law : MethodName := ⟨RL, "law", "([I)Z"⟩
abbrev vwCl : List vw_C := [(RJ6, TJ6, 1), (RJx35411, TJx35411, 4), (RJx4a65c, TJx4a65c, 3), (RX0, TX0, 7), (RX1, TX1, 7), (RX2, TX2, 9), (RX3, TX3, 5), (RX4, TX4, 7), (RX6, TX6, 7), (RX7, TX7, 5), (RX8, TX8, 7), (RX9, TX9, 6), (RX10, TX10, 2), (RX11, TX11, 5)]
end
section
theorem dX0_init_0 : decode cX0_init 0 = .ok (.aload_n 0, 1) := by decide +kernel
theorem dX0_init_1 : decode cX0_init 1 = .ok (.aload_n 1, 1) := by decide +kernel
theorem dX0_init_2 : decode cX0_init 2 = .ok (.aload_n 2, 1) := by decide +kernel
theorem dX0_init_3 : decode cX0_init 3 = .ok (.aload_n 3, 1) := by decide +kernel
theorem dX0_init_4 : decode cX0_init 4 = .ok (.invokespecial 1, 3) := by decide +kernel
theorem dX0_init_7 : decode cX0_init 7 = .ok (.return_, 1) := by decide +kernel
theorem dX0_settled_0 : decode cX0_settled 0 = .ok (.aload_n 0, 1) := by decide +kernel
theorem dX0_settled_1 : decode cX0_settled 1 = .ok (.getfield 7, 3) := by decide +kernel
theorem dX0_settled_4 : decode cX0_settled 4 = .ok (.aload_n 0, 1) := by decide +kernel
theorem dX0_settled_5 : decode cX0_settled 5 = .ok (.getfield 7, 3) := by decide +kernel
theorem dX0_settled_8 : decode cX0_settled 8 = .ok (.iload_n 1, 1) := by decide +kernel
theorem dX0_settled_9 : decode cX0_settled 9 = .ok (.invokevirtual 13, 3) := by decide +kernel
theorem dX0_settled_12 : decode cX0_settled 12 = .ok (.invokevirtual 13, 3) := by decide +kernel
theorem dX0_settled_15 : decode cX0_settled 15 = .ok (.ireturn, 1) := by decide +kernel
theorem dX1_init_0 : decode cX1_init 0 = .ok (.aload_n 0, 1) := by decide +kernel
theorem dX1_init_1 : decode cX1_init 1 = .ok (.invokespecial 3, 3) := by decide +kernel
theorem dX1_init_4 : decode cX1_init 4 = .ok (.aload_n 0, 1) := by decide +kernel
theorem dX1_init_5 : decode cX1_init 5 = .ok (.bipush 16, 2) := by decide +kernel
theorem dX1_init_7 : decode cX1_init 7 = .ok (.newarray .int, 2) := by decide +kernel
theorem dX1_init_9 : decode cX1_init 9 = .ok (.putfield 9, 3) := by decide +kernel
theorem dX1_init_12 : decode cX1_init 12 = .ok (.aload_n 0, 1) := by decide +kernel
theorem dX1_init_13 : decode cX1_init 13 = .ok (.bipush 16, 2) := by decide +kernel
theorem dX1_init_15 : decode cX1_init 15 = .ok (.newarray .int, 2) := by decide +kernel
theorem dX1_init_17 : decode cX1_init 17 = .ok (.putfield 15, 3) := by decide +kernel
theorem dX1_init_20 : decode cX1_init 20 = .ok (.aload_n 0, 1) := by decide +kernel
theorem dX1_init_21 : decode cX1_init 21 = .ok (.bipush 16, 2) := by decide +kernel
theorem dX1_init_23 : decode cX1_init 23 = .ok (.newarray .int, 2) := by decide +kernel
theorem dX1_init_25 : decode cX1_init 25 = .ok (.putfield 18, 3) := by decide +kernel
theorem dX1_init_28 : decode cX1_init 28 = .ok (.aload_n 0, 1) := by decide +kernel
theorem dX1_init_29 : decode cX1_init 29 = .ok (.bipush 16, 2) := by decide +kernel
theorem dX1_init_31 : decode cX1_init 31 = .ok (.newarray .int, 2) := by decide +kernel
theorem dX1_init_33 : decode cX1_init 33 = .ok (.putfield 21, 3) := by decide +kernel
theorem dX1_init_36 : decode cX1_init 36 = .ok (.aload_n 0, 1) := by decide +kernel
theorem dX1_init_37 : decode cX1_init 37 = .ok (.bipush 16, 2) := by decide +kernel
theorem dX1_init_39 : decode cX1_init 39 = .ok (.newarray .int, 2) := by decide +kernel
theorem dX1_init_41 : decode cX1_init 41 = .ok (.putfield 24, 3) := by decide +kernel
theorem dX1_init_44 : decode cX1_init 44 = .ok (.aload_n 0, 1) := by decide +kernel
theorem dX1_init_45 : decode cX1_init 45 = .ok (.bipush 16, 2) := by decide +kernel
theorem dX1_init_47 : decode cX1_init 47 = .ok (.newarray .int, 2) := by decide +kernel
theorem dX1_init_49 : decode cX1_init 49 = .ok (.putfield 27, 3) := by decide +kernel
theorem dX1_init_52 : decode cX1_init 52 = .ok (.return_, 1) := by decide +kernel
theorem dX1_size_0 : decode cX1_size 0 = .ok (.aload_n 0, 1) := by decide +kernel
theorem dX1_size_1 : decode cX1_size 1 = .ok (.getfield 30, 3) := by decide +kernel
theorem dX1_size_4 : decode cX1_size 4 = .ok (.ireturn, 1) := by decide +kernel
theorem dX1_knows_0 : decode cX1_knows 0 = .ok (.iload_n 1, 1) := by decide +kernel
theorem dX1_knows_1 : decode cX1_knows 1 = .ok (.ifCond .lt 15, 3) := by decide +kernel
theorem dX1_knows_4 : decode cX1_knows 4 = .ok (.iload_n 1, 1) := by decide +kernel
theorem dX1_knows_5 : decode cX1_knows 5 = .ok (.aload_n 0, 1) := by decide +kernel
theorem dX1_knows_6 : decode cX1_knows 6 = .ok (.getfield 30, 3) := by decide +kernel
theorem dX1_knows_9 : decode cX1_knows 9 = .ok (.if_icmp .ge 7, 3) := by decide +kernel
theorem dX1_knows_12 : decode cX1_knows 12 = .ok (.iconst 1, 1) := by decide +kernel
theorem dX1_knows_13 : decode cX1_knows 13 = .ok (.goto 4, 3) := by decide +kernel
theorem dX1_knows_16 : decode cX1_knows 16 = .ok (.iconst 0, 1) := by decide +kernel
theorem dX1_knows_17 : decode cX1_knows 17 = .ok (.ireturn, 1) := by decide +kernel
theorem dX1_add_0 : decode cX1_add 0 = .ok (.aload_n 0, 1) := by decide +kernel
theorem dX1_add_1 : decode cX1_add 1 = .ok (.getfield 30, 3) := by decide +kernel
theorem dX1_add_4 : decode cX1_add 4 = .ok (.istore 7, 2) := by decide +kernel
theorem dX1_add_6 : decode cX1_add 6 = .ok (.aload_n 0, 1) := by decide +kernel
theorem dX1_add_7 : decode cX1_add 7 = .ok (.getfield 9, 3) := by decide +kernel
theorem dX1_add_10 : decode cX1_add 10 = .ok (.iload 7, 2) := by decide +kernel
theorem dX1_add_12 : decode cX1_add 12 = .ok (.iload_n 1, 1) := by decide +kernel
theorem dX1_add_13 : decode cX1_add 13 = .ok (.invokestatic 34, 3) := by decide +kernel
theorem dX1_add_16 : decode cX1_add 16 = .ok (.aload_n 0, 1) := by decide +kernel
theorem dX1_add_17 : decode cX1_add 17 = .ok (.getfield 15, 3) := by decide +kernel
theorem dX1_add_20 : decode cX1_add 20 = .ok (.iload 7, 2) := by decide +kernel
theorem dX1_add_22 : decode cX1_add 22 = .ok (.iload_n 2, 1) := by decide +kernel
theorem dX1_add_23 : decode cX1_add 23 = .ok (.invokestatic 34, 3) := by decide +kernel
theorem dX1_add_26 : decode cX1_add 26 = .ok (.aload_n 0, 1) := by decide +kernel
theorem dX1_add_27 : decode cX1_add 27 = .ok (.getfield 18, 3) := by decide +kernel
theorem dX1_add_30 : decode cX1_add 30 = .ok (.iload 7, 2) := by decide +kernel
theorem dX1_add_32 : decode cX1_add 32 = .ok (.iload_n 3, 1) := by decide +kernel
theorem dX1_add_33 : decode cX1_add 33 = .ok (.invokestatic 34, 3) := by decide +kernel
theorem dX1_add_36 : decode cX1_add 36 = .ok (.aload_n 0, 1) := by decide +kernel
theorem dX1_add_37 : decode cX1_add 37 = .ok (.getfield 21, 3) := by decide +kernel
theorem dX1_add_40 : decode cX1_add 40 = .ok (.iload 7, 2) := by decide +kernel
theorem dX1_add_42 : decode cX1_add 42 = .ok (.iload 4, 2) := by decide +kernel
theorem dX1_add_44 : decode cX1_add 44 = .ok (.invokestatic 34, 3) := by decide +kernel
theorem dX1_add_47 : decode cX1_add 47 = .ok (.aload_n 0, 1) := by decide +kernel
theorem dX1_add_48 : decode cX1_add 48 = .ok (.getfield 24, 3) := by decide +kernel
theorem dX1_add_51 : decode cX1_add 51 = .ok (.iload 7, 2) := by decide +kernel
theorem dX1_add_53 : decode cX1_add 53 = .ok (.iload 5, 2) := by decide +kernel
theorem dX1_add_55 : decode cX1_add 55 = .ok (.invokestatic 34, 3) := by decide +kernel
theorem dX1_add_58 : decode cX1_add 58 = .ok (.aload_n 0, 1) := by decide +kernel
theorem dX1_add_59 : decode cX1_add 59 = .ok (.getfield 27, 3) := by decide +kernel
theorem dX1_add_62 : decode cX1_add 62 = .ok (.iload 7, 2) := by decide +kernel
theorem dX1_add_64 : decode cX1_add 64 = .ok (.iload 6, 2) := by decide +kernel
theorem dX1_add_66 : decode cX1_add 66 = .ok (.invokestatic 34, 3) := by decide +kernel
theorem dX1_add_69 : decode cX1_add 69 = .ok (.aload_n 0, 1) := by decide +kernel
theorem dX1_add_70 : decode cX1_add 70 = .ok (.dup, 1) := by decide +kernel
theorem dX1_add_71 : decode cX1_add 71 = .ok (.getfield 30, 3) := by decide +kernel
theorem dX1_add_74 : decode cX1_add 74 = .ok (.iconst 1, 1) := by decide +kernel
theorem dX1_add_75 : decode cX1_add 75 = .ok (.iadd, 1) := by decide +kernel
theorem dX1_add_76 : decode cX1_add 76 = .ok (.putfield 30, 3) := by decide +kernel
theorem dX1_add_79 : decode cX1_add 79 = .ok (.iload 7, 2) := by decide +kernel
theorem dX1_add_81 : decode cX1_add 81 = .ok (.ireturn, 1) := by decide +kernel
theorem dX1_removeAll_0 : decode cX1_removeAll 0 = .ok (.aload_n 0, 1) := by decide +kernel
theorem dX1_removeAll_1 : decode cX1_removeAll 1 = .ok (.getfield 30, 3) := by decide +kernel
theorem dX1_removeAll_4 : decode cX1_removeAll 4 = .ok (.istore_n 1, 1) := by decide +kernel
theorem dX1_removeAll_5 : decode cX1_removeAll 5 = .ok (.aload_n 0, 1) := by decide +kernel
theorem dX1_removeAll_6 : decode cX1_removeAll 6 = .ok (.iconst 0, 1) := by decide +kernel
theorem dX1_removeAll_7 : decode cX1_removeAll 7 = .ok (.putfield 30, 3) := by decide +kernel
theorem dX1_removeAll_10 : decode cX1_removeAll 10 = .ok (.iload_n 1, 1) := by decide +kernel
theorem dX1_removeAll_11 : decode cX1_removeAll 11 = .ok (.ireturn, 1) := by decide +kernel
theorem dX1_kind_0 : decode cX1_kind 0 = .ok (.aload_n 0, 1) := by decide +kernel
theorem dX1_kind_1 : decode cX1_kind 1 = .ok (.getfield 9, 3) := by decide +kernel
theorem dX1_kind_4 : decode cX1_kind 4 = .ok (.iload_n 1, 1) := by decide +kernel
theorem dX1_kind_5 : decode cX1_kind 5 = .ok (.invokestatic 38, 3) := by decide +kernel
theorem dX1_kind_8 : decode cX1_kind 8 = .ok (.ireturn, 1) := by decide +kernel
theorem dX1_first_0 : decode cX1_first 0 = .ok (.aload_n 0, 1) := by decide +kernel
theorem dX1_first_1 : decode cX1_first 1 = .ok (.getfield 15, 3) := by decide +kernel
theorem dX1_first_4 : decode cX1_first 4 = .ok (.iload_n 1, 1) := by decide +kernel
theorem dX1_first_5 : decode cX1_first 5 = .ok (.invokestatic 38, 3) := by decide +kernel
theorem dX1_first_8 : decode cX1_first 8 = .ok (.ireturn, 1) := by decide +kernel
theorem dX1_second_0 : decode cX1_second 0 = .ok (.aload_n 0, 1) := by decide +kernel
theorem dX1_second_1 : decode cX1_second 1 = .ok (.getfield 18, 3) := by decide +kernel
theorem dX1_second_4 : decode cX1_second 4 = .ok (.iload_n 1, 1) := by decide +kernel
theorem dX1_second_5 : decode cX1_second 5 = .ok (.invokestatic 38, 3) := by decide +kernel
theorem dX1_second_8 : decode cX1_second 8 = .ok (.ireturn, 1) := by decide +kernel
theorem dX1_letter_0 : decode cX1_letter 0 = .ok (.aload_n 0, 1) := by decide +kernel
theorem dX1_letter_1 : decode cX1_letter 1 = .ok (.getfield 21, 3) := by decide +kernel
theorem dX1_letter_4 : decode cX1_letter 4 = .ok (.iload_n 1, 1) := by decide +kernel
theorem dX1_letter_5 : decode cX1_letter 5 = .ok (.invokestatic 38, 3) := by decide +kernel
theorem dX1_letter_8 : decode cX1_letter 8 = .ok (.ireturn, 1) := by decide +kernel
theorem dX1_depth_0 : decode cX1_depth 0 = .ok (.aload_n 0, 1) := by decide +kernel
theorem dX1_depth_1 : decode cX1_depth 1 = .ok (.getfield 24, 3) := by decide +kernel
theorem dX1_depth_4 : decode cX1_depth 4 = .ok (.iload_n 1, 1) := by decide +kernel
theorem dX1_depth_5 : decode cX1_depth 5 = .ok (.invokestatic 38, 3) := by decide +kernel
theorem dX1_depth_8 : decode cX1_depth 8 = .ok (.ireturn, 1) := by decide +kernel
theorem dX1_open_0 : decode cX1_open 0 = .ok (.aload_n 0, 1) := by decide +kernel
theorem dX1_open_1 : decode cX1_open 1 = .ok (.getfield 27, 3) := by decide +kernel
theorem dX1_open_4 : decode cX1_open 4 = .ok (.iload_n 1, 1) := by decide +kernel
theorem dX1_open_5 : decode cX1_open 5 = .ok (.invokestatic 38, 3) := by decide +kernel
theorem dX1_open_8 : decode cX1_open 8 = .ok (.ireturn, 1) := by decide +kernel
theorem dX2_init_0 : decode cX2_init 0 = .ok (.aload_n 0, 1) := by decide +kernel
theorem dX2_init_1 : decode cX2_init 1 = .ok (.invokespecial 3, 3) := by decide +kernel
theorem dX2_init_4 : decode cX2_init 4 = .ok (.aload_n 0, 1) := by decide +kernel
theorem dX2_init_5 : decode cX2_init 5 = .ok (.bipush 12, 2) := by decide +kernel
theorem dX2_init_7 : decode cX2_init 7 = .ok (.newarray .int, 2) := by decide +kernel
theorem dX2_init_9 : decode cX2_init 9 = .ok (.putfield 9, 3) := by decide +kernel
theorem dX2_init_12 : decode cX2_init 12 = .ok (.aload_n 0, 1) := by decide +kernel
theorem dX2_init_13 : decode cX2_init 13 = .ok (.bipush 48, 2) := by decide +kernel
theorem dX2_init_15 : decode cX2_init 15 = .ok (.newarray .int, 2) := by decide +kernel
theorem dX2_init_17 : decode cX2_init 17 = .ok (.putfield 15, 3) := by decide +kernel
theorem dX2_init_20 : decode cX2_init 20 = .ok (.aload_n 0, 1) := by decide +kernel
theorem dX2_init_21 : decode cX2_init 21 = .ok (.bipush 12, 2) := by decide +kernel
theorem dX2_init_23 : decode cX2_init 23 = .ok (.newarray .int, 2) := by decide +kernel
theorem dX2_init_25 : decode cX2_init 25 = .ok (.putfield 18, 3) := by decide +kernel
theorem dX2_init_28 : decode cX2_init 28 = .ok (.aload_n 0, 1) := by decide +kernel
theorem dX2_init_29 : decode cX2_init 29 = .ok (.bipush 12, 2) := by decide +kernel
theorem dX2_init_31 : decode cX2_init 31 = .ok (.newarray .int, 2) := by decide +kernel
theorem dX2_init_33 : decode cX2_init 33 = .ok (.putfield 21, 3) := by decide +kernel
theorem dX2_init_36 : decode cX2_init 36 = .ok (.aload_n 0, 1) := by decide +kernel
theorem dX2_init_37 : decode cX2_init 37 = .ok (.iconst 4, 1) := by decide +kernel
theorem dX2_init_38 : decode cX2_init 38 = .ok (.newarray .int, 2) := by decide +kernel
theorem dX2_init_40 : decode cX2_init 40 = .ok (.putfield 24, 3) := by decide +kernel
theorem dX2_init_43 : decode cX2_init 43 = .ok (.aload_n 0, 1) := by decide +kernel
theorem dX2_init_44 : decode cX2_init 44 = .ok (.bipush 16, 2) := by decide +kernel
theorem dX2_init_46 : decode cX2_init 46 = .ok (.newarray .int, 2) := by decide +kernel
theorem dX2_init_48 : decode cX2_init 48 = .ok (.putfield 27, 3) := by decide +kernel
theorem dX2_init_51 : decode cX2_init 51 = .ok (.aload_n 0, 1) := by decide +kernel
theorem dX2_init_52 : decode cX2_init 52 = .ok (.aload_n 1, 1) := by decide +kernel
theorem dX2_init_53 : decode cX2_init 53 = .ok (.putfield 30, 3) := by decide +kernel
theorem dX2_init_56 : decode cX2_init 56 = .ok (.return_, 1) := by decide +kernel
theorem dX2_size_0 : decode cX2_size 0 = .ok (.aload_n 0, 1) := by decide +kernel
theorem dX2_size_1 : decode cX2_size 1 = .ok (.getfield 34, 3) := by decide +kernel
theorem dX2_size_4 : decode cX2_size 4 = .ok (.ireturn, 1) := by decide +kernel
theorem dX2_changes_0 : decode cX2_changes 0 = .ok (.aload_n 0, 1) := by decide +kernel
theorem dX2_changes_1 : decode cX2_changes 1 = .ok (.getfield 38, 3) := by decide +kernel
theorem dX2_changes_4 : decode cX2_changes 4 = .ok (.ireturn, 1) := by decide +kernel
theorem dX2_knows_0 : decode cX2_knows 0 = .ok (.iload_n 1, 1) := by decide +kernel
theorem dX2_knows_1 : decode cX2_knows 1 = .ok (.ifCond .lt 15, 3) := by decide +kernel
theorem dX2_knows_4 : decode cX2_knows 4 = .ok (.iload_n 1, 1) := by decide +kernel
theorem dX2_knows_5 : decode cX2_knows 5 = .ok (.aload_n 0, 1) := by decide +kernel
theorem dX2_knows_6 : decode cX2_knows 6 = .ok (.getfield 34, 3) := by decide +kernel
theorem dX2_knows_9 : decode cX2_knows 9 = .ok (.if_icmp .ge 7, 3) := by decide +kernel
theorem dX2_knows_12 : decode cX2_knows 12 = .ok (.iconst 1, 1) := by decide +kernel
theorem dX2_knows_13 : decode cX2_knows 13 = .ok (.goto 4, 3) := by decide +kernel
theorem dX2_knows_16 : decode cX2_knows 16 = .ok (.iconst 0, 1) := by decide +kernel
theorem dX2_knows_17 : decode cX2_knows 17 = .ok (.ireturn, 1) := by decide +kernel
theorem dX2_pairsOf_0 : decode cX2_pairsOf 0 = .ok (.aload_n 0, 1) := by decide +kernel
theorem dX2_pairsOf_1 : decode cX2_pairsOf 1 = .ok (.getfield 9, 3) := by decide +kernel
theorem dX2_pairsOf_4 : decode cX2_pairsOf 4 = .ok (.iload_n 1, 1) := by decide +kernel
theorem dX2_pairsOf_5 : decode cX2_pairsOf 5 = .ok (.invokestatic 41, 3) := by decide +kernel
theorem dX2_pairsOf_8 : decode cX2_pairsOf 8 = .ok (.ireturn, 1) := by decide +kernel
theorem dX2_lower_0 : decode cX2_lower 0 = .ok (.aload_n 0, 1) := by decide +kernel
theorem dX2_lower_1 : decode cX2_lower 1 = .ok (.getfield 15, 3) := by decide +kernel
theorem dX2_lower_4 : decode cX2_lower 4 = .ok (.iload_n 1, 1) := by decide +kernel
theorem dX2_lower_5 : decode cX2_lower 5 = .ok (.iconst 4, 1) := by decide +kernel
theorem dX2_lower_6 : decode cX2_lower 6 = .ok (.imul, 1) := by decide +kernel
theorem dX2_lower_7 : decode cX2_lower 7 = .ok (.iload_n 2, 1) := by decide +kernel
theorem dX2_lower_8 : decode cX2_lower 8 = .ok (.iadd, 1) := by decide +kernel
theorem dX2_lower_9 : decode cX2_lower 9 = .ok (.invokestatic 41, 3) := by decide +kernel
theorem dX2_lower_12 : decode cX2_lower 12 = .ok (.bipush 15, 2) := by decide +kernel
theorem dX2_lower_14 : decode cX2_lower 14 = .ok (.iand, 1) := by decide +kernel
theorem dX2_lower_15 : decode cX2_lower 15 = .ok (.ireturn, 1) := by decide +kernel
theorem dX2_promise_0 : decode cX2_promise 0 = .ok (.aload_n 0, 1) := by decide +kernel
theorem dX2_promise_1 : decode cX2_promise 1 = .ok (.getfield 15, 3) := by decide +kernel
theorem dX2_promise_4 : decode cX2_promise 4 = .ok (.iload_n 1, 1) := by decide +kernel
theorem dX2_promise_5 : decode cX2_promise 5 = .ok (.iconst 4, 1) := by decide +kernel
theorem dX2_promise_6 : decode cX2_promise 6 = .ok (.imul, 1) := by decide +kernel
theorem dX2_promise_7 : decode cX2_promise 7 = .ok (.iload_n 2, 1) := by decide +kernel
theorem dX2_promise_8 : decode cX2_promise 8 = .ok (.iadd, 1) := by decide +kernel
theorem dX2_promise_9 : decode cX2_promise 9 = .ok (.invokestatic 41, 3) := by decide +kernel
theorem dX2_promise_12 : decode cX2_promise 12 = .ok (.iconst 4, 1) := by decide +kernel
theorem dX2_promise_13 : decode cX2_promise 13 = .ok (.ishr, 1) := by decide +kernel
theorem dX2_promise_14 : decode cX2_promise 14 = .ok (.ireturn, 1) := by decide +kernel
theorem dX2_height_0 : decode cX2_height 0 = .ok (.aload_n 0, 1) := by decide +kernel
theorem dX2_height_1 : decode cX2_height 1 = .ok (.getfield 18, 3) := by decide +kernel
theorem dX2_height_4 : decode cX2_height 4 = .ok (.iload_n 1, 1) := by decide +kernel
theorem dX2_height_5 : decode cX2_height 5 = .ok (.invokestatic 41, 3) := by decide +kernel
theorem dX2_height_8 : decode cX2_height 8 = .ok (.ireturn, 1) := by decide +kernel
theorem dX2_hasPair_0 : decode cX2_hasPair 0 = .ok (.iconst 0, 1) := by decide +kernel
theorem dX2_hasPair_1 : decode cX2_hasPair 1 = .ok (.istore 4, 2) := by decide +kernel
theorem dX2_hasPair_3 : decode cX2_hasPair 3 = .ok (.iload 4, 2) := by decide +kernel
theorem dX2_hasPair_5 : decode cX2_hasPair 5 = .ok (.aload_n 0, 1) := by decide +kernel
theorem dX2_hasPair_6 : decode cX2_hasPair 6 = .ok (.iload_n 1, 1) := by decide +kernel
theorem dX2_hasPair_7 : decode cX2_hasPair 7 = .ok (.invokevirtual 45, 3) := by decide +kernel
theorem dX2_hasPair_10 : decode cX2_hasPair 10 = .ok (.if_icmp .ge 33, 3) := by decide +kernel
theorem dX2_hasPair_13 : decode cX2_hasPair 13 = .ok (.aload_n 0, 1) := by decide +kernel
theorem dX2_hasPair_14 : decode cX2_hasPair 14 = .ok (.iload_n 1, 1) := by decide +kernel
theorem dX2_hasPair_15 : decode cX2_hasPair 15 = .ok (.iload 4, 2) := by decide +kernel
theorem dX2_hasPair_17 : decode cX2_hasPair 17 = .ok (.invokevirtual 49, 3) := by decide +kernel
theorem dX2_hasPair_20 : decode cX2_hasPair 20 = .ok (.iload_n 2, 1) := by decide +kernel
theorem dX2_hasPair_21 : decode cX2_hasPair 21 = .ok (.if_icmp .ne 16, 3) := by decide +kernel
theorem dX2_hasPair_24 : decode cX2_hasPair 24 = .ok (.aload_n 0, 1) := by decide +kernel
theorem dX2_hasPair_25 : decode cX2_hasPair 25 = .ok (.iload_n 1, 1) := by decide +kernel
theorem dX2_hasPair_26 : decode cX2_hasPair 26 = .ok (.iload 4, 2) := by decide +kernel
theorem dX2_hasPair_28 : decode cX2_hasPair 28 = .ok (.invokevirtual 53, 3) := by decide +kernel
theorem dX2_hasPair_31 : decode cX2_hasPair 31 = .ok (.iload_n 3, 1) := by decide +kernel
theorem dX2_hasPair_32 : decode cX2_hasPair 32 = .ok (.if_icmp .ne 5, 3) := by decide +kernel
theorem dX2_hasPair_35 : decode cX2_hasPair 35 = .ok (.iconst 1, 1) := by decide +kernel
theorem dX2_hasPair_36 : decode cX2_hasPair 36 = .ok (.ireturn, 1) := by decide +kernel
theorem dX2_hasPair_37 : decode cX2_hasPair 37 = .ok (.iinc 4 1, 3) := by decide +kernel
theorem dX2_hasPair_40 : decode cX2_hasPair 40 = .ok (.goto (-37), 3) := by decide +kernel
theorem dX2_hasPair_43 : decode cX2_hasPair 43 = .ok (.iconst 0, 1) := by decide +kernel
theorem dX2_hasPair_44 : decode cX2_hasPair 44 = .ok (.ireturn, 1) := by decide +kernel
theorem dX2_add_0 : decode cX2_add 0 = .ok (.aload_n 0, 1) := by decide +kernel
theorem dX2_add_1 : decode cX2_add 1 = .ok (.getfield 34, 3) := by decide +kernel
theorem dX2_add_4 : decode cX2_add 4 = .ok (.istore_n 1, 1) := by decide +kernel
theorem dX2_add_5 : decode cX2_add 5 = .ok (.aload_n 0, 1) := by decide +kernel
theorem dX2_add_6 : decode cX2_add 6 = .ok (.dup, 1) := by decide +kernel
theorem dX2_add_7 : decode cX2_add 7 = .ok (.getfield 34, 3) := by decide +kernel
theorem dX2_add_10 : decode cX2_add 10 = .ok (.iconst 1, 1) := by decide +kernel
theorem dX2_add_11 : decode cX2_add 11 = .ok (.iadd, 1) := by decide +kernel
theorem dX2_add_12 : decode cX2_add 12 = .ok (.putfield 34, 3) := by decide +kernel
theorem dX2_add_15 : decode cX2_add 15 = .ok (.aload_n 0, 1) := by decide +kernel
theorem dX2_add_16 : decode cX2_add 16 = .ok (.invokevirtual 56, 3) := by decide +kernel
theorem dX2_add_19 : decode cX2_add 19 = .ok (.iload_n 1, 1) := by decide +kernel
theorem dX2_add_20 : decode cX2_add 20 = .ok (.ireturn, 1) := by decide +kernel
theorem dX2_addPair_0 : decode cX2_addPair 0 = .ok (.aload_n 0, 1) := by decide +kernel
theorem dX2_addPair_1 : decode cX2_addPair 1 = .ok (.iload_n 1, 1) := by decide +kernel
theorem dX2_addPair_2 : decode cX2_addPair 2 = .ok (.invokevirtual 45, 3) := by decide +kernel
theorem dX2_addPair_5 : decode cX2_addPair 5 = .ok (.istore 4, 2) := by decide +kernel
theorem dX2_addPair_7 : decode cX2_addPair 7 = .ok (.iload 4, 2) := by decide +kernel
theorem dX2_addPair_9 : decode cX2_addPair 9 = .ok (.iconst 4, 1) := by decide +kernel
theorem dX2_addPair_10 : decode cX2_addPair 10 = .ok (.if_icmp .ge 38, 3) := by decide +kernel
theorem dX2_addPair_13 : decode cX2_addPair 13 = .ok (.aload_n 0, 1) := by decide +kernel
theorem dX2_addPair_14 : decode cX2_addPair 14 = .ok (.getfield 15, 3) := by decide +kernel
theorem dX2_addPair_17 : decode cX2_addPair 17 = .ok (.iload_n 1, 1) := by decide +kernel
theorem dX2_addPair_18 : decode cX2_addPair 18 = .ok (.iconst 4, 1) := by decide +kernel
theorem dX2_addPair_19 : decode cX2_addPair 19 = .ok (.imul, 1) := by decide +kernel
theorem dX2_addPair_20 : decode cX2_addPair 20 = .ok (.iload 4, 2) := by decide +kernel
theorem dX2_addPair_22 : decode cX2_addPair 22 = .ok (.iadd, 1) := by decide +kernel
theorem dX2_addPair_23 : decode cX2_addPair 23 = .ok (.iload_n 2, 1) := by decide +kernel
theorem dX2_addPair_24 : decode cX2_addPair 24 = .ok (.bipush 16, 2) := by decide +kernel
theorem dX2_addPair_26 : decode cX2_addPair 26 = .ok (.iload_n 3, 1) := by decide +kernel
theorem dX2_addPair_27 : decode cX2_addPair 27 = .ok (.imul, 1) := by decide +kernel
theorem dX2_addPair_28 : decode cX2_addPair 28 = .ok (.iadd, 1) := by decide +kernel
theorem dX2_addPair_29 : decode cX2_addPair 29 = .ok (.invokestatic 59, 3) := by decide +kernel
theorem dX2_addPair_32 : decode cX2_addPair 32 = .ok (.aload_n 0, 1) := by decide +kernel
theorem dX2_addPair_33 : decode cX2_addPair 33 = .ok (.getfield 9, 3) := by decide +kernel
theorem dX2_addPair_36 : decode cX2_addPair 36 = .ok (.iload_n 1, 1) := by decide +kernel
theorem dX2_addPair_37 : decode cX2_addPair 37 = .ok (.iload 4, 2) := by decide +kernel
theorem dX2_addPair_39 : decode cX2_addPair 39 = .ok (.iconst 1, 1) := by decide +kernel
theorem dX2_addPair_40 : decode cX2_addPair 40 = .ok (.iadd, 1) := by decide +kernel
theorem dX2_addPair_41 : decode cX2_addPair 41 = .ok (.invokestatic 59, 3) := by decide +kernel
theorem dX2_addPair_44 : decode cX2_addPair 44 = .ok (.aload_n 0, 1) := by decide +kernel
theorem dX2_addPair_45 : decode cX2_addPair 45 = .ok (.invokevirtual 56, 3) := by decide +kernel
theorem dX2_addPair_48 : decode cX2_addPair 48 = .ok (.return_, 1) := by decide +kernel
theorem dX2_dropPair_0 : decode cX2_dropPair 0 = .ok (.aload_n 0, 1) := by decide +kernel
theorem dX2_dropPair_1 : decode cX2_dropPair 1 = .ok (.getfield 9, 3) := by decide +kernel
theorem dX2_dropPair_4 : decode cX2_dropPair 4 = .ok (.iload_n 1, 1) := by decide +kernel
theorem dX2_dropPair_5 : decode cX2_dropPair 5 = .ok (.iconst 0, 1) := by decide +kernel
theorem dX2_dropPair_6 : decode cX2_dropPair 6 = .ok (.aload_n 0, 1) := by decide +kernel
theorem dX2_dropPair_7 : decode cX2_dropPair 7 = .ok (.iload_n 1, 1) := by decide +kernel
theorem dX2_dropPair_8 : decode cX2_dropPair 8 = .ok (.invokevirtual 45, 3) := by decide +kernel
theorem dX2_dropPair_11 : decode cX2_dropPair 11 = .ok (.iconst 1, 1) := by decide +kernel
theorem dX2_dropPair_12 : decode cX2_dropPair 12 = .ok (.isub, 1) := by decide +kernel
theorem dX2_dropPair_13 : decode cX2_dropPair 13 = .ok (.invokestatic 63, 3) := by decide +kernel
theorem dX2_dropPair_16 : decode cX2_dropPair 16 = .ok (.invokestatic 59, 3) := by decide +kernel
theorem dX2_dropPair_19 : decode cX2_dropPair 19 = .ok (.aload_n 0, 1) := by decide +kernel
theorem dX2_dropPair_20 : decode cX2_dropPair 20 = .ok (.invokevirtual 56, 3) := by decide +kernel
theorem dX2_dropPair_23 : decode cX2_dropPair 23 = .ok (.return_, 1) := by decide +kernel
theorem dX2_changed_0 : decode cX2_changed 0 = .ok (.aload_n 0, 1) := by decide +kernel
theorem dX2_changed_1 : decode cX2_changed 1 = .ok (.dup, 1) := by decide +kernel
theorem dX2_changed_2 : decode cX2_changed 2 = .ok (.getfield 38, 3) := by decide +kernel
theorem dX2_changed_5 : decode cX2_changed 5 = .ok (.iconst 1, 1) := by decide +kernel
theorem dX2_changed_6 : decode cX2_changed 6 = .ok (.iadd, 1) := by decide +kernel
theorem dX2_changed_7 : decode cX2_changed 7 = .ok (.putfield 38, 3) := by decide +kernel
theorem dX2_changed_10 : decode cX2_changed 10 = .ok (.aload_n 0, 1) := by decide +kernel
theorem dX2_changed_11 : decode cX2_changed 11 = .ok (.aload_n 0, 1) := by decide +kernel
theorem dX2_changed_12 : decode cX2_changed 12 = .ok (.getfield 18, 3) := by decide +kernel
theorem dX2_changed_15 : decode cX2_changed 15 = .ok (.iconst (-1), 1) := by decide +kernel
theorem dX2_changed_16 : decode cX2_changed 16 = .ok (.iconst (-1), 1) := by decide +kernel
theorem dX2_changed_17 : decode cX2_changed 17 = .ok (.invokevirtual 68, 3) := by decide +kernel
theorem dX2_changed_20 : decode cX2_changed 20 = .ok (.return_, 1) := by decide +kernel
theorem dX2_rankAll_0 : decode cX2_rankAll 0 = .ok (.iconst 0, 1) := by decide +kernel
theorem dX2_rankAll_1 : decode cX2_rankAll 1 = .ok (.istore 4, 2) := by decide +kernel
theorem dX2_rankAll_3 : decode cX2_rankAll 3 = .ok (.iload 4, 2) := by decide +kernel
theorem dX2_rankAll_5 : decode cX2_rankAll 5 = .ok (.aload_n 0, 1) := by decide +kernel
theorem dX2_rankAll_6 : decode cX2_rankAll 6 = .ok (.getfield 34, 3) := by decide +kernel
theorem dX2_rankAll_9 : decode cX2_rankAll 9 = .ok (.if_icmp .ge 77, 3) := by decide +kernel
theorem dX2_rankAll_12 : decode cX2_rankAll 12 = .ok (.iload 4, 2) := by decide +kernel
theorem dX2_rankAll_14 : decode cX2_rankAll 14 = .ok (.iload_n 2, 1) := by decide +kernel
theorem dX2_rankAll_15 : decode cX2_rankAll 15 = .ok (.if_icmp .ne 13, 3) := by decide +kernel
theorem dX2_rankAll_18 : decode cX2_rankAll 18 = .ok (.iconst 1, 1) := by decide +kernel
theorem dX2_rankAll_19 : decode cX2_rankAll 19 = .ok (.aload_n 1, 1) := by decide +kernel
theorem dX2_rankAll_20 : decode cX2_rankAll 20 = .ok (.iload_n 3, 1) := by decide +kernel
theorem dX2_rankAll_21 : decode cX2_rankAll 21 = .ok (.invokestatic 41, 3) := by decide +kernel
theorem dX2_rankAll_24 : decode cX2_rankAll 24 = .ok (.iadd, 1) := by decide +kernel
theorem dX2_rankAll_25 : decode cX2_rankAll 25 = .ok (.goto 4, 3) := by decide +kernel
theorem dX2_rankAll_28 : decode cX2_rankAll 28 = .ok (.iconst 0, 1) := by decide +kernel
theorem dX2_rankAll_29 : decode cX2_rankAll 29 = .ok (.istore 5, 2) := by decide +kernel
theorem dX2_rankAll_31 : decode cX2_rankAll 31 = .ok (.iconst 0, 1) := by decide +kernel
theorem dX2_rankAll_32 : decode cX2_rankAll 32 = .ok (.istore 6, 2) := by decide +kernel
theorem dX2_rankAll_34 : decode cX2_rankAll 34 = .ok (.iload 6, 2) := by decide +kernel
theorem dX2_rankAll_36 : decode cX2_rankAll 36 = .ok (.aload_n 0, 1) := by decide +kernel
theorem dX2_rankAll_37 : decode cX2_rankAll 37 = .ok (.iload 4, 2) := by decide +kernel
theorem dX2_rankAll_39 : decode cX2_rankAll 39 = .ok (.invokevirtual 45, 3) := by decide +kernel
theorem dX2_rankAll_42 : decode cX2_rankAll 42 = .ok (.if_icmp .ge 30, 3) := by decide +kernel
theorem dX2_rankAll_45 : decode cX2_rankAll 45 = .ok (.iload 5, 2) := by decide +kernel
theorem dX2_rankAll_47 : decode cX2_rankAll 47 = .ok (.iconst 1, 1) := by decide +kernel
theorem dX2_rankAll_48 : decode cX2_rankAll 48 = .ok (.aload_n 1, 1) := by decide +kernel
theorem dX2_rankAll_49 : decode cX2_rankAll 49 = .ok (.aload_n 0, 1) := by decide +kernel
theorem dX2_rankAll_50 : decode cX2_rankAll 50 = .ok (.iload 4, 2) := by decide +kernel
theorem dX2_rankAll_52 : decode cX2_rankAll 52 = .ok (.iload 6, 2) := by decide +kernel
theorem dX2_rankAll_54 : decode cX2_rankAll 54 = .ok (.invokevirtual 49, 3) := by decide +kernel
theorem dX2_rankAll_57 : decode cX2_rankAll 57 = .ok (.invokestatic 41, 3) := by decide +kernel
theorem dX2_rankAll_60 : decode cX2_rankAll 60 = .ok (.iadd, 1) := by decide +kernel
theorem dX2_rankAll_61 : decode cX2_rankAll 61 = .ok (.invokestatic 63, 3) := by decide +kernel
theorem dX2_rankAll_64 : decode cX2_rankAll 64 = .ok (.istore 5, 2) := by decide +kernel
theorem dX2_rankAll_66 : decode cX2_rankAll 66 = .ok (.iinc 6 1, 3) := by decide +kernel
theorem dX2_rankAll_69 : decode cX2_rankAll 69 = .ok (.goto (-35), 3) := by decide +kernel
theorem dX2_rankAll_72 : decode cX2_rankAll 72 = .ok (.aload_n 1, 1) := by decide +kernel
theorem dX2_rankAll_73 : decode cX2_rankAll 73 = .ok (.iload 4, 2) := by decide +kernel
theorem dX2_rankAll_75 : decode cX2_rankAll 75 = .ok (.iload 5, 2) := by decide +kernel
theorem dX2_rankAll_77 : decode cX2_rankAll 77 = .ok (.invokestatic 59, 3) := by decide +kernel
theorem dX2_rankAll_80 : decode cX2_rankAll 80 = .ok (.iinc 4 1, 3) := by decide +kernel
theorem dX2_rankAll_83 : decode cX2_rankAll 83 = .ok (.goto (-80), 3) := by decide +kernel
theorem dX2_rankAll_86 : decode cX2_rankAll 86 = .ok (.return_, 1) := by decide +kernel
theorem dX2_wouldRiseTooHigh_0 : decode cX2_wouldRiseTooHigh 0 = .ok (.aload_n 0, 1) := by decide +kernel
theorem dX2_wouldRiseTooHigh_1 : decode cX2_wouldRiseTooHigh 1 = .ok (.aload_n 0, 1) := by decide +kernel
theorem dX2_wouldRiseTooHigh_2 : decode cX2_wouldRiseTooHigh 2 = .ok (.getfield 21, 3) := by decide +kernel
theorem dX2_wouldRiseTooHigh_5 : decode cX2_wouldRiseTooHigh 5 = .ok (.iload_n 1, 1) := by decide +kernel
theorem dX2_wouldRiseTooHigh_6 : decode cX2_wouldRiseTooHigh 6 = .ok (.iload_n 2, 1) := by decide +kernel
theorem dX2_wouldRiseTooHigh_7 : decode cX2_wouldRiseTooHigh 7 = .ok (.invokevirtual 68, 3) := by decide +kernel
theorem dX2_wouldRiseTooHigh_10 : decode cX2_wouldRiseTooHigh 10 = .ok (.iconst 0, 1) := by decide +kernel
theorem dX2_wouldRiseTooHigh_11 : decode cX2_wouldRiseTooHigh 11 = .ok (.istore_n 3, 1) := by decide +kernel
theorem dX2_wouldRiseTooHigh_12 : decode cX2_wouldRiseTooHigh 12 = .ok (.iload_n 3, 1) := by decide +kernel
theorem dX2_wouldRiseTooHigh_13 : decode cX2_wouldRiseTooHigh 13 = .ok (.aload_n 0, 1) := by decide +kernel
theorem dX2_wouldRiseTooHigh_14 : decode cX2_wouldRiseTooHigh 14 = .ok (.getfield 34, 3) := by decide +kernel
theorem dX2_wouldRiseTooHigh_17 : decode cX2_wouldRiseTooHigh 17 = .ok (.if_icmp .ge 23, 3) := by decide +kernel
theorem dX2_wouldRiseTooHigh_20 : decode cX2_wouldRiseTooHigh 20 = .ok (.aload_n 0, 1) := by decide +kernel
theorem dX2_wouldRiseTooHigh_21 : decode cX2_wouldRiseTooHigh 21 = .ok (.getfield 21, 3) := by decide +kernel
theorem dX2_wouldRiseTooHigh_24 : decode cX2_wouldRiseTooHigh 24 = .ok (.iload_n 3, 1) := by decide +kernel
theorem dX2_wouldRiseTooHigh_25 : decode cX2_wouldRiseTooHigh 25 = .ok (.invokestatic 41, 3) := by decide +kernel
theorem dX2_wouldRiseTooHigh_28 : decode cX2_wouldRiseTooHigh 28 = .ok (.iconst 3, 1) := by decide +kernel
theorem dX2_wouldRiseTooHigh_29 : decode cX2_wouldRiseTooHigh 29 = .ok (.if_icmp .le 5, 3) := by decide +kernel
theorem dX2_wouldRiseTooHigh_32 : decode cX2_wouldRiseTooHigh 32 = .ok (.iconst 1, 1) := by decide +kernel
theorem dX2_wouldRiseTooHigh_33 : decode cX2_wouldRiseTooHigh 33 = .ok (.ireturn, 1) := by decide +kernel
theorem dX2_wouldRiseTooHigh_34 : decode cX2_wouldRiseTooHigh 34 = .ok (.iinc 3 1, 3) := by decide +kernel
theorem dX2_wouldRiseTooHigh_37 : decode cX2_wouldRiseTooHigh 37 = .ok (.goto (-25), 3) := by decide +kernel
theorem dX2_wouldRiseTooHigh_40 : decode cX2_wouldRiseTooHigh 40 = .ok (.iconst 0, 1) := by decide +kernel
theorem dX2_wouldRiseTooHigh_41 : decode cX2_wouldRiseTooHigh 41 = .ok (.ireturn, 1) := by decide +kernel
theorem dX2_standardOf_0 : decode cX2_standardOf 0 = .ok (.aload_n 0, 1) := by decide +kernel
theorem dX2_standardOf_1 : decode cX2_standardOf 1 = .ok (.getfield 27, 3) := by decide +kernel
theorem dX2_standardOf_4 : decode cX2_standardOf 4 = .ok (.iload_n 1, 1) := by decide +kernel
theorem dX2_standardOf_5 : decode cX2_standardOf 5 = .ok (.invokestatic 41, 3) := by decide +kernel
theorem dX2_standardOf_8 : decode cX2_standardOf 8 = .ok (.iconst 1, 1) := by decide +kernel
theorem dX2_standardOf_9 : decode cX2_standardOf 9 = .ok (.isub, 1) := by decide +kernel
theorem dX2_standardOf_10 : decode cX2_standardOf 10 = .ok (.ireturn, 1) := by decide +kernel
theorem dX2_isStandard_0 : decode cX2_isStandard 0 = .ok (.iconst 0, 1) := by decide +kernel
theorem dX2_isStandard_1 : decode cX2_isStandard 1 = .ok (.istore_n 2, 1) := by decide +kernel
theorem dX2_isStandard_2 : decode cX2_isStandard 2 = .ok (.iload_n 2, 1) := by decide +kernel
theorem dX2_isStandard_3 : decode cX2_isStandard 3 = .ok (.bipush 16, 2) := by decide +kernel
theorem dX2_isStandard_5 : decode cX2_isStandard 5 = .ok (.if_icmp .ge 20, 3) := by decide +kernel
theorem dX2_isStandard_8 : decode cX2_isStandard 8 = .ok (.aload_n 0, 1) := by decide +kernel
theorem dX2_isStandard_9 : decode cX2_isStandard 9 = .ok (.iload_n 2, 1) := by decide +kernel
theorem dX2_isStandard_10 : decode cX2_isStandard 10 = .ok (.invokevirtual 71, 3) := by decide +kernel
theorem dX2_isStandard_13 : decode cX2_isStandard 13 = .ok (.iload_n 1, 1) := by decide +kernel
theorem dX2_isStandard_14 : decode cX2_isStandard 14 = .ok (.if_icmp .ne 5, 3) := by decide +kernel
theorem dX2_isStandard_17 : decode cX2_isStandard 17 = .ok (.iconst 1, 1) := by decide +kernel
theorem dX2_isStandard_18 : decode cX2_isStandard 18 = .ok (.ireturn, 1) := by decide +kernel
theorem dX2_isStandard_19 : decode cX2_isStandard 19 = .ok (.iinc 2 1, 3) := by decide +kernel
theorem dX2_isStandard_22 : decode cX2_isStandard 22 = .ok (.goto (-20), 3) := by decide +kernel
theorem dX2_isStandard_25 : decode cX2_isStandard 25 = .ok (.iconst 0, 1) := by decide +kernel
theorem dX2_isStandard_26 : decode cX2_isStandard 26 = .ok (.ireturn, 1) := by decide +kernel
theorem dX2_missingFor_0 : decode cX2_missingFor 0 = .ok (.iconst 1, 1) := by decide +kernel
theorem dX2_missingFor_1 : decode cX2_missingFor 1 = .ok (.iload_n 1, 1) := by decide +kernel
theorem dX2_missingFor_2 : decode cX2_missingFor 2 = .ok (.ishl, 1) := by decide +kernel
theorem dX2_missingFor_3 : decode cX2_missingFor 3 = .ok (.istore_n 2, 1) := by decide +kernel
theorem dX2_missingFor_4 : decode cX2_missingFor 4 = .ok (.iconst 0, 1) := by decide +kernel
theorem dX2_missingFor_5 : decode cX2_missingFor 5 = .ok (.istore_n 3, 1) := by decide +kernel
theorem dX2_missingFor_6 : decode cX2_missingFor 6 = .ok (.iload_n 1, 1) := by decide +kernel
theorem dX2_missingFor_7 : decode cX2_missingFor 7 = .ok (.istore 4, 2) := by decide +kernel
theorem dX2_missingFor_9 : decode cX2_missingFor 9 = .ok (.iload 4, 2) := by decide +kernel
theorem dX2_missingFor_11 : decode cX2_missingFor 11 = .ok (.ifCond .lt 40, 3) := by decide +kernel
theorem dX2_missingFor_14 : decode cX2_missingFor 14 = .ok (.iload_n 2, 1) := by decide +kernel
theorem dX2_missingFor_15 : decode cX2_missingFor 15 = .ok (.iload 4, 2) := by decide +kernel
theorem dX2_missingFor_17 : decode cX2_missingFor 17 = .ok (.invokestatic 74, 3) := by decide +kernel
theorem dX2_missingFor_20 : decode cX2_missingFor 20 = .ok (.ifCond .eq 25, 3) := by decide +kernel
theorem dX2_missingFor_23 : decode cX2_missingFor 23 = .ok (.iload_n 2, 1) := by decide +kernel
theorem dX2_missingFor_24 : decode cX2_missingFor 24 = .ok (.iload 4, 2) := by decide +kernel
theorem dX2_missingFor_26 : decode cX2_missingFor 26 = .ok (.ior, 1) := by decide +kernel
theorem dX2_missingFor_27 : decode cX2_missingFor 27 = .ok (.istore_n 2, 1) := by decide +kernel
theorem dX2_missingFor_28 : decode cX2_missingFor 28 = .ok (.aload_n 0, 1) := by decide +kernel
theorem dX2_missingFor_29 : decode cX2_missingFor 29 = .ok (.iload 4, 2) := by decide +kernel
theorem dX2_missingFor_31 : decode cX2_missingFor 31 = .ok (.invokevirtual 71, 3) := by decide +kernel
theorem dX2_missingFor_34 : decode cX2_missingFor 34 = .ok (.iconst (-1), 1) := by decide +kernel
theorem dX2_missingFor_35 : decode cX2_missingFor 35 = .ok (.if_icmp .ne 10, 3) := by decide +kernel
theorem dX2_missingFor_38 : decode cX2_missingFor 38 = .ok (.iload_n 3, 1) := by decide +kernel
theorem dX2_missingFor_39 : decode cX2_missingFor 39 = .ok (.iconst 1, 1) := by decide +kernel
theorem dX2_missingFor_40 : decode cX2_missingFor 40 = .ok (.iload 4, 2) := by decide +kernel
theorem dX2_missingFor_42 : decode cX2_missingFor 42 = .ok (.ishl, 1) := by decide +kernel
theorem dX2_missingFor_43 : decode cX2_missingFor 43 = .ok (.ior, 1) := by decide +kernel
theorem dX2_missingFor_44 : decode cX2_missingFor 44 = .ok (.istore_n 3, 1) := by decide +kernel
theorem dX2_missingFor_45 : decode cX2_missingFor 45 = .ok (.iinc 4 (-1), 3) := by decide +kernel
theorem dX2_missingFor_48 : decode cX2_missingFor 48 = .ok (.goto (-39), 3) := by decide +kernel
theorem dX2_missingFor_51 : decode cX2_missingFor 51 = .ok (.iload_n 3, 1) := by decide +kernel
theorem dX2_missingFor_52 : decode cX2_missingFor 52 = .ok (.ireturn, 1) := by decide +kernel
theorem dX2_addStandard_0 : decode cX2_addStandard 0 = .ok (.aload_n 0, 1) := by decide +kernel
theorem dX2_addStandard_1 : decode cX2_addStandard 1 = .ok (.invokevirtual 78, 3) := by decide +kernel
theorem dX2_addStandard_4 : decode cX2_addStandard 4 = .ok (.istore_n 2, 1) := by decide +kernel
theorem dX2_addStandard_5 : decode cX2_addStandard 5 = .ok (.aload_n 0, 1) := by decide +kernel
theorem dX2_addStandard_6 : decode cX2_addStandard 6 = .ok (.getfield 27, 3) := by decide +kernel
theorem dX2_addStandard_9 : decode cX2_addStandard 9 = .ok (.iload_n 1, 1) := by decide +kernel
theorem dX2_addStandard_10 : decode cX2_addStandard 10 = .ok (.iload_n 2, 1) := by decide +kernel
theorem dX2_addStandard_11 : decode cX2_addStandard 11 = .ok (.iconst 1, 1) := by decide +kernel
theorem dX2_addStandard_12 : decode cX2_addStandard 12 = .ok (.iadd, 1) := by decide +kernel
theorem dX2_addStandard_13 : decode cX2_addStandard 13 = .ok (.invokestatic 59, 3) := by decide +kernel
theorem dX2_addStandard_16 : decode cX2_addStandard 16 = .ok (.iconst 0, 1) := by decide +kernel
theorem dX2_addStandard_17 : decode cX2_addStandard 17 = .ok (.istore_n 3, 1) := by decide +kernel
theorem dX2_addStandard_18 : decode cX2_addStandard 18 = .ok (.iload_n 3, 1) := by decide +kernel
theorem dX2_addStandard_19 : decode cX2_addStandard 19 = .ok (.iconst 4, 1) := by decide +kernel
theorem dX2_addStandard_20 : decode cX2_addStandard 20 = .ok (.if_icmp .ge 28, 3) := by decide +kernel
theorem dX2_addStandard_23 : decode cX2_addStandard 23 = .ok (.iload_n 1, 1) := by decide +kernel
theorem dX2_addStandard_24 : decode cX2_addStandard 24 = .ok (.iload_n 3, 1) := by decide +kernel
theorem dX2_addStandard_25 : decode cX2_addStandard 25 = .ok (.invokestatic 74, 3) := by decide +kernel
theorem dX2_addStandard_28 : decode cX2_addStandard 28 = .ok (.ifCond .eq 14, 3) := by decide +kernel
theorem dX2_addStandard_31 : decode cX2_addStandard 31 = .ok (.aload_n 0, 1) := by decide +kernel
theorem dX2_addStandard_32 : decode cX2_addStandard 32 = .ok (.iload_n 2, 1) := by decide +kernel
theorem dX2_addStandard_33 : decode cX2_addStandard 33 = .ok (.aload_n 0, 1) := by decide +kernel
theorem dX2_addStandard_34 : decode cX2_addStandard 34 = .ok (.iload_n 3, 1) := by decide +kernel
theorem dX2_addStandard_35 : decode cX2_addStandard 35 = .ok (.invokevirtual 71, 3) := by decide +kernel
theorem dX2_addStandard_38 : decode cX2_addStandard 38 = .ok (.iconst 0, 1) := by decide +kernel
theorem dX2_addStandard_39 : decode cX2_addStandard 39 = .ok (.invokevirtual 82, 3) := by decide +kernel
theorem dX2_addStandard_42 : decode cX2_addStandard 42 = .ok (.iinc 3 1, 3) := by decide +kernel
theorem dX2_addStandard_45 : decode cX2_addStandard 45 = .ok (.goto (-27), 3) := by decide +kernel
theorem dX2_addStandard_48 : decode cX2_addStandard 48 = .ok (.return_, 1) := by decide +kernel
theorem dX2_draft_0 : decode cX2_draft 0 = .ok (.aload_n 0, 1) := by decide +kernel
theorem dX2_draft_1 : decode cX2_draft 1 = .ok (.iconst 0, 1) := by decide +kernel
theorem dX2_draft_2 : decode cX2_draft 2 = .ok (.iload_n 1, 1) := by decide +kernel
theorem dX2_draft_3 : decode cX2_draft 3 = .ok (.iload_n 2, 1) := by decide +kernel
theorem dX2_draft_4 : decode cX2_draft 4 = .ok (.invokevirtual 86, 3) := by decide +kernel
theorem dX2_draft_7 : decode cX2_draft 7 = .ok (.istore 5, 2) := by decide +kernel
theorem dX2_draft_9 : decode cX2_draft 9 = .ok (.iload 5, 2) := by decide +kernel
theorem dX2_draft_11 : decode cX2_draft 11 = .ok (.iconst 4, 1) := by decide +kernel
theorem dX2_draft_12 : decode cX2_draft 12 = .ok (.if_icmp .le 8, 3) := by decide +kernel
theorem dX2_draft_15 : decode cX2_draft 15 = .ok (.iload 5, 2) := by decide +kernel
theorem dX2_draft_17 : decode cX2_draft 17 = .ok (.goto 12, 3) := by decide +kernel
theorem dX2_draft_20 : decode cX2_draft 20 = .ok (.aload_n 0, 1) := by decide +kernel
theorem dX2_draft_21 : decode cX2_draft 21 = .ok (.iload 5, 2) := by decide +kernel
theorem dX2_draft_23 : decode cX2_draft 23 = .ok (.iload_n 3, 1) := by decide +kernel
theorem dX2_draft_24 : decode cX2_draft 24 = .ok (.iload 4, 2) := by decide +kernel
theorem dX2_draft_26 : decode cX2_draft 26 = .ok (.invokevirtual 86, 3) := by decide +kernel
theorem dX2_draft_29 : decode cX2_draft 29 = .ok (.ireturn, 1) := by decide +kernel
theorem dX2_draftPart_0 : decode cX2_draftPart 0 = .ok (.iload_n 1, 1) := by decide +kernel
theorem dX2_draftPart_1 : decode cX2_draftPart 1 = .ok (.istore 4, 2) := by decide +kernel
theorem dX2_draftPart_3 : decode cX2_draftPart 3 = .ok (.iconst 0, 1) := by decide +kernel
theorem dX2_draftPart_4 : decode cX2_draftPart 4 = .ok (.istore 5, 2) := by decide +kernel
theorem dX2_draftPart_6 : decode cX2_draftPart 6 = .ok (.iload 5, 2) := by decide +kernel
theorem dX2_draftPart_8 : decode cX2_draftPart 8 = .ok (.aload_n 0, 1) := by decide +kernel
theorem dX2_draftPart_9 : decode cX2_draftPart 9 = .ok (.iload_n 2, 1) := by decide +kernel
theorem dX2_draftPart_10 : decode cX2_draftPart 10 = .ok (.invokevirtual 45, 3) := by decide +kernel
theorem dX2_draftPart_13 : decode cX2_draftPart 13 = .ok (.if_icmp .ge 113, 3) := by decide +kernel
theorem dX2_draftPart_16 : decode cX2_draftPart 16 = .ok (.aload_n 0, 1) := by decide +kernel
theorem dX2_draftPart_17 : decode cX2_draftPart 17 = .ok (.getfield 30, 3) := by decide +kernel
theorem dX2_draftPart_20 : decode cX2_draftPart 20 = .ok (.iload_n 3, 1) := by decide +kernel
theorem dX2_draftPart_21 : decode cX2_draftPart 21 = .ok (.invokevirtual 90, 3) := by decide +kernel
theorem dX2_draftPart_24 : decode cX2_draftPart 24 = .ok (.aload_n 0, 1) := by decide +kernel
theorem dX2_draftPart_25 : decode cX2_draftPart 25 = .ok (.getfield 30, 3) := by decide +kernel
theorem dX2_draftPart_28 : decode cX2_draftPart 28 = .ok (.aload_n 0, 1) := by decide +kernel
theorem dX2_draftPart_29 : decode cX2_draftPart 29 = .ok (.iload_n 2, 1) := by decide +kernel
theorem dX2_draftPart_30 : decode cX2_draftPart 30 = .ok (.iload 5, 2) := by decide +kernel
theorem dX2_draftPart_32 : decode cX2_draftPart 32 = .ok (.invokevirtual 53, 3) := by decide +kernel
theorem dX2_draftPart_35 : decode cX2_draftPart 35 = .ok (.invokevirtual 90, 3) := by decide +kernel
theorem dX2_draftPart_38 : decode cX2_draftPart 38 = .ok (.iand, 1) := by decide +kernel
theorem dX2_draftPart_39 : decode cX2_draftPart 39 = .ok (.istore 6, 2) := by decide +kernel
theorem dX2_draftPart_41 : decode cX2_draftPart 41 = .ok (.iconst 0, 1) := by decide +kernel
theorem dX2_draftPart_42 : decode cX2_draftPart 42 = .ok (.istore 7, 2) := by decide +kernel
theorem dX2_draftPart_44 : decode cX2_draftPart 44 = .ok (.iload 7, 2) := by decide +kernel
theorem dX2_draftPart_46 : decode cX2_draftPart 46 = .ok (.aload_n 0, 1) := by decide +kernel
theorem dX2_draftPart_47 : decode cX2_draftPart 47 = .ok (.getfield 30, 3) := by decide +kernel
theorem dX2_draftPart_50 : decode cX2_draftPart 50 = .ok (.invokevirtual 95, 3) := by decide +kernel
theorem dX2_draftPart_53 : decode cX2_draftPart 53 = .ok (.if_icmp .ge 67, 3) := by decide +kernel
theorem dX2_draftPart_56 : decode cX2_draftPart 56 = .ok (.aload_n 0, 1) := by decide +kernel
theorem dX2_draftPart_57 : decode cX2_draftPart 57 = .ok (.iload_n 2, 1) := by decide +kernel
theorem dX2_draftPart_58 : decode cX2_draftPart 58 = .ok (.iload 5, 2) := by decide +kernel
theorem dX2_draftPart_60 : decode cX2_draftPart 60 = .ok (.invokevirtual 49, 3) := by decide +kernel
theorem dX2_draftPart_63 : decode cX2_draftPart 63 = .ok (.bipush 16, 2) := by decide +kernel
theorem dX2_draftPart_65 : decode cX2_draftPart 65 = .ok (.iload 7, 2) := by decide +kernel
theorem dX2_draftPart_67 : decode cX2_draftPart 67 = .ok (.imul, 1) := by decide +kernel
theorem dX2_draftPart_68 : decode cX2_draftPart 68 = .ok (.iadd, 1) := by decide +kernel
theorem dX2_draftPart_69 : decode cX2_draftPart 69 = .ok (.istore 8, 2) := by decide +kernel
theorem dX2_draftPart_71 : decode cX2_draftPart 71 = .ok (.iload 6, 2) := by decide +kernel
theorem dX2_draftPart_73 : decode cX2_draftPart 73 = .ok (.iload 7, 2) := by decide +kernel
theorem dX2_draftPart_75 : decode cX2_draftPart 75 = .ok (.invokestatic 74, 3) := by decide +kernel
theorem dX2_draftPart_78 : decode cX2_draftPart 78 = .ok (.ifCond .eq 36, 3) := by decide +kernel
theorem dX2_draftPart_81 : decode cX2_draftPart 81 = .ok (.aload_n 0, 1) := by decide +kernel
theorem dX2_draftPart_82 : decode cX2_draftPart 82 = .ok (.iload 4, 2) := by decide +kernel
theorem dX2_draftPart_84 : decode cX2_draftPart 84 = .ok (.iload 8, 2) := by decide +kernel
theorem dX2_draftPart_86 : decode cX2_draftPart 86 = .ok (.invokevirtual 98, 3) := by decide +kernel
theorem dX2_draftPart_89 : decode cX2_draftPart 89 = .ok (.ifCond .ne 25, 3) := by decide +kernel
theorem dX2_draftPart_92 : decode cX2_draftPart 92 = .ok (.iload 4, 2) := by decide +kernel
theorem dX2_draftPart_94 : decode cX2_draftPart 94 = .ok (.iconst 4, 1) := by decide +kernel
theorem dX2_draftPart_95 : decode cX2_draftPart 95 = .ok (.if_icmp .lt 5, 3) := by decide +kernel
theorem dX2_draftPart_98 : decode cX2_draftPart 98 = .ok (.iconst 5, 1) := by decide +kernel
theorem dX2_draftPart_99 : decode cX2_draftPart 99 = .ok (.ireturn, 1) := by decide +kernel
theorem dX2_draftPart_100 : decode cX2_draftPart 100 = .ok (.aload_n 0, 1) := by decide +kernel
theorem dX2_draftPart_101 : decode cX2_draftPart 101 = .ok (.getfield 24, 3) := by decide +kernel
theorem dX2_draftPart_104 : decode cX2_draftPart 104 = .ok (.iload 4, 2) := by decide +kernel
theorem dX2_draftPart_106 : decode cX2_draftPart 106 = .ok (.iload 8, 2) := by decide +kernel
theorem dX2_draftPart_108 : decode cX2_draftPart 108 = .ok (.invokestatic 59, 3) := by decide +kernel
theorem dX2_draftPart_111 : decode cX2_draftPart 111 = .ok (.iinc 4 1, 3) := by decide +kernel
theorem dX2_draftPart_114 : decode cX2_draftPart 114 = .ok (.iinc 7 1, 3) := by decide +kernel
theorem dX2_draftPart_117 : decode cX2_draftPart 117 = .ok (.goto (-73), 3) := by decide +kernel
theorem dX2_draftPart_120 : decode cX2_draftPart 120 = .ok (.iinc 5 1, 3) := by decide +kernel
theorem dX2_draftPart_123 : decode cX2_draftPart 123 = .ok (.goto (-117), 3) := by decide +kernel
theorem dX2_draftPart_126 : decode cX2_draftPart 126 = .ok (.iload 4, 2) := by decide +kernel
theorem dX2_draftPart_128 : decode cX2_draftPart 128 = .ok (.ireturn, 1) := by decide +kernel
theorem dX2_isDrafted_0 : decode cX2_isDrafted 0 = .ok (.iconst 0, 1) := by decide +kernel
theorem dX2_isDrafted_1 : decode cX2_isDrafted 1 = .ok (.istore_n 3, 1) := by decide +kernel
theorem dX2_isDrafted_2 : decode cX2_isDrafted 2 = .ok (.iload_n 3, 1) := by decide +kernel
theorem dX2_isDrafted_3 : decode cX2_isDrafted 3 = .ok (.iload_n 1, 1) := by decide +kernel
theorem dX2_isDrafted_4 : decode cX2_isDrafted 4 = .ok (.if_icmp .ge 23, 3) := by decide +kernel
theorem dX2_isDrafted_7 : decode cX2_isDrafted 7 = .ok (.aload_n 0, 1) := by decide +kernel
theorem dX2_isDrafted_8 : decode cX2_isDrafted 8 = .ok (.getfield 24, 3) := by decide +kernel
theorem dX2_isDrafted_11 : decode cX2_isDrafted 11 = .ok (.iload_n 3, 1) := by decide +kernel
theorem dX2_isDrafted_12 : decode cX2_isDrafted 12 = .ok (.invokestatic 41, 3) := by decide +kernel
theorem dX2_isDrafted_15 : decode cX2_isDrafted 15 = .ok (.iload_n 2, 1) := by decide +kernel
theorem dX2_isDrafted_16 : decode cX2_isDrafted 16 = .ok (.if_icmp .ne 5, 3) := by decide +kernel
theorem dX2_isDrafted_19 : decode cX2_isDrafted 19 = .ok (.iconst 1, 1) := by decide +kernel
theorem dX2_isDrafted_20 : decode cX2_isDrafted 20 = .ok (.ireturn, 1) := by decide +kernel
theorem dX2_isDrafted_21 : decode cX2_isDrafted 21 = .ok (.iinc 3 1, 3) := by decide +kernel
theorem dX2_isDrafted_24 : decode cX2_isDrafted 24 = .ok (.goto (-22), 3) := by decide +kernel
theorem dX2_isDrafted_27 : decode cX2_isDrafted 27 = .ok (.iconst 0, 1) := by decide +kernel
theorem dX2_isDrafted_28 : decode cX2_isDrafted 28 = .ok (.ireturn, 1) := by decide +kernel
theorem dX2_addDraft_0 : decode cX2_addDraft 0 = .ok (.aload_n 0, 1) := by decide +kernel
theorem dX2_addDraft_1 : decode cX2_addDraft 1 = .ok (.invokevirtual 78, 3) := by decide +kernel
theorem dX2_addDraft_4 : decode cX2_addDraft 4 = .ok (.istore_n 2, 1) := by decide +kernel
theorem dX2_addDraft_5 : decode cX2_addDraft 5 = .ok (.iconst 0, 1) := by decide +kernel
theorem dX2_addDraft_6 : decode cX2_addDraft 6 = .ok (.istore_n 3, 1) := by decide +kernel
theorem dX2_addDraft_7 : decode cX2_addDraft 7 = .ok (.iload_n 3, 1) := by decide +kernel
theorem dX2_addDraft_8 : decode cX2_addDraft 8 = .ok (.iload_n 1, 1) := by decide +kernel
theorem dX2_addDraft_9 : decode cX2_addDraft 9 = .ok (.if_icmp .ge 35, 3) := by decide +kernel
theorem dX2_addDraft_12 : decode cX2_addDraft 12 = .ok (.aload_n 0, 1) := by decide +kernel
theorem dX2_addDraft_13 : decode cX2_addDraft 13 = .ok (.iload_n 2, 1) := by decide +kernel
theorem dX2_addDraft_14 : decode cX2_addDraft 14 = .ok (.aload_n 0, 1) := by decide +kernel
theorem dX2_addDraft_15 : decode cX2_addDraft 15 = .ok (.getfield 24, 3) := by decide +kernel
theorem dX2_addDraft_18 : decode cX2_addDraft 18 = .ok (.iload_n 3, 1) := by decide +kernel
theorem dX2_addDraft_19 : decode cX2_addDraft 19 = .ok (.invokestatic 41, 3) := by decide +kernel
theorem dX2_addDraft_22 : decode cX2_addDraft 22 = .ok (.bipush 15, 2) := by decide +kernel
theorem dX2_addDraft_24 : decode cX2_addDraft 24 = .ok (.iand, 1) := by decide +kernel
theorem dX2_addDraft_25 : decode cX2_addDraft 25 = .ok (.aload_n 0, 1) := by decide +kernel
theorem dX2_addDraft_26 : decode cX2_addDraft 26 = .ok (.getfield 24, 3) := by decide +kernel
theorem dX2_addDraft_29 : decode cX2_addDraft 29 = .ok (.iload_n 3, 1) := by decide +kernel
theorem dX2_addDraft_30 : decode cX2_addDraft 30 = .ok (.invokestatic 41, 3) := by decide +kernel
theorem dX2_addDraft_33 : decode cX2_addDraft 33 = .ok (.iconst 4, 1) := by decide +kernel
theorem dX2_addDraft_34 : decode cX2_addDraft 34 = .ok (.ishr, 1) := by decide +kernel
theorem dX2_addDraft_35 : decode cX2_addDraft 35 = .ok (.invokevirtual 82, 3) := by decide +kernel
theorem dX2_addDraft_38 : decode cX2_addDraft 38 = .ok (.iinc 3 1, 3) := by decide +kernel
theorem dX2_addDraft_41 : decode cX2_addDraft 41 = .ok (.goto (-34), 3) := by decide +kernel
theorem dX2_addDraft_44 : decode cX2_addDraft 44 = .ok (.iload_n 2, 1) := by decide +kernel
theorem dX2_addDraft_45 : decode cX2_addDraft 45 = .ok (.ireturn, 1) := by decide +kernel
theorem dX3_init_0 : decode cX3_init 0 = .ok (.aload_n 0, 1) := by decide +kernel
theorem dX3_init_1 : decode cX3_init 1 = .ok (.invokespecial 3, 3) := by decide +kernel
theorem dX3_init_4 : decode cX3_init 4 = .ok (.aload_n 0, 1) := by decide +kernel
theorem dX3_init_5 : decode cX3_init 5 = .ok (.bipush 7, 2) := by decide +kernel
theorem dX3_init_7 : decode cX3_init 7 = .ok (.newarray .int, 2) := by decide +kernel
theorem dX3_init_9 : decode cX3_init 9 = .ok (.putfield 9, 3) := by decide +kernel
theorem dX3_init_12 : decode cX3_init 12 = .ok (.aload_n 0, 1) := by decide +kernel
theorem dX3_init_13 : decode cX3_init 13 = .ok (.bipush 7, 2) := by decide +kernel
theorem dX3_init_15 : decode cX3_init 15 = .ok (.newarray .int, 2) := by decide +kernel
theorem dX3_init_17 : decode cX3_init 17 = .ok (.putfield 15, 3) := by decide +kernel
theorem dX3_init_20 : decode cX3_init 20 = .ok (.return_, 1) := by decide +kernel
theorem dX3_size_0 : decode cX3_size 0 = .ok (.aload_n 0, 1) := by decide +kernel
theorem dX3_size_1 : decode cX3_size 1 = .ok (.getfield 18, 3) := by decide +kernel
theorem dX3_size_4 : decode cX3_size 4 = .ok (.ireturn, 1) := by decide +kernel
theorem dX3_changes_0 : decode cX3_changes 0 = .ok (.aload_n 0, 1) := by decide +kernel
theorem dX3_changes_1 : decode cX3_changes 1 = .ok (.getfield 22, 3) := by decide +kernel
theorem dX3_changes_4 : decode cX3_changes 4 = .ok (.ireturn, 1) := by decide +kernel
theorem dX3_knows_0 : decode cX3_knows 0 = .ok (.iload_n 1, 1) := by decide +kernel
theorem dX3_knows_1 : decode cX3_knows 1 = .ok (.ifCond .lt 15, 3) := by decide +kernel
theorem dX3_knows_4 : decode cX3_knows 4 = .ok (.iload_n 1, 1) := by decide +kernel
theorem dX3_knows_5 : decode cX3_knows 5 = .ok (.aload_n 0, 1) := by decide +kernel
theorem dX3_knows_6 : decode cX3_knows 6 = .ok (.getfield 18, 3) := by decide +kernel
theorem dX3_knows_9 : decode cX3_knows 9 = .ok (.if_icmp .ge 7, 3) := by decide +kernel
theorem dX3_knows_12 : decode cX3_knows 12 = .ok (.iconst 1, 1) := by decide +kernel
theorem dX3_knows_13 : decode cX3_knows 13 = .ok (.goto 4, 3) := by decide +kernel
theorem dX3_knows_16 : decode cX3_knows 16 = .ok (.iconst 0, 1) := by decide +kernel
theorem dX3_knows_17 : decode cX3_knows 17 = .ok (.ireturn, 1) := by decide +kernel
theorem dX3_all_0 : decode cX3_all 0 = .ok (.iconst 1, 1) := by decide +kernel
theorem dX3_all_1 : decode cX3_all 1 = .ok (.aload_n 0, 1) := by decide +kernel
theorem dX3_all_2 : decode cX3_all 2 = .ok (.getfield 18, 3) := by decide +kernel
theorem dX3_all_5 : decode cX3_all 5 = .ok (.ishl, 1) := by decide +kernel
theorem dX3_all_6 : decode cX3_all 6 = .ok (.iconst 1, 1) := by decide +kernel
theorem dX3_all_7 : decode cX3_all 7 = .ok (.isub, 1) := by decide +kernel
theorem dX3_all_8 : decode cX3_all 8 = .ok (.ireturn, 1) := by decide +kernel
theorem dX3_add_0 : decode cX3_add 0 = .ok (.aload_n 0, 1) := by decide +kernel
theorem dX3_add_1 : decode cX3_add 1 = .ok (.getfield 18, 3) := by decide +kernel
theorem dX3_add_4 : decode cX3_add 4 = .ok (.istore_n 1, 1) := by decide +kernel
theorem dX3_add_5 : decode cX3_add 5 = .ok (.aload_n 0, 1) := by decide +kernel
theorem dX3_add_6 : decode cX3_add 6 = .ok (.getfield 9, 3) := by decide +kernel
theorem dX3_add_9 : decode cX3_add 9 = .ok (.iload_n 1, 1) := by decide +kernel
theorem dX3_add_10 : decode cX3_add 10 = .ok (.iconst 1, 1) := by decide +kernel
theorem dX3_add_11 : decode cX3_add 11 = .ok (.iload_n 1, 1) := by decide +kernel
theorem dX3_add_12 : decode cX3_add 12 = .ok (.ishl, 1) := by decide +kernel
theorem dX3_add_13 : decode cX3_add 13 = .ok (.invokestatic 25, 3) := by decide +kernel
theorem dX3_add_16 : decode cX3_add 16 = .ok (.aload_n 0, 1) := by decide +kernel
theorem dX3_add_17 : decode cX3_add 17 = .ok (.getfield 15, 3) := by decide +kernel
theorem dX3_add_20 : decode cX3_add 20 = .ok (.iload_n 1, 1) := by decide +kernel
theorem dX3_add_21 : decode cX3_add 21 = .ok (.iload_n 1, 1) := by decide +kernel
theorem dX3_add_22 : decode cX3_add 22 = .ok (.invokestatic 25, 3) := by decide +kernel
theorem dX3_add_25 : decode cX3_add 25 = .ok (.aload_n 0, 1) := by decide +kernel
theorem dX3_add_26 : decode cX3_add 26 = .ok (.dup, 1) := by decide +kernel
theorem dX3_add_27 : decode cX3_add 27 = .ok (.getfield 29, 3) := by decide +kernel
theorem dX3_add_30 : decode cX3_add 30 = .ok (.iconst 1, 1) := by decide +kernel
theorem dX3_add_31 : decode cX3_add 31 = .ok (.iload_n 1, 1) := by decide +kernel
theorem dX3_add_32 : decode cX3_add 32 = .ok (.ishl, 1) := by decide +kernel
theorem dX3_add_33 : decode cX3_add 33 = .ok (.ior, 1) := by decide +kernel
theorem dX3_add_34 : decode cX3_add 34 = .ok (.putfield 29, 3) := by decide +kernel
theorem dX3_add_37 : decode cX3_add 37 = .ok (.aload_n 0, 1) := by decide +kernel
theorem dX3_add_38 : decode cX3_add 38 = .ok (.dup, 1) := by decide +kernel
theorem dX3_add_39 : decode cX3_add 39 = .ok (.getfield 18, 3) := by decide +kernel
theorem dX3_add_42 : decode cX3_add 42 = .ok (.iconst 1, 1) := by decide +kernel
theorem dX3_add_43 : decode cX3_add 43 = .ok (.iadd, 1) := by decide +kernel
theorem dX3_add_44 : decode cX3_add 44 = .ok (.putfield 18, 3) := by decide +kernel
theorem dX3_add_47 : decode cX3_add 47 = .ok (.aload_n 0, 1) := by decide +kernel
theorem dX3_add_48 : decode cX3_add 48 = .ok (.dup, 1) := by decide +kernel
theorem dX3_add_49 : decode cX3_add 49 = .ok (.getfield 22, 3) := by decide +kernel
theorem dX3_add_52 : decode cX3_add 52 = .ok (.iconst 1, 1) := by decide +kernel
theorem dX3_add_53 : decode cX3_add 53 = .ok (.iadd, 1) := by decide +kernel
theorem dX3_add_54 : decode cX3_add 54 = .ok (.putfield 22, 3) := by decide +kernel
theorem dX3_add_57 : decode cX3_add 57 = .ok (.iload_n 1, 1) := by decide +kernel
theorem dX3_add_58 : decode cX3_add 58 = .ok (.ireturn, 1) := by decide +kernel
theorem dX3_down_0 : decode cX3_down 0 = .ok (.aload_n 0, 1) := by decide +kernel
theorem dX3_down_1 : decode cX3_down 1 = .ok (.getfield 9, 3) := by decide +kernel
theorem dX3_down_4 : decode cX3_down 4 = .ok (.iload_n 1, 1) := by decide +kernel
theorem dX3_down_5 : decode cX3_down 5 = .ok (.invokestatic 32, 3) := by decide +kernel
theorem dX3_down_8 : decode cX3_down 8 = .ok (.ireturn, 1) := by decide +kernel
theorem dX3_up_0 : decode cX3_up 0 = .ok (.iconst 0, 1) := by decide +kernel
theorem dX3_up_1 : decode cX3_up 1 = .ok (.istore_n 2, 1) := by decide +kernel
theorem dX3_up_2 : decode cX3_up 2 = .ok (.iconst 0, 1) := by decide +kernel
theorem dX3_up_3 : decode cX3_up 3 = .ok (.istore_n 3, 1) := by decide +kernel
theorem dX3_up_4 : decode cX3_up 4 = .ok (.iload_n 3, 1) := by decide +kernel
theorem dX3_up_5 : decode cX3_up 5 = .ok (.aload_n 0, 1) := by decide +kernel
theorem dX3_up_6 : decode cX3_up 6 = .ok (.getfield 18, 3) := by decide +kernel
theorem dX3_up_9 : decode cX3_up 9 = .ok (.if_icmp .ge 24, 3) := by decide +kernel
theorem dX3_up_12 : decode cX3_up 12 = .ok (.aload_n 0, 1) := by decide +kernel
theorem dX3_up_13 : decode cX3_up 13 = .ok (.iload_n 1, 1) := by decide +kernel
theorem dX3_up_14 : decode cX3_up 14 = .ok (.iload_n 3, 1) := by decide +kernel
theorem dX3_up_15 : decode cX3_up 15 = .ok (.invokevirtual 36, 3) := by decide +kernel
theorem dX3_up_18 : decode cX3_up 18 = .ok (.ifCond .eq 9, 3) := by decide +kernel
theorem dX3_up_21 : decode cX3_up 21 = .ok (.iload_n 2, 1) := by decide +kernel
theorem dX3_up_22 : decode cX3_up 22 = .ok (.iconst 1, 1) := by decide +kernel
theorem dX3_up_23 : decode cX3_up 23 = .ok (.iload_n 3, 1) := by decide +kernel
theorem dX3_up_24 : decode cX3_up 24 = .ok (.ishl, 1) := by decide +kernel
theorem dX3_up_25 : decode cX3_up 25 = .ok (.ior, 1) := by decide +kernel
theorem dX3_up_26 : decode cX3_up 26 = .ok (.istore_n 2, 1) := by decide +kernel
theorem dX3_up_27 : decode cX3_up 27 = .ok (.iinc 3 1, 3) := by decide +kernel
theorem dX3_up_30 : decode cX3_up 30 = .ok (.goto (-26), 3) := by decide +kernel
theorem dX3_up_33 : decode cX3_up 33 = .ok (.iload_n 2, 1) := by decide +kernel
theorem dX3_up_34 : decode cX3_up 34 = .ok (.ireturn, 1) := by decide +kernel
theorem dX3_stands_0 : decode cX3_stands 0 = .ok (.aload_n 0, 1) := by decide +kernel
theorem dX3_stands_1 : decode cX3_stands 1 = .ok (.iload_n 2, 1) := by decide +kernel
theorem dX3_stands_2 : decode cX3_stands 2 = .ok (.invokevirtual 40, 3) := by decide +kernel
theorem dX3_stands_5 : decode cX3_stands 5 = .ok (.iload_n 1, 1) := by decide +kernel
theorem dX3_stands_6 : decode cX3_stands 6 = .ok (.invokestatic 44, 3) := by decide +kernel
theorem dX3_stands_9 : decode cX3_stands 9 = .ok (.ireturn, 1) := by decide +kernel
theorem dX3_agree_0 : decode cX3_agree 0 = .ok (.aload_n 0, 1) := by decide +kernel
theorem dX3_agree_1 : decode cX3_agree 1 = .ok (.iload_n 1, 1) := by decide +kernel
theorem dX3_agree_2 : decode cX3_agree 2 = .ok (.invokevirtual 40, 3) := by decide +kernel
theorem dX3_agree_5 : decode cX3_agree 5 = .ok (.aload_n 0, 1) := by decide +kernel
theorem dX3_agree_6 : decode cX3_agree 6 = .ok (.iload_n 2, 1) := by decide +kernel
theorem dX3_agree_7 : decode cX3_agree 7 = .ok (.invokevirtual 40, 3) := by decide +kernel
theorem dX3_agree_10 : decode cX3_agree 10 = .ok (.iand, 1) := by decide +kernel
theorem dX3_agree_11 : decode cX3_agree 11 = .ok (.ifCond .eq 7, 3) := by decide +kernel
theorem dX3_agree_14 : decode cX3_agree 14 = .ok (.iconst 1, 1) := by decide +kernel
theorem dX3_agree_15 : decode cX3_agree 15 = .ok (.goto 4, 3) := by decide +kernel
theorem dX3_agree_18 : decode cX3_agree 18 = .ok (.iconst 0, 1) := by decide +kernel
theorem dX3_agree_19 : decode cX3_agree 19 = .ok (.ireturn, 1) := by decide +kernel
theorem dX3_place_0 : decode cX3_place 0 = .ok (.aload_n 0, 1) := by decide +kernel
theorem dX3_place_1 : decode cX3_place 1 = .ok (.iload_n 1, 1) := by decide +kernel
theorem dX3_place_2 : decode cX3_place 2 = .ok (.invokevirtual 40, 3) := by decide +kernel
theorem dX3_place_5 : decode cX3_place 5 = .ok (.istore_n 3, 1) := by decide +kernel
theorem dX3_place_6 : decode cX3_place 6 = .ok (.iconst 0, 1) := by decide +kernel
theorem dX3_place_7 : decode cX3_place 7 = .ok (.istore 4, 2) := by decide +kernel
theorem dX3_place_9 : decode cX3_place 9 = .ok (.iload 4, 2) := by decide +kernel
theorem dX3_place_11 : decode cX3_place 11 = .ok (.aload_n 0, 1) := by decide +kernel
theorem dX3_place_12 : decode cX3_place 12 = .ok (.getfield 18, 3) := by decide +kernel
theorem dX3_place_15 : decode cX3_place 15 = .ok (.if_icmp .ge 36, 3) := by decide +kernel
theorem dX3_place_18 : decode cX3_place 18 = .ok (.aload_n 0, 1) := by decide +kernel
theorem dX3_place_19 : decode cX3_place 19 = .ok (.iload_n 2, 1) := by decide +kernel
theorem dX3_place_20 : decode cX3_place 20 = .ok (.iload 4, 2) := by decide +kernel
theorem dX3_place_22 : decode cX3_place 22 = .ok (.invokevirtual 36, 3) := by decide +kernel
theorem dX3_place_25 : decode cX3_place 25 = .ok (.ifCond .eq 20, 3) := by decide +kernel
theorem dX3_place_28 : decode cX3_place 28 = .ok (.aload_n 0, 1) := by decide +kernel
theorem dX3_place_29 : decode cX3_place 29 = .ok (.getfield 9, 3) := by decide +kernel
theorem dX3_place_32 : decode cX3_place 32 = .ok (.iload 4, 2) := by decide +kernel
theorem dX3_place_34 : decode cX3_place 34 = .ok (.aload_n 0, 1) := by decide +kernel
theorem dX3_place_35 : decode cX3_place 35 = .ok (.iload 4, 2) := by decide +kernel
theorem dX3_place_37 : decode cX3_place 37 = .ok (.invokevirtual 40, 3) := by decide +kernel
theorem dX3_place_40 : decode cX3_place 40 = .ok (.iload_n 3, 1) := by decide +kernel
theorem dX3_place_41 : decode cX3_place 41 = .ok (.ior, 1) := by decide +kernel
theorem dX3_place_42 : decode cX3_place 42 = .ok (.invokestatic 25, 3) := by decide +kernel
theorem dX3_place_45 : decode cX3_place 45 = .ok (.iinc 4 1, 3) := by decide +kernel
theorem dX3_place_48 : decode cX3_place 48 = .ok (.goto (-39), 3) := by decide +kernel
theorem dX3_place_51 : decode cX3_place 51 = .ok (.aload_n 0, 1) := by decide +kernel
theorem dX3_place_52 : decode cX3_place 52 = .ok (.dup, 1) := by decide +kernel
theorem dX3_place_53 : decode cX3_place 53 = .ok (.getfield 29, 3) := by decide +kernel
theorem dX3_place_56 : decode cX3_place 56 = .ok (.iconst 1, 1) := by decide +kernel
theorem dX3_place_57 : decode cX3_place 57 = .ok (.iload_n 2, 1) := by decide +kernel
theorem dX3_place_58 : decode cX3_place 58 = .ok (.ishl, 1) := by decide +kernel
theorem dX3_place_59 : decode cX3_place 59 = .ok (.iconst (-1), 1) := by decide +kernel
theorem dX3_place_60 : decode cX3_place 60 = .ok (.ixor, 1) := by decide +kernel
theorem dX3_place_61 : decode cX3_place 61 = .ok (.iand, 1) := by decide +kernel
theorem dX3_place_62 : decode cX3_place 62 = .ok (.putfield 29, 3) := by decide +kernel
theorem dX3_place_65 : decode cX3_place 65 = .ok (.aload_n 0, 1) := by decide +kernel
theorem dX3_place_66 : decode cX3_place 66 = .ok (.dup, 1) := by decide +kernel
theorem dX3_place_67 : decode cX3_place 67 = .ok (.getfield 22, 3) := by decide +kernel
theorem dX3_place_70 : decode cX3_place 70 = .ok (.iconst 1, 1) := by decide +kernel
theorem dX3_place_71 : decode cX3_place 71 = .ok (.iadd, 1) := by decide +kernel
theorem dX3_place_72 : decode cX3_place 72 = .ok (.putfield 22, 3) := by decide +kernel
theorem dX3_place_75 : decode cX3_place 75 = .ok (.return_, 1) := by decide +kernel
theorem dX3_pairsBelow_0 : decode cX3_pairsBelow 0 = .ok (.iconst 0, 1) := by decide +kernel
theorem dX3_pairsBelow_1 : decode cX3_pairsBelow 1 = .ok (.istore_n 1, 1) := by decide +kernel
theorem dX3_pairsBelow_2 : decode cX3_pairsBelow 2 = .ok (.iconst 0, 1) := by decide +kernel
theorem dX3_pairsBelow_3 : decode cX3_pairsBelow 3 = .ok (.istore_n 2, 1) := by decide +kernel
theorem dX3_pairsBelow_4 : decode cX3_pairsBelow 4 = .ok (.iload_n 2, 1) := by decide +kernel
theorem dX3_pairsBelow_5 : decode cX3_pairsBelow 5 = .ok (.aload_n 0, 1) := by decide +kernel
theorem dX3_pairsBelow_6 : decode cX3_pairsBelow 6 = .ok (.getfield 18, 3) := by decide +kernel
theorem dX3_pairsBelow_9 : decode cX3_pairsBelow 9 = .ok (.if_icmp .ge 22, 3) := by decide +kernel
theorem dX3_pairsBelow_12 : decode cX3_pairsBelow 12 = .ok (.iload_n 1, 1) := by decide +kernel
theorem dX3_pairsBelow_13 : decode cX3_pairsBelow 13 = .ok (.aload_n 0, 1) := by decide +kernel
theorem dX3_pairsBelow_14 : decode cX3_pairsBelow 14 = .ok (.iload_n 2, 1) := by decide +kernel
theorem dX3_pairsBelow_15 : decode cX3_pairsBelow 15 = .ok (.invokevirtual 40, 3) := by decide +kernel
theorem dX3_pairsBelow_18 : decode cX3_pairsBelow 18 = .ok (.invokestatic 47, 3) := by decide +kernel
theorem dX3_pairsBelow_21 : decode cX3_pairsBelow 21 = .ok (.iconst 1, 1) := by decide +kernel
theorem dX3_pairsBelow_22 : decode cX3_pairsBelow 22 = .ok (.isub, 1) := by decide +kernel
theorem dX3_pairsBelow_23 : decode cX3_pairsBelow 23 = .ok (.iadd, 1) := by decide +kernel
theorem dX3_pairsBelow_24 : decode cX3_pairsBelow 24 = .ok (.istore_n 1, 1) := by decide +kernel
theorem dX3_pairsBelow_25 : decode cX3_pairsBelow 25 = .ok (.iinc 2 1, 3) := by decide +kernel
theorem dX3_pairsBelow_28 : decode cX3_pairsBelow 28 = .ok (.goto (-24), 3) := by decide +kernel
theorem dX3_pairsBelow_31 : decode cX3_pairsBelow 31 = .ok (.iload_n 1, 1) := by decide +kernel
theorem dX3_pairsBelow_32 : decode cX3_pairsBelow 32 = .ok (.ireturn, 1) := by decide +kernel
theorem dX3_ends_0 : decode cX3_ends 0 = .ok (.aload_n 0, 1) := by decide +kernel
theorem dX3_ends_1 : decode cX3_ends 1 = .ok (.getfield 29, 3) := by decide +kernel
theorem dX3_ends_4 : decode cX3_ends 4 = .ok (.ireturn, 1) := by decide +kernel
theorem dX3_endsOf_0 : decode cX3_endsOf 0 = .ok (.aload_n 0, 1) := by decide +kernel
theorem dX3_endsOf_1 : decode cX3_endsOf 1 = .ok (.getfield 9, 3) := by decide +kernel
theorem dX3_endsOf_4 : decode cX3_endsOf 4 = .ok (.iload_n 1, 1) := by decide +kernel
theorem dX3_endsOf_5 : decode cX3_endsOf 5 = .ok (.invokestatic 32, 3) := by decide +kernel
theorem dX3_endsOf_8 : decode cX3_endsOf 8 = .ok (.aload_n 0, 1) := by decide +kernel
theorem dX3_endsOf_9 : decode cX3_endsOf 9 = .ok (.getfield 29, 3) := by decide +kernel
theorem dX3_endsOf_12 : decode cX3_endsOf 12 = .ok (.iand, 1) := by decide +kernel
theorem dX3_endsOf_13 : decode cX3_endsOf 13 = .ok (.ireturn, 1) := by decide +kernel
theorem dX3_avoiding_0 : decode cX3_avoiding 0 = .ok (.iconst 0, 1) := by decide +kernel
theorem dX3_avoiding_1 : decode cX3_avoiding 1 = .ok (.istore_n 2, 1) := by decide +kernel
theorem dX3_avoiding_2 : decode cX3_avoiding 2 = .ok (.iconst 0, 1) := by decide +kernel
theorem dX3_avoiding_3 : decode cX3_avoiding 3 = .ok (.istore_n 3, 1) := by decide +kernel
theorem dX3_avoiding_4 : decode cX3_avoiding 4 = .ok (.iload_n 3, 1) := by decide +kernel
theorem dX3_avoiding_5 : decode cX3_avoiding 5 = .ok (.aload_n 0, 1) := by decide +kernel
theorem dX3_avoiding_6 : decode cX3_avoiding 6 = .ok (.getfield 18, 3) := by decide +kernel
theorem dX3_avoiding_9 : decode cX3_avoiding 9 = .ok (.if_icmp .ge 28, 3) := by decide +kernel
theorem dX3_avoiding_12 : decode cX3_avoiding 12 = .ok (.aload_n 0, 1) := by decide +kernel
theorem dX3_avoiding_13 : decode cX3_avoiding 13 = .ok (.getfield 9, 3) := by decide +kernel
theorem dX3_avoiding_16 : decode cX3_avoiding 16 = .ok (.iload_n 3, 1) := by decide +kernel
theorem dX3_avoiding_17 : decode cX3_avoiding 17 = .ok (.invokestatic 32, 3) := by decide +kernel
theorem dX3_avoiding_20 : decode cX3_avoiding 20 = .ok (.iload_n 1, 1) := by decide +kernel
theorem dX3_avoiding_21 : decode cX3_avoiding 21 = .ok (.iand, 1) := by decide +kernel
theorem dX3_avoiding_22 : decode cX3_avoiding 22 = .ok (.ifCond .ne 9, 3) := by decide +kernel
theorem dX3_avoiding_25 : decode cX3_avoiding 25 = .ok (.iload_n 2, 1) := by decide +kernel
theorem dX3_avoiding_26 : decode cX3_avoiding 26 = .ok (.iconst 1, 1) := by decide +kernel
theorem dX3_avoiding_27 : decode cX3_avoiding 27 = .ok (.iload_n 3, 1) := by decide +kernel
theorem dX3_avoiding_28 : decode cX3_avoiding 28 = .ok (.ishl, 1) := by decide +kernel
theorem dX3_avoiding_29 : decode cX3_avoiding 29 = .ok (.ior, 1) := by decide +kernel
theorem dX3_avoiding_30 : decode cX3_avoiding 30 = .ok (.istore_n 2, 1) := by decide +kernel
theorem dX3_avoiding_31 : decode cX3_avoiding 31 = .ok (.iinc 3 1, 3) := by decide +kernel
theorem dX3_avoiding_34 : decode cX3_avoiding 34 = .ok (.goto (-30), 3) := by decide +kernel
theorem dX3_avoiding_37 : decode cX3_avoiding 37 = .ok (.iload_n 2, 1) := by decide +kernel
theorem dX3_avoiding_38 : decode cX3_avoiding 38 = .ok (.ireturn, 1) := by decide +kernel
theorem dX3_image_0 : decode cX3_image 0 = .ok (.aload_n 0, 1) := by decide +kernel
theorem dX3_image_1 : decode cX3_image 1 = .ok (.getfield 15, 3) := by decide +kernel
theorem dX3_image_4 : decode cX3_image 4 = .ok (.iload_n 1, 1) := by decide +kernel
theorem dX3_image_5 : decode cX3_image 5 = .ok (.invokestatic 32, 3) := by decide +kernel
theorem dX3_image_8 : decode cX3_image 8 = .ok (.ireturn, 1) := by decide +kernel
theorem dX3_exchange_0 : decode cX3_exchange 0 = .ok (.aload_n 0, 1) := by decide +kernel
theorem dX3_exchange_1 : decode cX3_exchange 1 = .ok (.iload_n 1, 1) := by decide +kernel
theorem dX3_exchange_2 : decode cX3_exchange 2 = .ok (.invokevirtual 52, 3) := by decide +kernel
theorem dX3_exchange_5 : decode cX3_exchange 5 = .ok (.istore_n 3, 1) := by decide +kernel
theorem dX3_exchange_6 : decode cX3_exchange 6 = .ok (.aload_n 0, 1) := by decide +kernel
theorem dX3_exchange_7 : decode cX3_exchange 7 = .ok (.getfield 15, 3) := by decide +kernel
theorem dX3_exchange_10 : decode cX3_exchange 10 = .ok (.iload_n 1, 1) := by decide +kernel
theorem dX3_exchange_11 : decode cX3_exchange 11 = .ok (.aload_n 0, 1) := by decide +kernel
theorem dX3_exchange_12 : decode cX3_exchange 12 = .ok (.iload_n 2, 1) := by decide +kernel
theorem dX3_exchange_13 : decode cX3_exchange 13 = .ok (.invokevirtual 52, 3) := by decide +kernel
theorem dX3_exchange_16 : decode cX3_exchange 16 = .ok (.invokestatic 25, 3) := by decide +kernel
theorem dX3_exchange_19 : decode cX3_exchange 19 = .ok (.aload_n 0, 1) := by decide +kernel
theorem dX3_exchange_20 : decode cX3_exchange 20 = .ok (.getfield 15, 3) := by decide +kernel
theorem dX3_exchange_23 : decode cX3_exchange 23 = .ok (.iload_n 2, 1) := by decide +kernel
theorem dX3_exchange_24 : decode cX3_exchange 24 = .ok (.iload_n 3, 1) := by decide +kernel
theorem dX3_exchange_25 : decode cX3_exchange 25 = .ok (.invokestatic 25, 3) := by decide +kernel
theorem dX3_exchange_28 : decode cX3_exchange 28 = .ok (.return_, 1) := by decide +kernel
theorem dX3_isKept_0 : decode cX3_isKept 0 = .ok (.iconst 0, 1) := by decide +kernel
theorem dX3_isKept_1 : decode cX3_isKept 1 = .ok (.istore_n 1, 1) := by decide +kernel
theorem dX3_isKept_2 : decode cX3_isKept 2 = .ok (.iload_n 1, 1) := by decide +kernel
theorem dX3_isKept_3 : decode cX3_isKept 3 = .ok (.aload_n 0, 1) := by decide +kernel
theorem dX3_isKept_4 : decode cX3_isKept 4 = .ok (.getfield 18, 3) := by decide +kernel
theorem dX3_isKept_7 : decode cX3_isKept 7 = .ok (.if_icmp .ge 50, 3) := by decide +kernel
theorem dX3_isKept_10 : decode cX3_isKept 10 = .ok (.iconst 0, 1) := by decide +kernel
theorem dX3_isKept_11 : decode cX3_isKept 11 = .ok (.istore_n 2, 1) := by decide +kernel
theorem dX3_isKept_12 : decode cX3_isKept 12 = .ok (.iload_n 2, 1) := by decide +kernel
theorem dX3_isKept_13 : decode cX3_isKept 13 = .ok (.aload_n 0, 1) := by decide +kernel
theorem dX3_isKept_14 : decode cX3_isKept 14 = .ok (.getfield 18, 3) := by decide +kernel
theorem dX3_isKept_17 : decode cX3_isKept 17 = .ok (.if_icmp .ge 34, 3) := by decide +kernel
theorem dX3_isKept_20 : decode cX3_isKept 20 = .ok (.aload_n 0, 1) := by decide +kernel
theorem dX3_isKept_21 : decode cX3_isKept 21 = .ok (.iload_n 1, 1) := by decide +kernel
theorem dX3_isKept_22 : decode cX3_isKept 22 = .ok (.iload_n 2, 1) := by decide +kernel
theorem dX3_isKept_23 : decode cX3_isKept 23 = .ok (.invokevirtual 36, 3) := by decide +kernel
theorem dX3_isKept_26 : decode cX3_isKept 26 = .ok (.aload_n 0, 1) := by decide +kernel
theorem dX3_isKept_27 : decode cX3_isKept 27 = .ok (.aload_n 0, 1) := by decide +kernel
theorem dX3_isKept_28 : decode cX3_isKept 28 = .ok (.iload_n 1, 1) := by decide +kernel
theorem dX3_isKept_29 : decode cX3_isKept 29 = .ok (.invokevirtual 52, 3) := by decide +kernel
theorem dX3_isKept_32 : decode cX3_isKept 32 = .ok (.aload_n 0, 1) := by decide +kernel
theorem dX3_isKept_33 : decode cX3_isKept 33 = .ok (.iload_n 2, 1) := by decide +kernel
theorem dX3_isKept_34 : decode cX3_isKept 34 = .ok (.invokevirtual 52, 3) := by decide +kernel
theorem dX3_isKept_37 : decode cX3_isKept 37 = .ok (.invokevirtual 36, 3) := by decide +kernel
theorem dX3_isKept_40 : decode cX3_isKept 40 = .ok (.if_icmp .eq 5, 3) := by decide +kernel
theorem dX3_isKept_43 : decode cX3_isKept 43 = .ok (.iconst 0, 1) := by decide +kernel
theorem dX3_isKept_44 : decode cX3_isKept 44 = .ok (.ireturn, 1) := by decide +kernel
theorem dX3_isKept_45 : decode cX3_isKept 45 = .ok (.iinc 2 1, 3) := by decide +kernel
theorem dX3_isKept_48 : decode cX3_isKept 48 = .ok (.goto (-36), 3) := by decide +kernel
theorem dX3_isKept_51 : decode cX3_isKept 51 = .ok (.iinc 1 1, 3) := by decide +kernel
theorem dX3_isKept_54 : decode cX3_isKept 54 = .ok (.goto (-52), 3) := by decide +kernel
theorem dX3_isKept_57 : decode cX3_isKept 57 = .ok (.iconst 1, 1) := by decide +kernel
theorem dX3_isKept_58 : decode cX3_isKept 58 = .ok (.ireturn, 1) := by decide +kernel
theorem dX4_init_0 : decode cX4_init 0 = .ok (.aload_n 0, 1) := by decide +kernel
theorem dX4_init_1 : decode cX4_init 1 = .ok (.aload_n 1, 1) := by decide +kernel
theorem dX4_init_2 : decode cX4_init 2 = .ok (.aload_n 2, 1) := by decide +kernel
theorem dX4_init_3 : decode cX4_init 3 = .ok (.aload_n 3, 1) := by decide +kernel
theorem dX4_init_4 : decode cX4_init 4 = .ok (.invokespecial 1, 3) := by decide +kernel
theorem dX4_init_7 : decode cX4_init 7 = .ok (.return_, 1) := by decide +kernel
theorem dX4_whole_0 : decode cX4_whole 0 = .ok (.aload_n 0, 1) := by decide +kernel
theorem dX4_whole_1 : decode cX4_whole 1 = .ok (.getfield 7, 3) := by decide +kernel
theorem dX4_whole_4 : decode cX4_whole 4 = .ok (.invokevirtual 13, 3) := by decide +kernel
theorem dX4_whole_7 : decode cX4_whole 7 = .ok (.ireturn, 1) := by decide +kernel
theorem dX4_denied_0 : decode cX4_denied 0 = .ok (.aload_n 0, 1) := by decide +kernel
theorem dX4_denied_1 : decode cX4_denied 1 = .ok (.getfield 7, 3) := by decide +kernel
theorem dX4_denied_4 : decode cX4_denied 4 = .ok (.invokevirtual 13, 3) := by decide +kernel
theorem dX4_denied_7 : decode cX4_denied 7 = .ok (.iload_n 1, 1) := by decide +kernel
theorem dX4_denied_8 : decode cX4_denied 8 = .ok (.iconst (-1), 1) := by decide +kernel
theorem dX4_denied_9 : decode cX4_denied 9 = .ok (.ixor, 1) := by decide +kernel
theorem dX4_denied_10 : decode cX4_denied 10 = .ok (.iand, 1) := by decide +kernel
theorem dX4_denied_11 : decode cX4_denied 11 = .ok (.ireturn, 1) := by decide +kernel
theorem dX4_along_0 : decode cX4_along 0 = .ok (.aload_n 0, 1) := by decide +kernel
theorem dX4_along_1 : decode cX4_along 1 = .ok (.getfield 7, 3) := by decide +kernel
theorem dX4_along_4 : decode cX4_along 4 = .ok (.iload_n 1, 1) := by decide +kernel
theorem dX4_along_5 : decode cX4_along 5 = .ok (.invokevirtual 19, 3) := by decide +kernel
theorem dX4_along_8 : decode cX4_along 8 = .ok (.iload_n 2, 1) := by decide +kernel
theorem dX4_along_9 : decode cX4_along 9 = .ok (.iand, 1) := by decide +kernel
theorem dX4_along_10 : decode cX4_along 10 = .ok (.ireturn, 1) := by decide +kernel
theorem dX4_unless_0 : decode cX4_unless 0 = .ok (.aload_n 0, 1) := by decide +kernel
theorem dX4_unless_1 : decode cX4_unless 1 = .ok (.getfield 7, 3) := by decide +kernel
theorem dX4_unless_4 : decode cX4_unless 4 = .ok (.invokevirtual 13, 3) := by decide +kernel
theorem dX4_unless_7 : decode cX4_unless 7 = .ok (.aload_n 0, 1) := by decide +kernel
theorem dX4_unless_8 : decode cX4_unless 8 = .ok (.getfield 7, 3) := by decide +kernel
theorem dX4_unless_11 : decode cX4_unless 11 = .ok (.iload_n 1, 1) := by decide +kernel
theorem dX4_unless_12 : decode cX4_unless 12 = .ok (.invokevirtual 19, 3) := by decide +kernel
theorem dX4_unless_15 : decode cX4_unless 15 = .ok (.iconst (-1), 1) := by decide +kernel
theorem dX4_unless_16 : decode cX4_unless 16 = .ok (.ixor, 1) := by decide +kernel
theorem dX4_unless_17 : decode cX4_unless 17 = .ok (.iand, 1) := by decide +kernel
theorem dX4_unless_18 : decode cX4_unless 18 = .ok (.iload_n 2, 1) := by decide +kernel
theorem dX4_unless_19 : decode cX4_unless 19 = .ok (.ior, 1) := by decide +kernel
theorem dX4_unless_20 : decode cX4_unless 20 = .ok (.ireturn, 1) := by decide +kernel
theorem dX4_settled_0 : decode cX4_settled 0 = .ok (.iload_n 1, 1) := by decide +kernel
theorem dX4_settled_1 : decode cX4_settled 1 = .ok (.ireturn, 1) := by decide +kernel
theorem dX5_init_0 : decode cX5_init 0 = .ok (.aload_n 0, 1) := by decide +kernel
theorem dX5_init_1 : decode cX5_init 1 = .ok (.invokespecial 3, 3) := by decide +kernel
theorem dX5_init_4 : decode cX5_init 4 = .ok (.aload_n 0, 1) := by decide +kernel
theorem dX5_init_5 : decode cX5_init 5 = .ok (.sipush 144, 3) := by decide +kernel
theorem dX5_init_8 : decode cX5_init 8 = .ok (.newarray .int, 2) := by decide +kernel
theorem dX5_init_10 : decode cX5_init 10 = .ok (.putfield 9, 3) := by decide +kernel
theorem dX5_init_13 : decode cX5_init 13 = .ok (.aload_n 0, 1) := by decide +kernel
theorem dX5_init_14 : decode cX5_init 14 = .ok (.sipush 144, 3) := by decide +kernel
theorem dX5_init_17 : decode cX5_init 17 = .ok (.newarray .int, 2) := by decide +kernel
theorem dX5_init_19 : decode cX5_init 19 = .ok (.putfield 15, 3) := by decide +kernel
theorem dX5_init_22 : decode cX5_init 22 = .ok (.aload_n 0, 1) := by decide +kernel
theorem dX5_init_23 : decode cX5_init 23 = .ok (.iconst 4, 1) := by decide +kernel
theorem dX5_init_24 : decode cX5_init 24 = .ok (.newarray .int, 2) := by decide +kernel
theorem dX5_init_26 : decode cX5_init 26 = .ok (.putfield 18, 3) := by decide +kernel
theorem dX5_init_29 : decode cX5_init 29 = .ok (.aload_n 0, 1) := by decide +kernel
theorem dX5_init_30 : decode cX5_init 30 = .ok (.aload_n 1, 1) := by decide +kernel
theorem dX5_init_31 : decode cX5_init 31 = .ok (.putfield 21, 3) := by decide +kernel
theorem dX5_init_34 : decode cX5_init 34 = .ok (.aload_n 0, 1) := by decide +kernel
theorem dX5_init_35 : decode cX5_init 35 = .ok (.aload_n 2, 1) := by decide +kernel
theorem dX5_init_36 : decode cX5_init 36 = .ok (.putfield 25, 3) := by decide +kernel
theorem dX5_init_39 : decode cX5_init 39 = .ok (.aload_n 0, 1) := by decide +kernel
theorem dX5_init_40 : decode cX5_init 40 = .ok (.aload_n 3, 1) := by decide +kernel
theorem dX5_init_41 : decode cX5_init 41 = .ok (.putfield 29, 3) := by decide +kernel
theorem dX5_init_44 : decode cX5_init 44 = .ok (.return_, 1) := by decide +kernel
theorem dX5_alike_0 : decode cX5_alike 0 = .ok (.aload_n 0, 1) := by decide +kernel
theorem dX5_alike_1 : decode cX5_alike 1 = .ok (.invokevirtual 33, 3) := by decide +kernel
theorem dX5_alike_4 : decode cX5_alike 4 = .ok (.aload_n 0, 1) := by decide +kernel
theorem dX5_alike_5 : decode cX5_alike 5 = .ok (.getfield 9, 3) := by decide +kernel
theorem dX5_alike_8 : decode cX5_alike 8 = .ok (.iload_n 1, 1) := by decide +kernel
theorem dX5_alike_9 : decode cX5_alike 9 = .ok (.bipush 12, 2) := by decide +kernel
theorem dX5_alike_11 : decode cX5_alike 11 = .ok (.imul, 1) := by decide +kernel
theorem dX5_alike_12 : decode cX5_alike 12 = .ok (.iload_n 2, 1) := by decide +kernel
theorem dX5_alike_13 : decode cX5_alike 13 = .ok (.iadd, 1) := by decide +kernel
theorem dX5_alike_14 : decode cX5_alike 14 = .ok (.invokestatic 36, 3) := by decide +kernel
theorem dX5_alike_17 : decode cX5_alike 17 = .ok (.ireturn, 1) := by decide +kernel
theorem dX5_inside_0 : decode cX5_inside 0 = .ok (.aload_n 0, 1) := by decide +kernel
theorem dX5_inside_1 : decode cX5_inside 1 = .ok (.invokevirtual 33, 3) := by decide +kernel
theorem dX5_inside_4 : decode cX5_inside 4 = .ok (.aload_n 0, 1) := by decide +kernel
theorem dX5_inside_5 : decode cX5_inside 5 = .ok (.getfield 15, 3) := by decide +kernel
theorem dX5_inside_8 : decode cX5_inside 8 = .ok (.iload_n 1, 1) := by decide +kernel
theorem dX5_inside_9 : decode cX5_inside 9 = .ok (.bipush 12, 2) := by decide +kernel
theorem dX5_inside_11 : decode cX5_inside 11 = .ok (.imul, 1) := by decide +kernel
theorem dX5_inside_12 : decode cX5_inside 12 = .ok (.iload_n 2, 1) := by decide +kernel
theorem dX5_inside_13 : decode cX5_inside 13 = .ok (.iadd, 1) := by decide +kernel
theorem dX5_inside_14 : decode cX5_inside 14 = .ok (.invokestatic 36, 3) := by decide +kernel
theorem dX5_inside_17 : decode cX5_inside 17 = .ok (.ireturn, 1) := by decide +kernel
theorem dX5_judge_0 : decode cX5_judge 0 = .ok (.aload_n 0, 1) := by decide +kernel
theorem dX5_judge_1 : decode cX5_judge 1 = .ok (.invokevirtual 33, 3) := by decide +kernel
theorem dX5_judge_4 : decode cX5_judge 4 = .ok (.aload_n 0, 1) := by decide +kernel
theorem dX5_judge_5 : decode cX5_judge 5 = .ok (.iload_n 1, 1) := by decide +kernel
theorem dX5_judge_6 : decode cX5_judge 6 = .ok (.iconst 1, 1) := by decide +kernel
theorem dX5_judge_7 : decode cX5_judge 7 = .ok (.invokevirtual 40, 3) := by decide +kernel
theorem dX5_judge_10 : decode cX5_judge 10 = .ok (.ireturn, 1) := by decide +kernel
theorem dX5_judged_0 : decode cX5_judged 0 = .ok (.iload_n 2, 1) := by decide +kernel
theorem dX5_judged_1 : decode cX5_judged 1 = .ok (.iconst 5, 1) := by decide +kernel
theorem dX5_judged_2 : decode cX5_judged 2 = .ok (.if_icmp .gt 14, 3) := by decide +kernel
theorem dX5_judged_5 : decode cX5_judged 5 = .ok (.aload_n 0, 1) := by decide +kernel
theorem dX5_judged_6 : decode cX5_judged 6 = .ok (.getfield 29, 3) := by decide +kernel
theorem dX5_judged_9 : decode cX5_judged 9 = .ok (.iload_n 1, 1) := by decide +kernel
theorem dX5_judged_10 : decode cX5_judged 10 = .ok (.invokevirtual 44, 3) := by decide +kernel
theorem dX5_judged_13 : decode cX5_judged 13 = .ok (.ifCond .ne 5, 3) := by decide +kernel
theorem dX5_judged_16 : decode cX5_judged 16 = .ok (.iconst 0, 1) := by decide +kernel
theorem dX5_judged_17 : decode cX5_judged 17 = .ok (.ireturn, 1) := by decide +kernel
theorem dX5_judged_18 : decode cX5_judged 18 = .ok (.aload_n 0, 1) := by decide +kernel
theorem dX5_judged_19 : decode cX5_judged 19 = .ok (.getfield 29, 3) := by decide +kernel
theorem dX5_judged_22 : decode cX5_judged 22 = .ok (.iload_n 1, 1) := by decide +kernel
theorem dX5_judged_23 : decode cX5_judged 23 = .ok (.invokevirtual 50, 3) := by decide +kernel
theorem dX5_judged_26 : decode cX5_judged 26 = .ok (.istore_n 3, 1) := by decide +kernel
theorem dX5_judged_27 : decode cX5_judged 27 = .ok (.aload_n 0, 1) := by decide +kernel
theorem dX5_judged_28 : decode cX5_judged 28 = .ok (.getfield 29, 3) := by decide +kernel
theorem dX5_judged_31 : decode cX5_judged 31 = .ok (.iload_n 1, 1) := by decide +kernel
theorem dX5_judged_32 : decode cX5_judged 32 = .ok (.invokevirtual 54, 3) := by decide +kernel
theorem dX5_judged_35 : decode cX5_judged 35 = .ok (.istore 4, 2) := by decide +kernel
theorem dX5_judged_37 : decode cX5_judged 37 = .ok (.aload_n 0, 1) := by decide +kernel
theorem dX5_judged_38 : decode cX5_judged 38 = .ok (.getfield 29, 3) := by decide +kernel
theorem dX5_judged_41 : decode cX5_judged 41 = .ok (.iload_n 1, 1) := by decide +kernel
theorem dX5_judged_42 : decode cX5_judged 42 = .ok (.invokevirtual 57, 3) := by decide +kernel
theorem dX5_judged_45 : decode cX5_judged 45 = .ok (.lookupswitch 152 #[(61, 74), (97, 97), (101, 51), (110, 139), (111, 116)], 51) := by decide +kernel
theorem dX5_judged_96 : decode cX5_judged 96 = .ok (.aload_n 0, 1) := by decide +kernel
theorem dX5_judged_97 : decode cX5_judged 97 = .ok (.getfield 15, 3) := by decide +kernel
theorem dX5_judged_100 : decode cX5_judged 100 = .ok (.aload_n 0, 1) := by decide +kernel
theorem dX5_judged_101 : decode cX5_judged 101 = .ok (.iload_n 3, 1) := by decide +kernel
theorem dX5_judged_102 : decode cX5_judged 102 = .ok (.invokevirtual 60, 3) := by decide +kernel
theorem dX5_judged_105 : decode cX5_judged 105 = .ok (.bipush 12, 2) := by decide +kernel
theorem dX5_judged_107 : decode cX5_judged 107 = .ok (.imul, 1) := by decide +kernel
theorem dX5_judged_108 : decode cX5_judged 108 = .ok (.aload_n 0, 1) := by decide +kernel
theorem dX5_judged_109 : decode cX5_judged 109 = .ok (.iload 4, 2) := by decide +kernel
theorem dX5_judged_111 : decode cX5_judged 111 = .ok (.invokevirtual 60, 3) := by decide +kernel
theorem dX5_judged_114 : decode cX5_judged 114 = .ok (.iadd, 1) := by decide +kernel
theorem dX5_judged_115 : decode cX5_judged 115 = .ok (.invokestatic 36, 3) := by decide +kernel
theorem dX5_judged_118 : decode cX5_judged 118 = .ok (.ireturn, 1) := by decide +kernel
theorem dX5_judged_119 : decode cX5_judged 119 = .ok (.aload_n 0, 1) := by decide +kernel
theorem dX5_judged_120 : decode cX5_judged 120 = .ok (.getfield 9, 3) := by decide +kernel
theorem dX5_judged_123 : decode cX5_judged 123 = .ok (.aload_n 0, 1) := by decide +kernel
theorem dX5_judged_124 : decode cX5_judged 124 = .ok (.iload_n 3, 1) := by decide +kernel
theorem dX5_judged_125 : decode cX5_judged 125 = .ok (.invokevirtual 60, 3) := by decide +kernel
theorem dX5_judged_128 : decode cX5_judged 128 = .ok (.bipush 12, 2) := by decide +kernel
theorem dX5_judged_130 : decode cX5_judged 130 = .ok (.imul, 1) := by decide +kernel
theorem dX5_judged_131 : decode cX5_judged 131 = .ok (.aload_n 0, 1) := by decide +kernel
theorem dX5_judged_132 : decode cX5_judged 132 = .ok (.iload 4, 2) := by decide +kernel
theorem dX5_judged_134 : decode cX5_judged 134 = .ok (.invokevirtual 60, 3) := by decide +kernel
theorem dX5_judged_137 : decode cX5_judged 137 = .ok (.iadd, 1) := by decide +kernel
theorem dX5_judged_138 : decode cX5_judged 138 = .ok (.invokestatic 36, 3) := by decide +kernel
theorem dX5_judged_141 : decode cX5_judged 141 = .ok (.ireturn, 1) := by decide +kernel
theorem dX5_judged_142 : decode cX5_judged 142 = .ok (.aload_n 0, 1) := by decide +kernel
theorem dX5_judged_143 : decode cX5_judged 143 = .ok (.iload_n 3, 1) := by decide +kernel
theorem dX5_judged_144 : decode cX5_judged 144 = .ok (.iload_n 2, 1) := by decide +kernel
theorem dX5_judged_145 : decode cX5_judged 145 = .ok (.iconst 1, 1) := by decide +kernel
theorem dX5_judged_146 : decode cX5_judged 146 = .ok (.iadd, 1) := by decide +kernel
theorem dX5_judged_147 : decode cX5_judged 147 = .ok (.invokevirtual 40, 3) := by decide +kernel
theorem dX5_judged_150 : decode cX5_judged 150 = .ok (.aload_n 0, 1) := by decide +kernel
theorem dX5_judged_151 : decode cX5_judged 151 = .ok (.iload 4, 2) := by decide +kernel
theorem dX5_judged_153 : decode cX5_judged 153 = .ok (.iload_n 2, 1) := by decide +kernel
theorem dX5_judged_154 : decode cX5_judged 154 = .ok (.iconst 1, 1) := by decide +kernel
theorem dX5_judged_155 : decode cX5_judged 155 = .ok (.iadd, 1) := by decide +kernel
theorem dX5_judged_156 : decode cX5_judged 156 = .ok (.invokevirtual 40, 3) := by decide +kernel
theorem dX5_judged_159 : decode cX5_judged 159 = .ok (.iand, 1) := by decide +kernel
theorem dX5_judged_160 : decode cX5_judged 160 = .ok (.ireturn, 1) := by decide +kernel
theorem dX5_judged_161 : decode cX5_judged 161 = .ok (.aload_n 0, 1) := by decide +kernel
theorem dX5_judged_162 : decode cX5_judged 162 = .ok (.aload_n 0, 1) := by decide +kernel
theorem dX5_judged_163 : decode cX5_judged 163 = .ok (.iload_n 3, 1) := by decide +kernel
theorem dX5_judged_164 : decode cX5_judged 164 = .ok (.iload_n 2, 1) := by decide +kernel
theorem dX5_judged_165 : decode cX5_judged 165 = .ok (.iconst 1, 1) := by decide +kernel
theorem dX5_judged_166 : decode cX5_judged 166 = .ok (.iadd, 1) := by decide +kernel
theorem dX5_judged_167 : decode cX5_judged 167 = .ok (.invokevirtual 40, 3) := by decide +kernel
theorem dX5_judged_170 : decode cX5_judged 170 = .ok (.aload_n 0, 1) := by decide +kernel
theorem dX5_judged_171 : decode cX5_judged 171 = .ok (.iload 4, 2) := by decide +kernel
theorem dX5_judged_173 : decode cX5_judged 173 = .ok (.iload_n 2, 1) := by decide +kernel
theorem dX5_judged_174 : decode cX5_judged 174 = .ok (.iconst 1, 1) := by decide +kernel
theorem dX5_judged_175 : decode cX5_judged 175 = .ok (.iadd, 1) := by decide +kernel
theorem dX5_judged_176 : decode cX5_judged 176 = .ok (.invokevirtual 40, 3) := by decide +kernel
theorem dX5_judged_179 : decode cX5_judged 179 = .ok (.ior, 1) := by decide +kernel
theorem dX5_judged_180 : decode cX5_judged 180 = .ok (.invokevirtual 63, 3) := by decide +kernel
theorem dX5_judged_183 : decode cX5_judged 183 = .ok (.ireturn, 1) := by decide +kernel
theorem dX5_judged_184 : decode cX5_judged 184 = .ok (.aload_n 0, 1) := by decide +kernel
theorem dX5_judged_185 : decode cX5_judged 185 = .ok (.aload_n 0, 1) := by decide +kernel
theorem dX5_judged_186 : decode cX5_judged 186 = .ok (.iload_n 3, 1) := by decide +kernel
theorem dX5_judged_187 : decode cX5_judged 187 = .ok (.iload_n 2, 1) := by decide +kernel
theorem dX5_judged_188 : decode cX5_judged 188 = .ok (.iconst 1, 1) := by decide +kernel
theorem dX5_judged_189 : decode cX5_judged 189 = .ok (.iadd, 1) := by decide +kernel
theorem dX5_judged_190 : decode cX5_judged 190 = .ok (.invokevirtual 40, 3) := by decide +kernel
theorem dX5_judged_193 : decode cX5_judged 193 = .ok (.invokevirtual 66, 3) := by decide +kernel
theorem dX5_judged_196 : decode cX5_judged 196 = .ok (.ireturn, 1) := by decide +kernel
theorem dX5_judged_197 : decode cX5_judged 197 = .ok (.aload_n 0, 1) := by decide +kernel
theorem dX5_judged_198 : decode cX5_judged 198 = .ok (.iload_n 1, 1) := by decide +kernel
theorem dX5_judged_199 : decode cX5_judged 199 = .ok (.iload_n 2, 1) := by decide +kernel
theorem dX5_judged_200 : decode cX5_judged 200 = .ok (.invokevirtual 69, 3) := by decide +kernel
theorem dX5_judged_203 : decode cX5_judged 203 = .ok (.ireturn, 1) := by decide +kernel
theorem dX5_judgedBound_0 : decode cX5_judgedBound 0 = .ok (.aload_n 0, 1) := by decide +kernel
theorem dX5_judgedBound_1 : decode cX5_judgedBound 1 = .ok (.aload_n 0, 1) := by decide +kernel
theorem dX5_judgedBound_2 : decode cX5_judgedBound 2 = .ok (.getfield 29, 3) := by decide +kernel
theorem dX5_judgedBound_5 : decode cX5_judgedBound 5 = .ok (.iload_n 1, 1) := by decide +kernel
theorem dX5_judgedBound_6 : decode cX5_judgedBound 6 = .ok (.invokevirtual 50, 3) := by decide +kernel
theorem dX5_judgedBound_9 : decode cX5_judgedBound 9 = .ok (.invokevirtual 60, 3) := by decide +kernel
theorem dX5_judgedBound_12 : decode cX5_judgedBound 12 = .ok (.istore_n 3, 1) := by decide +kernel
theorem dX5_judgedBound_13 : decode cX5_judgedBound 13 = .ok (.aload_n 0, 1) := by decide +kernel
theorem dX5_judgedBound_14 : decode cX5_judgedBound 14 = .ok (.getfield 29, 3) := by decide +kernel
theorem dX5_judgedBound_17 : decode cX5_judgedBound 17 = .ok (.iload_n 1, 1) := by decide +kernel
theorem dX5_judgedBound_18 : decode cX5_judgedBound 18 = .ok (.invokevirtual 72, 3) := by decide +kernel
theorem dX5_judgedBound_21 : decode cX5_judgedBound 21 = .ok (.istore 4, 2) := by decide +kernel
theorem dX5_judgedBound_23 : decode cX5_judgedBound 23 = .ok (.aload_n 0, 1) := by decide +kernel
theorem dX5_judgedBound_24 : decode cX5_judgedBound 24 = .ok (.getfield 18, 3) := by decide +kernel
theorem dX5_judgedBound_27 : decode cX5_judgedBound 27 = .ok (.iload 4, 2) := by decide +kernel
theorem dX5_judgedBound_29 : decode cX5_judgedBound 29 = .ok (.invokestatic 36, 3) := by decide +kernel
theorem dX5_judgedBound_32 : decode cX5_judgedBound 32 = .ok (.istore 5, 2) := by decide +kernel
theorem dX5_judgedBound_34 : decode cX5_judgedBound 34 = .ok (.aload_n 0, 1) := by decide +kernel
theorem dX5_judgedBound_35 : decode cX5_judgedBound 35 = .ok (.invokevirtual 75, 3) := by decide +kernel
theorem dX5_judgedBound_38 : decode cX5_judgedBound 38 = .ok (.istore 6, 2) := by decide +kernel
theorem dX5_judgedBound_40 : decode cX5_judgedBound 40 = .ok (.iconst 0, 1) := by decide +kernel
theorem dX5_judgedBound_41 : decode cX5_judgedBound 41 = .ok (.istore 7, 2) := by decide +kernel
theorem dX5_judgedBound_43 : decode cX5_judgedBound 43 = .ok (.iconst 0, 1) := by decide +kernel
theorem dX5_judgedBound_44 : decode cX5_judgedBound 44 = .ok (.istore 8, 2) := by decide +kernel
theorem dX5_judgedBound_46 : decode cX5_judgedBound 46 = .ok (.iload 8, 2) := by decide +kernel
theorem dX5_judgedBound_48 : decode cX5_judgedBound 48 = .ok (.aload_n 0, 1) := by decide +kernel
theorem dX5_judgedBound_49 : decode cX5_judgedBound 49 = .ok (.getfield 25, 3) := by decide +kernel
theorem dX5_judgedBound_52 : decode cX5_judgedBound 52 = .ok (.iload_n 3, 1) := by decide +kernel
theorem dX5_judgedBound_53 : decode cX5_judgedBound 53 = .ok (.invokevirtual 79, 3) := by decide +kernel
theorem dX5_judgedBound_56 : decode cX5_judgedBound 56 = .ok (.if_icmp .ge 87, 3) := by decide +kernel
theorem dX5_judgedBound_59 : decode cX5_judgedBound 59 = .ok (.aload_n 0, 1) := by decide +kernel
theorem dX5_judgedBound_60 : decode cX5_judgedBound 60 = .ok (.getfield 18, 3) := by decide +kernel
theorem dX5_judgedBound_63 : decode cX5_judgedBound 63 = .ok (.iload 4, 2) := by decide +kernel
theorem dX5_judgedBound_65 : decode cX5_judgedBound 65 = .ok (.aload_n 0, 1) := by decide +kernel
theorem dX5_judgedBound_66 : decode cX5_judgedBound 66 = .ok (.getfield 25, 3) := by decide +kernel
theorem dX5_judgedBound_69 : decode cX5_judgedBound 69 = .ok (.iload_n 3, 1) := by decide +kernel
theorem dX5_judgedBound_70 : decode cX5_judgedBound 70 = .ok (.iload 8, 2) := by decide +kernel
theorem dX5_judgedBound_72 : decode cX5_judgedBound 72 = .ok (.invokevirtual 84, 3) := by decide +kernel
theorem dX5_judgedBound_75 : decode cX5_judgedBound 75 = .ok (.invokestatic 87, 3) := by decide +kernel
theorem dX5_judgedBound_78 : decode cX5_judgedBound 78 = .ok (.aload_n 0, 1) := by decide +kernel
theorem dX5_judgedBound_79 : decode cX5_judgedBound 79 = .ok (.aload_n 0, 1) := by decide +kernel
theorem dX5_judgedBound_80 : decode cX5_judgedBound 80 = .ok (.getfield 29, 3) := by decide +kernel
theorem dX5_judgedBound_83 : decode cX5_judgedBound 83 = .ok (.iload_n 1, 1) := by decide +kernel
theorem dX5_judgedBound_84 : decode cX5_judgedBound 84 = .ok (.invokevirtual 54, 3) := by decide +kernel
theorem dX5_judgedBound_87 : decode cX5_judgedBound 87 = .ok (.iload_n 2, 1) := by decide +kernel
theorem dX5_judgedBound_88 : decode cX5_judgedBound 88 = .ok (.iconst 1, 1) := by decide +kernel
theorem dX5_judgedBound_89 : decode cX5_judgedBound 89 = .ok (.iadd, 1) := by decide +kernel
theorem dX5_judgedBound_90 : decode cX5_judgedBound 90 = .ok (.invokevirtual 40, 3) := by decide +kernel
theorem dX5_judgedBound_93 : decode cX5_judgedBound 93 = .ok (.istore 9, 2) := by decide +kernel
theorem dX5_judgedBound_95 : decode cX5_judgedBound 95 = .ok (.iload 6, 2) := by decide +kernel
theorem dX5_judgedBound_97 : decode cX5_judgedBound 97 = .ok (.aload_n 0, 1) := by decide +kernel
theorem dX5_judgedBound_98 : decode cX5_judgedBound 98 = .ok (.aload_n 0, 1) := by decide +kernel
theorem dX5_judgedBound_99 : decode cX5_judgedBound 99 = .ok (.getfield 25, 3) := by decide +kernel
theorem dX5_judgedBound_102 : decode cX5_judgedBound 102 = .ok (.iload_n 3, 1) := by decide +kernel
theorem dX5_judgedBound_103 : decode cX5_judgedBound 103 = .ok (.iload 8, 2) := by decide +kernel
theorem dX5_judgedBound_105 : decode cX5_judgedBound 105 = .ok (.invokevirtual 91, 3) := by decide +kernel
theorem dX5_judgedBound_108 : decode cX5_judgedBound 108 = .ok (.iload 9, 2) := by decide +kernel
theorem dX5_judgedBound_110 : decode cX5_judgedBound 110 = .ok (.invokevirtual 94, 3) := by decide +kernel
theorem dX5_judgedBound_113 : decode cX5_judgedBound 113 = .ok (.iand, 1) := by decide +kernel
theorem dX5_judgedBound_114 : decode cX5_judgedBound 114 = .ok (.istore 6, 2) := by decide +kernel
theorem dX5_judgedBound_116 : decode cX5_judgedBound 116 = .ok (.iload 7, 2) := by decide +kernel
theorem dX5_judgedBound_118 : decode cX5_judgedBound 118 = .ok (.aload_n 0, 1) := by decide +kernel
theorem dX5_judgedBound_119 : decode cX5_judgedBound 119 = .ok (.aload_n 0, 1) := by decide +kernel
theorem dX5_judgedBound_120 : decode cX5_judgedBound 120 = .ok (.getfield 25, 3) := by decide +kernel
theorem dX5_judgedBound_123 : decode cX5_judgedBound 123 = .ok (.iload_n 3, 1) := by decide +kernel
theorem dX5_judgedBound_124 : decode cX5_judgedBound 124 = .ok (.iload 8, 2) := by decide +kernel
theorem dX5_judgedBound_126 : decode cX5_judgedBound 126 = .ok (.invokevirtual 91, 3) := by decide +kernel
theorem dX5_judgedBound_129 : decode cX5_judgedBound 129 = .ok (.iload 9, 2) := by decide +kernel
theorem dX5_judgedBound_131 : decode cX5_judgedBound 131 = .ok (.invokevirtual 97, 3) := by decide +kernel
theorem dX5_judgedBound_134 : decode cX5_judgedBound 134 = .ok (.ior, 1) := by decide +kernel
theorem dX5_judgedBound_135 : decode cX5_judgedBound 135 = .ok (.istore 7, 2) := by decide +kernel
theorem dX5_judgedBound_137 : decode cX5_judgedBound 137 = .ok (.iinc 8 1, 3) := by decide +kernel
theorem dX5_judgedBound_140 : decode cX5_judgedBound 140 = .ok (.goto (-94), 3) := by decide +kernel
theorem dX5_judgedBound_143 : decode cX5_judgedBound 143 = .ok (.aload_n 0, 1) := by decide +kernel
theorem dX5_judgedBound_144 : decode cX5_judgedBound 144 = .ok (.getfield 18, 3) := by decide +kernel
theorem dX5_judgedBound_147 : decode cX5_judgedBound 147 = .ok (.iload 4, 2) := by decide +kernel
theorem dX5_judgedBound_149 : decode cX5_judgedBound 149 = .ok (.iload 5, 2) := by decide +kernel
theorem dX5_judgedBound_151 : decode cX5_judgedBound 151 = .ok (.invokestatic 87, 3) := by decide +kernel
theorem dX5_judgedBound_154 : decode cX5_judgedBound 154 = .ok (.aload_n 0, 1) := by decide +kernel
theorem dX5_judgedBound_155 : decode cX5_judgedBound 155 = .ok (.getfield 29, 3) := by decide +kernel
theorem dX5_judgedBound_158 : decode cX5_judgedBound 158 = .ok (.iload_n 1, 1) := by decide +kernel
theorem dX5_judgedBound_159 : decode cX5_judgedBound 159 = .ok (.invokevirtual 57, 3) := by decide +kernel
theorem dX5_judgedBound_162 : decode cX5_judgedBound 162 = .ok (.bipush 65, 2) := by decide +kernel
theorem dX5_judgedBound_164 : decode cX5_judgedBound 164 = .ok (.if_icmp .ne 8, 3) := by decide +kernel
theorem dX5_judgedBound_167 : decode cX5_judgedBound 167 = .ok (.iload 6, 2) := by decide +kernel
theorem dX5_judgedBound_169 : decode cX5_judgedBound 169 = .ok (.goto 9, 3) := by decide +kernel
theorem dX5_judgedBound_172 : decode cX5_judgedBound 172 = .ok (.aload_n 0, 1) := by decide +kernel
theorem dX5_judgedBound_173 : decode cX5_judgedBound 173 = .ok (.iload 7, 2) := by decide +kernel
theorem dX5_judgedBound_175 : decode cX5_judgedBound 175 = .ok (.invokevirtual 63, 3) := by decide +kernel
theorem dX5_judgedBound_178 : decode cX5_judgedBound 178 = .ok (.ireturn, 1) := by decide +kernel
theorem dX5_named_0 : decode cX5_named 0 = .ok (.iload_n 1, 1) := by decide +kernel
theorem dX5_named_1 : decode cX5_named 1 = .ok (.invokestatic 100, 3) := by decide +kernel
theorem dX5_named_4 : decode cX5_named 4 = .ok (.ifCond .eq 17, 3) := by decide +kernel
theorem dX5_named_7 : decode cX5_named 7 = .ok (.aload_n 0, 1) := by decide +kernel
theorem dX5_named_8 : decode cX5_named 8 = .ok (.getfield 18, 3) := by decide +kernel
theorem dX5_named_11 : decode cX5_named 11 = .ok (.iload_n 1, 1) := by decide +kernel
theorem dX5_named_12 : decode cX5_named 12 = .ok (.bipush 100, 2) := by decide +kernel
theorem dX5_named_14 : decode cX5_named 14 = .ok (.isub, 1) := by decide +kernel
theorem dX5_named_15 : decode cX5_named 15 = .ok (.invokestatic 36, 3) := by decide +kernel
theorem dX5_named_18 : decode cX5_named 18 = .ok (.goto 4, 3) := by decide +kernel
theorem dX5_named_21 : decode cX5_named 21 = .ok (.iload_n 1, 1) := by decide +kernel
theorem dX5_named_22 : decode cX5_named 22 = .ok (.ireturn, 1) := by decide +kernel
theorem dX5_refresh_0 : decode cX5_refresh 0 = .ok (.aload_n 0, 1) := by decide +kernel
theorem dX5_refresh_1 : decode cX5_refresh 1 = .ok (.getfield 21, 3) := by decide +kernel
theorem dX5_refresh_4 : decode cX5_refresh 4 = .ok (.invokevirtual 103, 3) := by decide +kernel
theorem dX5_refresh_7 : decode cX5_refresh 7 = .ok (.aload_n 0, 1) := by decide +kernel
theorem dX5_refresh_8 : decode cX5_refresh 8 = .ok (.getfield 25, 3) := by decide +kernel
theorem dX5_refresh_11 : decode cX5_refresh 11 = .ok (.invokevirtual 108, 3) := by decide +kernel
theorem dX5_refresh_14 : decode cX5_refresh 14 = .ok (.iadd, 1) := by decide +kernel
theorem dX5_refresh_15 : decode cX5_refresh 15 = .ok (.istore_n 1, 1) := by decide +kernel
theorem dX5_refresh_16 : decode cX5_refresh 16 = .ok (.aload_n 0, 1) := by decide +kernel
theorem dX5_refresh_17 : decode cX5_refresh 17 = .ok (.getfield 109, 3) := by decide +kernel
theorem dX5_refresh_20 : decode cX5_refresh 20 = .ok (.iload_n 1, 1) := by decide +kernel
theorem dX5_refresh_21 : decode cX5_refresh 21 = .ok (.if_icmp .ne 4, 3) := by decide +kernel
theorem dX5_refresh_24 : decode cX5_refresh 24 = .ok (.return_, 1) := by decide +kernel
theorem dX5_refresh_25 : decode cX5_refresh 25 = .ok (.aload_n 0, 1) := by decide +kernel
theorem dX5_refresh_26 : decode cX5_refresh 26 = .ok (.iload_n 1, 1) := by decide +kernel
theorem dX5_refresh_27 : decode cX5_refresh 27 = .ok (.putfield 109, 3) := by decide +kernel
theorem dX5_refresh_30 : decode cX5_refresh 30 = .ok (.iconst 0, 1) := by decide +kernel
theorem dX5_refresh_31 : decode cX5_refresh 31 = .ok (.istore_n 2, 1) := by decide +kernel
theorem dX5_refresh_32 : decode cX5_refresh 32 = .ok (.iload_n 2, 1) := by decide +kernel
theorem dX5_refresh_33 : decode cX5_refresh 33 = .ok (.iconst 2, 1) := by decide +kernel
theorem dX5_refresh_34 : decode cX5_refresh 34 = .ok (.aload_n 0, 1) := by decide +kernel
theorem dX5_refresh_35 : decode cX5_refresh 35 = .ok (.getfield 25, 3) := by decide +kernel
theorem dX5_refresh_38 : decode cX5_refresh 38 = .ok (.invokevirtual 113, 3) := by decide +kernel
theorem dX5_refresh_41 : decode cX5_refresh 41 = .ok (.iconst 1, 1) := by decide +kernel
theorem dX5_refresh_42 : decode cX5_refresh 42 = .ok (.isub, 1) := by decide +kernel
theorem dX5_refresh_43 : decode cX5_refresh 43 = .ok (.imul, 1) := by decide +kernel
theorem dX5_refresh_44 : decode cX5_refresh 44 = .ok (.if_icmp .gt 102, 3) := by decide +kernel
theorem dX5_refresh_47 : decode cX5_refresh 47 = .ok (.iconst 0, 1) := by decide +kernel
theorem dX5_refresh_48 : decode cX5_refresh 48 = .ok (.iload_n 2, 1) := by decide +kernel
theorem dX5_refresh_49 : decode cX5_refresh 49 = .ok (.aload_n 0, 1) := by decide +kernel
theorem dX5_refresh_50 : decode cX5_refresh 50 = .ok (.getfield 25, 3) := by decide +kernel
theorem dX5_refresh_53 : decode cX5_refresh 53 = .ok (.invokevirtual 113, 3) := by decide +kernel
theorem dX5_refresh_56 : decode cX5_refresh 56 = .ok (.isub, 1) := by decide +kernel
theorem dX5_refresh_57 : decode cX5_refresh 57 = .ok (.iconst 1, 1) := by decide +kernel
theorem dX5_refresh_58 : decode cX5_refresh 58 = .ok (.iadd, 1) := by decide +kernel
theorem dX5_refresh_59 : decode cX5_refresh 59 = .ok (.invokestatic 116, 3) := by decide +kernel
theorem dX5_refresh_62 : decode cX5_refresh 62 = .ok (.istore_n 3, 1) := by decide +kernel
theorem dX5_refresh_63 : decode cX5_refresh 63 = .ok (.iload_n 3, 1) := by decide +kernel
theorem dX5_refresh_64 : decode cX5_refresh 64 = .ok (.aload_n 0, 1) := by decide +kernel
theorem dX5_refresh_65 : decode cX5_refresh 65 = .ok (.getfield 25, 3) := by decide +kernel
theorem dX5_refresh_68 : decode cX5_refresh 68 = .ok (.invokevirtual 113, 3) := by decide +kernel
theorem dX5_refresh_71 : decode cX5_refresh 71 = .ok (.if_icmp .ge 69, 3) := by decide +kernel
theorem dX5_refresh_74 : decode cX5_refresh 74 = .ok (.iload_n 3, 1) := by decide +kernel
theorem dX5_refresh_75 : decode cX5_refresh 75 = .ok (.iload_n 2, 1) := by decide +kernel
theorem dX5_refresh_76 : decode cX5_refresh 76 = .ok (.if_icmp .gt 64, 3) := by decide +kernel
theorem dX5_refresh_79 : decode cX5_refresh 79 = .ok (.aload_n 0, 1) := by decide +kernel
theorem dX5_refresh_80 : decode cX5_refresh 80 = .ok (.getfield 9, 3) := by decide +kernel
theorem dX5_refresh_83 : decode cX5_refresh 83 = .ok (.iload_n 3, 1) := by decide +kernel
theorem dX5_refresh_84 : decode cX5_refresh 84 = .ok (.bipush 12, 2) := by decide +kernel
theorem dX5_refresh_86 : decode cX5_refresh 86 = .ok (.imul, 1) := by decide +kernel
theorem dX5_refresh_87 : decode cX5_refresh 87 = .ok (.iload_n 2, 1) := by decide +kernel
theorem dX5_refresh_88 : decode cX5_refresh 88 = .ok (.iadd, 1) := by decide +kernel
theorem dX5_refresh_89 : decode cX5_refresh 89 = .ok (.iload_n 3, 1) := by decide +kernel
theorem dX5_refresh_90 : decode cX5_refresh 90 = .ok (.isub, 1) := by decide +kernel
theorem dX5_refresh_91 : decode cX5_refresh 91 = .ok (.aload_n 0, 1) := by decide +kernel
theorem dX5_refresh_92 : decode cX5_refresh 92 = .ok (.iload_n 3, 1) := by decide +kernel
theorem dX5_refresh_93 : decode cX5_refresh 93 = .ok (.iload_n 2, 1) := by decide +kernel
theorem dX5_refresh_94 : decode cX5_refresh 94 = .ok (.iload_n 3, 1) := by decide +kernel
theorem dX5_refresh_95 : decode cX5_refresh 95 = .ok (.isub, 1) := by decide +kernel
theorem dX5_refresh_96 : decode cX5_refresh 96 = .ok (.invokevirtual 121, 3) := by decide +kernel
theorem dX5_refresh_99 : decode cX5_refresh 99 = .ok (.aload_n 0, 1) := by decide +kernel
theorem dX5_refresh_100 : decode cX5_refresh 100 = .ok (.iload_n 2, 1) := by decide +kernel
theorem dX5_refresh_101 : decode cX5_refresh 101 = .ok (.iload_n 3, 1) := by decide +kernel
theorem dX5_refresh_102 : decode cX5_refresh 102 = .ok (.isub, 1) := by decide +kernel
theorem dX5_refresh_103 : decode cX5_refresh 103 = .ok (.iload_n 3, 1) := by decide +kernel
theorem dX5_refresh_104 : decode cX5_refresh 104 = .ok (.invokevirtual 121, 3) := by decide +kernel
theorem dX5_refresh_107 : decode cX5_refresh 107 = .ok (.iand, 1) := by decide +kernel
theorem dX5_refresh_108 : decode cX5_refresh 108 = .ok (.invokestatic 87, 3) := by decide +kernel
theorem dX5_refresh_111 : decode cX5_refresh 111 = .ok (.aload_n 0, 1) := by decide +kernel
theorem dX5_refresh_112 : decode cX5_refresh 112 = .ok (.getfield 15, 3) := by decide +kernel
theorem dX5_refresh_115 : decode cX5_refresh 115 = .ok (.iload_n 3, 1) := by decide +kernel
theorem dX5_refresh_116 : decode cX5_refresh 116 = .ok (.bipush 12, 2) := by decide +kernel
theorem dX5_refresh_118 : decode cX5_refresh 118 = .ok (.imul, 1) := by decide +kernel
theorem dX5_refresh_119 : decode cX5_refresh 119 = .ok (.iload_n 2, 1) := by decide +kernel
theorem dX5_refresh_120 : decode cX5_refresh 120 = .ok (.iadd, 1) := by decide +kernel
theorem dX5_refresh_121 : decode cX5_refresh 121 = .ok (.iload_n 3, 1) := by decide +kernel
theorem dX5_refresh_122 : decode cX5_refresh 122 = .ok (.isub, 1) := by decide +kernel
theorem dX5_refresh_123 : decode cX5_refresh 123 = .ok (.aload_n 0, 1) := by decide +kernel
theorem dX5_refresh_124 : decode cX5_refresh 124 = .ok (.iload_n 3, 1) := by decide +kernel
theorem dX5_refresh_125 : decode cX5_refresh 125 = .ok (.iload_n 2, 1) := by decide +kernel
theorem dX5_refresh_126 : decode cX5_refresh 126 = .ok (.iload_n 3, 1) := by decide +kernel
theorem dX5_refresh_127 : decode cX5_refresh 127 = .ok (.isub, 1) := by decide +kernel
theorem dX5_refresh_128 : decode cX5_refresh 128 = .ok (.invokevirtual 124, 3) := by decide +kernel
theorem dX5_refresh_131 : decode cX5_refresh 131 = .ok (.invokestatic 87, 3) := by decide +kernel
theorem dX5_refresh_134 : decode cX5_refresh 134 = .ok (.iinc 3 1, 3) := by decide +kernel
theorem dX5_refresh_137 : decode cX5_refresh 137 = .ok (.goto (-74), 3) := by decide +kernel
theorem dX5_refresh_140 : decode cX5_refresh 140 = .ok (.iinc 2 1, 3) := by decide +kernel
theorem dX5_refresh_143 : decode cX5_refresh 143 = .ok (.goto (-111), 3) := by decide +kernel
theorem dX5_refresh_146 : decode cX5_refresh 146 = .ok (.return_, 1) := by decide +kernel
theorem dX5_partly_0 : decode cX5_partly 0 = .ok (.aload_n 0, 1) := by decide +kernel
theorem dX5_partly_1 : decode cX5_partly 1 = .ok (.invokevirtual 75, 3) := by decide +kernel
theorem dX5_partly_4 : decode cX5_partly 4 = .ok (.istore_n 3, 1) := by decide +kernel
theorem dX5_partly_5 : decode cX5_partly 5 = .ok (.iconst 0, 1) := by decide +kernel
theorem dX5_partly_6 : decode cX5_partly 6 = .ok (.istore 4, 2) := by decide +kernel
theorem dX5_partly_8 : decode cX5_partly 8 = .ok (.iload 4, 2) := by decide +kernel
theorem dX5_partly_10 : decode cX5_partly 10 = .ok (.aload_n 0, 1) := by decide +kernel
theorem dX5_partly_11 : decode cX5_partly 11 = .ok (.getfield 25, 3) := by decide +kernel
theorem dX5_partly_14 : decode cX5_partly 14 = .ok (.iload_n 1, 1) := by decide +kernel
theorem dX5_partly_15 : decode cX5_partly 15 = .ok (.invokevirtual 79, 3) := by decide +kernel
theorem dX5_partly_18 : decode cX5_partly 18 = .ok (.if_icmp .ge 52, 3) := by decide +kernel
theorem dX5_partly_21 : decode cX5_partly 21 = .ok (.aload_n 0, 1) := by decide +kernel
theorem dX5_partly_22 : decode cX5_partly 22 = .ok (.getfield 15, 3) := by decide +kernel
theorem dX5_partly_25 : decode cX5_partly 25 = .ok (.aload_n 0, 1) := by decide +kernel
theorem dX5_partly_26 : decode cX5_partly 26 = .ok (.getfield 25, 3) := by decide +kernel
theorem dX5_partly_29 : decode cX5_partly 29 = .ok (.iload_n 1, 1) := by decide +kernel
theorem dX5_partly_30 : decode cX5_partly 30 = .ok (.iload 4, 2) := by decide +kernel
theorem dX5_partly_32 : decode cX5_partly 32 = .ok (.invokevirtual 84, 3) := by decide +kernel
theorem dX5_partly_35 : decode cX5_partly 35 = .ok (.bipush 12, 2) := by decide +kernel
theorem dX5_partly_37 : decode cX5_partly 37 = .ok (.imul, 1) := by decide +kernel
theorem dX5_partly_38 : decode cX5_partly 38 = .ok (.iload_n 2, 1) := by decide +kernel
theorem dX5_partly_39 : decode cX5_partly 39 = .ok (.iadd, 1) := by decide +kernel
theorem dX5_partly_40 : decode cX5_partly 40 = .ok (.invokestatic 36, 3) := by decide +kernel
theorem dX5_partly_43 : decode cX5_partly 43 = .ok (.istore 5, 2) := by decide +kernel
theorem dX5_partly_45 : decode cX5_partly 45 = .ok (.iload_n 3, 1) := by decide +kernel
theorem dX5_partly_46 : decode cX5_partly 46 = .ok (.aload_n 0, 1) := by decide +kernel
theorem dX5_partly_47 : decode cX5_partly 47 = .ok (.aload_n 0, 1) := by decide +kernel
theorem dX5_partly_48 : decode cX5_partly 48 = .ok (.getfield 25, 3) := by decide +kernel
theorem dX5_partly_51 : decode cX5_partly 51 = .ok (.iload_n 1, 1) := by decide +kernel
theorem dX5_partly_52 : decode cX5_partly 52 = .ok (.iload 4, 2) := by decide +kernel
theorem dX5_partly_54 : decode cX5_partly 54 = .ok (.invokevirtual 91, 3) := by decide +kernel
theorem dX5_partly_57 : decode cX5_partly 57 = .ok (.iload 5, 2) := by decide +kernel
theorem dX5_partly_59 : decode cX5_partly 59 = .ok (.invokevirtual 94, 3) := by decide +kernel
theorem dX5_partly_62 : decode cX5_partly 62 = .ok (.iand, 1) := by decide +kernel
theorem dX5_partly_63 : decode cX5_partly 63 = .ok (.istore_n 3, 1) := by decide +kernel
theorem dX5_partly_64 : decode cX5_partly 64 = .ok (.iinc 4 1, 3) := by decide +kernel
theorem dX5_partly_67 : decode cX5_partly 67 = .ok (.goto (-59), 3) := by decide +kernel
theorem dX5_partly_70 : decode cX5_partly 70 = .ok (.iload_n 3, 1) := by decide +kernel
theorem dX5_partly_71 : decode cX5_partly 71 = .ok (.ireturn, 1) := by decide +kernel
theorem dX5_contained_0 : decode cX5_contained 0 = .ok (.iconst 0, 1) := by decide +kernel
theorem dX5_contained_1 : decode cX5_contained 1 = .ok (.istore_n 3, 1) := by decide +kernel
theorem dX5_contained_2 : decode cX5_contained 2 = .ok (.iconst 0, 1) := by decide +kernel
theorem dX5_contained_3 : decode cX5_contained 3 = .ok (.istore 4, 2) := by decide +kernel
theorem dX5_contained_5 : decode cX5_contained 5 = .ok (.iload 4, 2) := by decide +kernel
theorem dX5_contained_7 : decode cX5_contained 7 = .ok (.aload_n 0, 1) := by decide +kernel
theorem dX5_contained_8 : decode cX5_contained 8 = .ok (.getfield 25, 3) := by decide +kernel
theorem dX5_contained_11 : decode cX5_contained 11 = .ok (.iload_n 2, 1) := by decide +kernel
theorem dX5_contained_12 : decode cX5_contained 12 = .ok (.invokevirtual 79, 3) := by decide +kernel
theorem dX5_contained_15 : decode cX5_contained 15 = .ok (.if_icmp .ge 52, 3) := by decide +kernel
theorem dX5_contained_18 : decode cX5_contained 18 = .ok (.aload_n 0, 1) := by decide +kernel
theorem dX5_contained_19 : decode cX5_contained 19 = .ok (.getfield 9, 3) := by decide +kernel
theorem dX5_contained_22 : decode cX5_contained 22 = .ok (.iload_n 1, 1) := by decide +kernel
theorem dX5_contained_23 : decode cX5_contained 23 = .ok (.bipush 12, 2) := by decide +kernel
theorem dX5_contained_25 : decode cX5_contained 25 = .ok (.imul, 1) := by decide +kernel
theorem dX5_contained_26 : decode cX5_contained 26 = .ok (.aload_n 0, 1) := by decide +kernel
theorem dX5_contained_27 : decode cX5_contained 27 = .ok (.getfield 25, 3) := by decide +kernel
theorem dX5_contained_30 : decode cX5_contained 30 = .ok (.iload_n 2, 1) := by decide +kernel
theorem dX5_contained_31 : decode cX5_contained 31 = .ok (.iload 4, 2) := by decide +kernel
theorem dX5_contained_33 : decode cX5_contained 33 = .ok (.invokevirtual 84, 3) := by decide +kernel
theorem dX5_contained_36 : decode cX5_contained 36 = .ok (.iadd, 1) := by decide +kernel
theorem dX5_contained_37 : decode cX5_contained 37 = .ok (.invokestatic 36, 3) := by decide +kernel
theorem dX5_contained_40 : decode cX5_contained 40 = .ok (.istore 5, 2) := by decide +kernel
theorem dX5_contained_42 : decode cX5_contained 42 = .ok (.iload_n 3, 1) := by decide +kernel
theorem dX5_contained_43 : decode cX5_contained 43 = .ok (.aload_n 0, 1) := by decide +kernel
theorem dX5_contained_44 : decode cX5_contained 44 = .ok (.aload_n 0, 1) := by decide +kernel
theorem dX5_contained_45 : decode cX5_contained 45 = .ok (.getfield 25, 3) := by decide +kernel
theorem dX5_contained_48 : decode cX5_contained 48 = .ok (.iload_n 2, 1) := by decide +kernel
theorem dX5_contained_49 : decode cX5_contained 49 = .ok (.iload 4, 2) := by decide +kernel
theorem dX5_contained_51 : decode cX5_contained 51 = .ok (.invokevirtual 91, 3) := by decide +kernel
theorem dX5_contained_54 : decode cX5_contained 54 = .ok (.iload 5, 2) := by decide +kernel
theorem dX5_contained_56 : decode cX5_contained 56 = .ok (.invokevirtual 97, 3) := by decide +kernel
theorem dX5_contained_59 : decode cX5_contained 59 = .ok (.ior, 1) := by decide +kernel
theorem dX5_contained_60 : decode cX5_contained 60 = .ok (.istore_n 3, 1) := by decide +kernel
theorem dX5_contained_61 : decode cX5_contained 61 = .ok (.iinc 4 1, 3) := by decide +kernel
theorem dX5_contained_64 : decode cX5_contained 64 = .ok (.goto (-59), 3) := by decide +kernel
theorem dX5_contained_67 : decode cX5_contained 67 = .ok (.aload_n 0, 1) := by decide +kernel
theorem dX5_contained_68 : decode cX5_contained 68 = .ok (.iload_n 3, 1) := by decide +kernel
theorem dX5_contained_69 : decode cX5_contained 69 = .ok (.invokevirtual 63, 3) := by decide +kernel
theorem dX5_contained_72 : decode cX5_contained 72 = .ok (.ireturn, 1) := by decide +kernel
theorem dX6_init_0 : decode cX6_init 0 = .ok (.aload_n 0, 1) := by decide +kernel
theorem dX6_init_1 : decode cX6_init 1 = .ok (.aload_n 1, 1) := by decide +kernel
theorem dX6_init_2 : decode cX6_init 2 = .ok (.aload_n 2, 1) := by decide +kernel
theorem dX6_init_3 : decode cX6_init 3 = .ok (.aload_n 3, 1) := by decide +kernel
theorem dX6_init_4 : decode cX6_init 4 = .ok (.invokespecial 1, 3) := by decide +kernel
theorem dX6_init_7 : decode cX6_init 7 = .ok (.return_, 1) := by decide +kernel
theorem dX6_whole_0 : decode cX6_whole 0 = .ok (.aload_n 0, 1) := by decide +kernel
theorem dX6_whole_1 : decode cX6_whole 1 = .ok (.getfield 7, 3) := by decide +kernel
theorem dX6_whole_4 : decode cX6_whole 4 = .ok (.invokevirtual 13, 3) := by decide +kernel
theorem dX6_whole_7 : decode cX6_whole 7 = .ok (.ireturn, 1) := by decide +kernel
theorem dX6_denied_0 : decode cX6_denied 0 = .ok (.aload_n 0, 1) := by decide +kernel
theorem dX6_denied_1 : decode cX6_denied 1 = .ok (.getfield 7, 3) := by decide +kernel
theorem dX6_denied_4 : decode cX6_denied 4 = .ok (.iload_n 1, 1) := by decide +kernel
theorem dX6_denied_5 : decode cX6_denied 5 = .ok (.invokevirtual 19, 3) := by decide +kernel
theorem dX6_denied_8 : decode cX6_denied 8 = .ok (.ireturn, 1) := by decide +kernel
theorem dX6_along_0 : decode cX6_along 0 = .ok (.aload_n 0, 1) := by decide +kernel
theorem dX6_along_1 : decode cX6_along 1 = .ok (.getfield 7, 3) := by decide +kernel
theorem dX6_along_4 : decode cX6_along 4 = .ok (.iload_n 1, 1) := by decide +kernel
theorem dX6_along_5 : decode cX6_along 5 = .ok (.invokevirtual 23, 3) := by decide +kernel
theorem dX6_along_8 : decode cX6_along 8 = .ok (.iload_n 2, 1) := by decide +kernel
theorem dX6_along_9 : decode cX6_along 9 = .ok (.iand, 1) := by decide +kernel
theorem dX6_along_10 : decode cX6_along 10 = .ok (.ireturn, 1) := by decide +kernel
theorem dX6_unless_0 : decode cX6_unless 0 = .ok (.iconst 0, 1) := by decide +kernel
theorem dX6_unless_1 : decode cX6_unless 1 = .ok (.istore_n 3, 1) := by decide +kernel
theorem dX6_unless_2 : decode cX6_unless 2 = .ok (.iconst 0, 1) := by decide +kernel
theorem dX6_unless_3 : decode cX6_unless 3 = .ok (.istore 4, 2) := by decide +kernel
theorem dX6_unless_5 : decode cX6_unless 5 = .ok (.iload 4, 2) := by decide +kernel
theorem dX6_unless_7 : decode cX6_unless 7 = .ok (.aload_n 0, 1) := by decide +kernel
theorem dX6_unless_8 : decode cX6_unless 8 = .ok (.getfield 7, 3) := by decide +kernel
theorem dX6_unless_11 : decode cX6_unless 11 = .ok (.invokevirtual 26, 3) := by decide +kernel
theorem dX6_unless_14 : decode cX6_unless 14 = .ok (.if_icmp .ge 41, 3) := by decide +kernel
theorem dX6_unless_17 : decode cX6_unless 17 = .ok (.aload_n 0, 1) := by decide +kernel
theorem dX6_unless_18 : decode cX6_unless 18 = .ok (.getfield 7, 3) := by decide +kernel
theorem dX6_unless_21 : decode cX6_unless 21 = .ok (.iload 4, 2) := by decide +kernel
theorem dX6_unless_23 : decode cX6_unless 23 = .ok (.invokevirtual 23, 3) := by decide +kernel
theorem dX6_unless_26 : decode cX6_unless 26 = .ok (.aload_n 0, 1) := by decide +kernel
theorem dX6_unless_27 : decode cX6_unless 27 = .ok (.getfield 7, 3) := by decide +kernel
theorem dX6_unless_30 : decode cX6_unless 30 = .ok (.iload_n 1, 1) := by decide +kernel
theorem dX6_unless_31 : decode cX6_unless 31 = .ok (.invokevirtual 23, 3) := by decide +kernel
theorem dX6_unless_34 : decode cX6_unless 34 = .ok (.iand, 1) := by decide +kernel
theorem dX6_unless_35 : decode cX6_unless 35 = .ok (.iload_n 2, 1) := by decide +kernel
theorem dX6_unless_36 : decode cX6_unless 36 = .ok (.invokestatic 29, 3) := by decide +kernel
theorem dX6_unless_39 : decode cX6_unless 39 = .ok (.ifCond .eq 10, 3) := by decide +kernel
theorem dX6_unless_42 : decode cX6_unless 42 = .ok (.iload_n 3, 1) := by decide +kernel
theorem dX6_unless_43 : decode cX6_unless 43 = .ok (.iconst 1, 1) := by decide +kernel
theorem dX6_unless_44 : decode cX6_unless 44 = .ok (.iload 4, 2) := by decide +kernel
theorem dX6_unless_46 : decode cX6_unless 46 = .ok (.ishl, 1) := by decide +kernel
theorem dX6_unless_47 : decode cX6_unless 47 = .ok (.ior, 1) := by decide +kernel
theorem dX6_unless_48 : decode cX6_unless 48 = .ok (.istore_n 3, 1) := by decide +kernel
theorem dX6_unless_49 : decode cX6_unless 49 = .ok (.iinc 4 1, 3) := by decide +kernel
theorem dX6_unless_52 : decode cX6_unless 52 = .ok (.goto (-47), 3) := by decide +kernel
theorem dX6_unless_55 : decode cX6_unless 55 = .ok (.iload_n 3, 1) := by decide +kernel
theorem dX6_unless_56 : decode cX6_unless 56 = .ok (.ireturn, 1) := by decide +kernel
theorem dX6_settled_0 : decode cX6_settled 0 = .ok (.iload_n 1, 1) := by decide +kernel
theorem dX6_settled_1 : decode cX6_settled 1 = .ok (.ireturn, 1) := by decide +kernel
theorem dX7_init_0 : decode cX7_init 0 = .ok (.aload_n 0, 1) := by decide +kernel
theorem dX7_init_1 : decode cX7_init 1 = .ok (.invokespecial 3, 3) := by decide +kernel
theorem dX7_init_4 : decode cX7_init 4 = .ok (.aload_n 0, 1) := by decide +kernel
theorem dX7_init_5 : decode cX7_init 5 = .ok (.bipush 12, 2) := by decide +kernel
theorem dX7_init_7 : decode cX7_init 7 = .ok (.newarray .int, 2) := by decide +kernel
theorem dX7_init_9 : decode cX7_init 9 = .ok (.putfield 9, 3) := by decide +kernel
theorem dX7_init_12 : decode cX7_init 12 = .ok (.aload_n 0, 1) := by decide +kernel
theorem dX7_init_13 : decode cX7_init 13 = .ok (.iconst 4, 1) := by decide +kernel
theorem dX7_init_14 : decode cX7_init 14 = .ok (.newarray .int, 2) := by decide +kernel
theorem dX7_init_16 : decode cX7_init 16 = .ok (.putfield 15, 3) := by decide +kernel
theorem dX7_init_19 : decode cX7_init 19 = .ok (.aload_n 0, 1) := by decide +kernel
theorem dX7_init_20 : decode cX7_init 20 = .ok (.aload_n 1, 1) := by decide +kernel
theorem dX7_init_21 : decode cX7_init 21 = .ok (.putfield 18, 3) := by decide +kernel
theorem dX7_init_24 : decode cX7_init 24 = .ok (.aload_n 0, 1) := by decide +kernel
theorem dX7_init_25 : decode cX7_init 25 = .ok (.aload_n 2, 1) := by decide +kernel
theorem dX7_init_26 : decode cX7_init 26 = .ok (.putfield 22, 3) := by decide +kernel
theorem dX7_init_29 : decode cX7_init 29 = .ok (.aload_n 0, 1) := by decide +kernel
theorem dX7_init_30 : decode cX7_init 30 = .ok (.aload_n 3, 1) := by decide +kernel
theorem dX7_init_31 : decode cX7_init 31 = .ok (.putfield 26, 3) := by decide +kernel
theorem dX7_init_34 : decode cX7_init 34 = .ok (.return_, 1) := by decide +kernel
theorem dX7_enter_0 : decode cX7_enter 0 = .ok (.iconst 0, 1) := by decide +kernel
theorem dX7_enter_1 : decode cX7_enter 1 = .ok (.istore_n 3, 1) := by decide +kernel
theorem dX7_enter_2 : decode cX7_enter 2 = .ok (.iload_n 3, 1) := by decide +kernel
theorem dX7_enter_3 : decode cX7_enter 3 = .ok (.aload_n 0, 1) := by decide +kernel
theorem dX7_enter_4 : decode cX7_enter 4 = .ok (.getfield 22, 3) := by decide +kernel
theorem dX7_enter_7 : decode cX7_enter 7 = .ok (.invokevirtual 30, 3) := by decide +kernel
theorem dX7_enter_10 : decode cX7_enter 10 = .ok (.if_icmp .ge 106, 3) := by decide +kernel
theorem dX7_enter_13 : decode cX7_enter 13 = .ok (.iconst 0, 1) := by decide +kernel
theorem dX7_enter_14 : decode cX7_enter 14 = .ok (.istore 4, 2) := by decide +kernel
theorem dX7_enter_16 : decode cX7_enter 16 = .ok (.iconst 0, 1) := by decide +kernel
theorem dX7_enter_17 : decode cX7_enter 17 = .ok (.istore 5, 2) := by decide +kernel
theorem dX7_enter_19 : decode cX7_enter 19 = .ok (.iload 5, 2) := by decide +kernel
theorem dX7_enter_21 : decode cX7_enter 21 = .ok (.aload_n 0, 1) := by decide +kernel
theorem dX7_enter_22 : decode cX7_enter 22 = .ok (.getfield 22, 3) := by decide +kernel
theorem dX7_enter_25 : decode cX7_enter 25 = .ok (.iload_n 3, 1) := by decide +kernel
theorem dX7_enter_26 : decode cX7_enter 26 = .ok (.invokevirtual 36, 3) := by decide +kernel
theorem dX7_enter_29 : decode cX7_enter 29 = .ok (.if_icmp .ge 71, 3) := by decide +kernel
theorem dX7_enter_32 : decode cX7_enter 32 = .ok (.aload_n 0, 1) := by decide +kernel
theorem dX7_enter_33 : decode cX7_enter 33 = .ok (.getfield 22, 3) := by decide +kernel
theorem dX7_enter_36 : decode cX7_enter 36 = .ok (.iload_n 3, 1) := by decide +kernel
theorem dX7_enter_37 : decode cX7_enter 37 = .ok (.iload 5, 2) := by decide +kernel
theorem dX7_enter_39 : decode cX7_enter 39 = .ok (.invokevirtual 40, 3) := by decide +kernel
theorem dX7_enter_42 : decode cX7_enter 42 = .ok (.istore 6, 2) := by decide +kernel
theorem dX7_enter_44 : decode cX7_enter 44 = .ok (.aload_n 0, 1) := by decide +kernel
theorem dX7_enter_45 : decode cX7_enter 45 = .ok (.getfield 18, 3) := by decide +kernel
theorem dX7_enter_48 : decode cX7_enter 48 = .ok (.iload_n 1, 1) := by decide +kernel
theorem dX7_enter_49 : decode cX7_enter 49 = .ok (.iload_n 2, 1) := by decide +kernel
theorem dX7_enter_50 : decode cX7_enter 50 = .ok (.ifCond .eq 15, 3) := by decide +kernel
theorem dX7_enter_53 : decode cX7_enter 53 = .ok (.aload_n 0, 1) := by decide +kernel
theorem dX7_enter_54 : decode cX7_enter 54 = .ok (.getfield 18, 3) := by decide +kernel
theorem dX7_enter_57 : decode cX7_enter 57 = .ok (.iload 6, 2) := by decide +kernel
theorem dX7_enter_59 : decode cX7_enter 59 = .ok (.invokevirtual 44, 3) := by decide +kernel
theorem dX7_enter_62 : decode cX7_enter 62 = .ok (.goto 5, 3) := by decide +kernel
theorem dX7_enter_65 : decode cX7_enter 65 = .ok (.iload 6, 2) := by decide +kernel
theorem dX7_enter_67 : decode cX7_enter 67 = .ok (.invokevirtual 49, 3) := by decide +kernel
theorem dX7_enter_70 : decode cX7_enter 70 = .ok (.ifCond .eq 24, 3) := by decide +kernel
theorem dX7_enter_73 : decode cX7_enter 73 = .ok (.iload 4, 2) := by decide +kernel
theorem dX7_enter_75 : decode cX7_enter 75 = .ok (.iconst 1, 1) := by decide +kernel
theorem dX7_enter_76 : decode cX7_enter 76 = .ok (.aload_n 0, 1) := by decide +kernel
theorem dX7_enter_77 : decode cX7_enter 77 = .ok (.aload_n 0, 1) := by decide +kernel
theorem dX7_enter_78 : decode cX7_enter 78 = .ok (.getfield 22, 3) := by decide +kernel
theorem dX7_enter_81 : decode cX7_enter 81 = .ok (.iload_n 3, 1) := by decide +kernel
theorem dX7_enter_82 : decode cX7_enter 82 = .ok (.iload 5, 2) := by decide +kernel
theorem dX7_enter_84 : decode cX7_enter 84 = .ok (.invokevirtual 53, 3) := by decide +kernel
theorem dX7_enter_87 : decode cX7_enter 87 = .ok (.invokevirtual 56, 3) := by decide +kernel
theorem dX7_enter_90 : decode cX7_enter 90 = .ok (.ishl, 1) := by decide +kernel
theorem dX7_enter_91 : decode cX7_enter 91 = .ok (.ior, 1) := by decide +kernel
theorem dX7_enter_92 : decode cX7_enter 92 = .ok (.istore 4, 2) := by decide +kernel
theorem dX7_enter_94 : decode cX7_enter 94 = .ok (.iinc 5 1, 3) := by decide +kernel
theorem dX7_enter_97 : decode cX7_enter 97 = .ok (.goto (-78), 3) := by decide +kernel
theorem dX7_enter_100 : decode cX7_enter 100 = .ok (.aload_n 0, 1) := by decide +kernel
theorem dX7_enter_101 : decode cX7_enter 101 = .ok (.getfield 9, 3) := by decide +kernel
theorem dX7_enter_104 : decode cX7_enter 104 = .ok (.iload_n 3, 1) := by decide +kernel
theorem dX7_enter_105 : decode cX7_enter 105 = .ok (.iload 4, 2) := by decide +kernel
theorem dX7_enter_107 : decode cX7_enter 107 = .ok (.invokestatic 59, 3) := by decide +kernel
theorem dX7_enter_110 : decode cX7_enter 110 = .ok (.iinc 3 1, 3) := by decide +kernel
theorem dX7_enter_113 : decode cX7_enter 113 = .ok (.goto (-111), 3) := by decide +kernel
theorem dX7_enter_116 : decode cX7_enter 116 = .ok (.return_, 1) := by decide +kernel
theorem dX7_codeOf_0 : decode cX7_codeOf 0 = .ok (.aload_n 0, 1) := by decide +kernel
theorem dX7_codeOf_1 : decode cX7_codeOf 1 = .ok (.getfield 9, 3) := by decide +kernel
theorem dX7_codeOf_4 : decode cX7_codeOf 4 = .ok (.iload_n 1, 1) := by decide +kernel
theorem dX7_codeOf_5 : decode cX7_codeOf 5 = .ok (.invokestatic 63, 3) := by decide +kernel
theorem dX7_codeOf_8 : decode cX7_codeOf 8 = .ok (.ireturn, 1) := by decide +kernel
theorem dX7_agrees_0 : decode cX7_agrees 0 = .ok (.aload_n 0, 1) := by decide +kernel
theorem dX7_agrees_1 : decode cX7_agrees 1 = .ok (.iload_n 1, 1) := by decide +kernel
theorem dX7_agrees_2 : decode cX7_agrees 2 = .ok (.iconst 1, 1) := by decide +kernel
theorem dX7_agrees_3 : decode cX7_agrees 3 = .ok (.invokevirtual 67, 3) := by decide +kernel
theorem dX7_agrees_6 : decode cX7_agrees 6 = .ok (.ireturn, 1) := by decide +kernel
theorem dX7_worldsOf_0 : decode cX7_worldsOf 0 = .ok (.aload_n 0, 1) := by decide +kernel
theorem dX7_worldsOf_1 : decode cX7_worldsOf 1 = .ok (.getfield 18, 3) := by decide +kernel
theorem dX7_worldsOf_4 : decode cX7_worldsOf 4 = .ok (.invokevirtual 70, 3) := by decide +kernel
theorem dX7_worldsOf_7 : decode cX7_worldsOf 7 = .ok (.istore_n 2, 1) := by decide +kernel
theorem dX7_worldsOf_8 : decode cX7_worldsOf 8 = .ok (.iconst 0, 1) := by decide +kernel
theorem dX7_worldsOf_9 : decode cX7_worldsOf 9 = .ok (.istore_n 3, 1) := by decide +kernel
theorem dX7_worldsOf_10 : decode cX7_worldsOf 10 = .ok (.iconst 0, 1) := by decide +kernel
theorem dX7_worldsOf_11 : decode cX7_worldsOf 11 = .ok (.istore 4, 2) := by decide +kernel
theorem dX7_worldsOf_13 : decode cX7_worldsOf 13 = .ok (.iload 4, 2) := by decide +kernel
theorem dX7_worldsOf_15 : decode cX7_worldsOf 15 = .ok (.aload_n 0, 1) := by decide +kernel
theorem dX7_worldsOf_16 : decode cX7_worldsOf 16 = .ok (.getfield 18, 3) := by decide +kernel
theorem dX7_worldsOf_19 : decode cX7_worldsOf 19 = .ok (.invokevirtual 73, 3) := by decide +kernel
theorem dX7_worldsOf_22 : decode cX7_worldsOf 22 = .ok (.if_icmp .ge 44, 3) := by decide +kernel
theorem dX7_worldsOf_25 : decode cX7_worldsOf 25 = .ok (.iload_n 2, 1) := by decide +kernel
theorem dX7_worldsOf_26 : decode cX7_worldsOf 26 = .ok (.iload 4, 2) := by decide +kernel
theorem dX7_worldsOf_28 : decode cX7_worldsOf 28 = .ok (.invokestatic 74, 3) := by decide +kernel
theorem dX7_worldsOf_31 : decode cX7_worldsOf 31 = .ok (.ifCond .eq 29, 3) := by decide +kernel
theorem dX7_worldsOf_34 : decode cX7_worldsOf 34 = .ok (.aload_n 0, 1) := by decide +kernel
theorem dX7_worldsOf_35 : decode cX7_worldsOf 35 = .ok (.iload 4, 2) := by decide +kernel
theorem dX7_worldsOf_37 : decode cX7_worldsOf 37 = .ok (.iconst 0, 1) := by decide +kernel
theorem dX7_worldsOf_38 : decode cX7_worldsOf 38 = .ok (.invokevirtual 77, 3) := by decide +kernel
theorem dX7_worldsOf_41 : decode cX7_worldsOf 41 = .ok (.iload_n 3, 1) := by decide +kernel
theorem dX7_worldsOf_42 : decode cX7_worldsOf 42 = .ok (.aload_n 0, 1) := by decide +kernel
theorem dX7_worldsOf_43 : decode cX7_worldsOf 43 = .ok (.iload_n 1, 1) := by decide +kernel
theorem dX7_worldsOf_44 : decode cX7_worldsOf 44 = .ok (.invokevirtual 81, 3) := by decide +kernel
theorem dX7_worldsOf_47 : decode cX7_worldsOf 47 = .ok (.ifCond .eq 10, 3) := by decide +kernel
theorem dX7_worldsOf_50 : decode cX7_worldsOf 50 = .ok (.iconst 1, 1) := by decide +kernel
theorem dX7_worldsOf_51 : decode cX7_worldsOf 51 = .ok (.iload 4, 2) := by decide +kernel
theorem dX7_worldsOf_53 : decode cX7_worldsOf 53 = .ok (.ishl, 1) := by decide +kernel
theorem dX7_worldsOf_54 : decode cX7_worldsOf 54 = .ok (.goto 4, 3) := by decide +kernel
theorem dX7_worldsOf_57 : decode cX7_worldsOf 57 = .ok (.iconst 0, 1) := by decide +kernel
theorem dX7_worldsOf_58 : decode cX7_worldsOf 58 = .ok (.ior, 1) := by decide +kernel
theorem dX7_worldsOf_59 : decode cX7_worldsOf 59 = .ok (.istore_n 3, 1) := by decide +kernel
theorem dX7_worldsOf_60 : decode cX7_worldsOf 60 = .ok (.iinc 4 1, 3) := by decide +kernel
theorem dX7_worldsOf_63 : decode cX7_worldsOf 63 = .ok (.goto (-50), 3) := by decide +kernel
theorem dX7_worldsOf_66 : decode cX7_worldsOf 66 = .ok (.iload_n 3, 1) := by decide +kernel
theorem dX7_worldsOf_67 : decode cX7_worldsOf 67 = .ok (.ireturn, 1) := by decide +kernel
theorem dX7_isSo_0 : decode cX7_isSo 0 = .ok (.iload_n 2, 1) := by decide +kernel
theorem dX7_isSo_1 : decode cX7_isSo 1 = .ok (.iconst 5, 1) := by decide +kernel
theorem dX7_isSo_2 : decode cX7_isSo 2 = .ok (.if_icmp .gt 14, 3) := by decide +kernel
theorem dX7_isSo_5 : decode cX7_isSo 5 = .ok (.aload_n 0, 1) := by decide +kernel
theorem dX7_isSo_6 : decode cX7_isSo 6 = .ok (.getfield 26, 3) := by decide +kernel
theorem dX7_isSo_9 : decode cX7_isSo 9 = .ok (.iload_n 1, 1) := by decide +kernel
theorem dX7_isSo_10 : decode cX7_isSo 10 = .ok (.invokevirtual 85, 3) := by decide +kernel
theorem dX7_isSo_13 : decode cX7_isSo 13 = .ok (.ifCond .ne 5, 3) := by decide +kernel
theorem dX7_isSo_16 : decode cX7_isSo 16 = .ok (.iconst 0, 1) := by decide +kernel
theorem dX7_isSo_17 : decode cX7_isSo 17 = .ok (.ireturn, 1) := by decide +kernel
theorem dX7_isSo_18 : decode cX7_isSo 18 = .ok (.aload_n 0, 1) := by decide +kernel
theorem dX7_isSo_19 : decode cX7_isSo 19 = .ok (.getfield 26, 3) := by decide +kernel
theorem dX7_isSo_22 : decode cX7_isSo 22 = .ok (.iload_n 1, 1) := by decide +kernel
theorem dX7_isSo_23 : decode cX7_isSo 23 = .ok (.invokevirtual 90, 3) := by decide +kernel
theorem dX7_isSo_26 : decode cX7_isSo 26 = .ok (.istore_n 3, 1) := by decide +kernel
theorem dX7_isSo_27 : decode cX7_isSo 27 = .ok (.aload_n 0, 1) := by decide +kernel
theorem dX7_isSo_28 : decode cX7_isSo 28 = .ok (.getfield 26, 3) := by decide +kernel
theorem dX7_isSo_31 : decode cX7_isSo 31 = .ok (.iload_n 1, 1) := by decide +kernel
theorem dX7_isSo_32 : decode cX7_isSo 32 = .ok (.invokevirtual 93, 3) := by decide +kernel
theorem dX7_isSo_35 : decode cX7_isSo 35 = .ok (.istore 4, 2) := by decide +kernel
theorem dX7_isSo_37 : decode cX7_isSo 37 = .ok (.aload_n 0, 1) := by decide +kernel
theorem dX7_isSo_38 : decode cX7_isSo 38 = .ok (.getfield 26, 3) := by decide +kernel
theorem dX7_isSo_41 : decode cX7_isSo 41 = .ok (.iload_n 1, 1) := by decide +kernel
theorem dX7_isSo_42 : decode cX7_isSo 42 = .ok (.invokevirtual 96, 3) := by decide +kernel
theorem dX7_isSo_45 : decode cX7_isSo 45 = .ok (.lookupswitch 161 #[(61, 66), (97, 86), (101, 51), (110, 144), (111, 115)], 51) := by decide +kernel
theorem dX7_isSo_96 : decode cX7_isSo 96 = .ok (.aload_n 0, 1) := by decide +kernel
theorem dX7_isSo_97 : decode cX7_isSo 97 = .ok (.iload 4, 2) := by decide +kernel
theorem dX7_isSo_99 : decode cX7_isSo 99 = .ok (.invokevirtual 99, 3) := by decide +kernel
theorem dX7_isSo_102 : decode cX7_isSo 102 = .ok (.aload_n 0, 1) := by decide +kernel
theorem dX7_isSo_103 : decode cX7_isSo 103 = .ok (.iload_n 3, 1) := by decide +kernel
theorem dX7_isSo_104 : decode cX7_isSo 104 = .ok (.invokevirtual 99, 3) := by decide +kernel
theorem dX7_isSo_107 : decode cX7_isSo 107 = .ok (.invokestatic 74, 3) := by decide +kernel
theorem dX7_isSo_110 : decode cX7_isSo 110 = .ok (.ireturn, 1) := by decide +kernel
theorem dX7_isSo_111 : decode cX7_isSo 111 = .ok (.aload_n 0, 1) := by decide +kernel
theorem dX7_isSo_112 : decode cX7_isSo 112 = .ok (.iload_n 3, 1) := by decide +kernel
theorem dX7_isSo_113 : decode cX7_isSo 113 = .ok (.invokevirtual 99, 3) := by decide +kernel
theorem dX7_isSo_116 : decode cX7_isSo 116 = .ok (.aload_n 0, 1) := by decide +kernel
theorem dX7_isSo_117 : decode cX7_isSo 117 = .ok (.iload 4, 2) := by decide +kernel
theorem dX7_isSo_119 : decode cX7_isSo 119 = .ok (.invokevirtual 99, 3) := by decide +kernel
theorem dX7_isSo_122 : decode cX7_isSo 122 = .ok (.if_icmp .ne 7, 3) := by decide +kernel
theorem dX7_isSo_125 : decode cX7_isSo 125 = .ok (.iconst 1, 1) := by decide +kernel
theorem dX7_isSo_126 : decode cX7_isSo 126 = .ok (.goto 4, 3) := by decide +kernel
theorem dX7_isSo_129 : decode cX7_isSo 129 = .ok (.iconst 0, 1) := by decide +kernel
theorem dX7_isSo_130 : decode cX7_isSo 130 = .ok (.ireturn, 1) := by decide +kernel
theorem dX7_isSo_131 : decode cX7_isSo 131 = .ok (.aload_n 0, 1) := by decide +kernel
theorem dX7_isSo_132 : decode cX7_isSo 132 = .ok (.iload_n 3, 1) := by decide +kernel
theorem dX7_isSo_133 : decode cX7_isSo 133 = .ok (.iload_n 2, 1) := by decide +kernel
theorem dX7_isSo_134 : decode cX7_isSo 134 = .ok (.iconst 1, 1) := by decide +kernel
theorem dX7_isSo_135 : decode cX7_isSo 135 = .ok (.iadd, 1) := by decide +kernel
theorem dX7_isSo_136 : decode cX7_isSo 136 = .ok (.invokevirtual 67, 3) := by decide +kernel
theorem dX7_isSo_139 : decode cX7_isSo 139 = .ok (.ifCond .eq 19, 3) := by decide +kernel
theorem dX7_isSo_142 : decode cX7_isSo 142 = .ok (.aload_n 0, 1) := by decide +kernel
theorem dX7_isSo_143 : decode cX7_isSo 143 = .ok (.iload 4, 2) := by decide +kernel
theorem dX7_isSo_145 : decode cX7_isSo 145 = .ok (.iload_n 2, 1) := by decide +kernel
theorem dX7_isSo_146 : decode cX7_isSo 146 = .ok (.iconst 1, 1) := by decide +kernel
theorem dX7_isSo_147 : decode cX7_isSo 147 = .ok (.iadd, 1) := by decide +kernel
theorem dX7_isSo_148 : decode cX7_isSo 148 = .ok (.invokevirtual 67, 3) := by decide +kernel
theorem dX7_isSo_151 : decode cX7_isSo 151 = .ok (.ifCond .eq 7, 3) := by decide +kernel
theorem dX7_isSo_154 : decode cX7_isSo 154 = .ok (.iconst 1, 1) := by decide +kernel
theorem dX7_isSo_155 : decode cX7_isSo 155 = .ok (.goto 4, 3) := by decide +kernel
theorem dX7_isSo_158 : decode cX7_isSo 158 = .ok (.iconst 0, 1) := by decide +kernel
theorem dX7_isSo_159 : decode cX7_isSo 159 = .ok (.ireturn, 1) := by decide +kernel
theorem dX7_isSo_160 : decode cX7_isSo 160 = .ok (.aload_n 0, 1) := by decide +kernel
theorem dX7_isSo_161 : decode cX7_isSo 161 = .ok (.iload_n 3, 1) := by decide +kernel
theorem dX7_isSo_162 : decode cX7_isSo 162 = .ok (.iload_n 2, 1) := by decide +kernel
theorem dX7_isSo_163 : decode cX7_isSo 163 = .ok (.iconst 1, 1) := by decide +kernel
theorem dX7_isSo_164 : decode cX7_isSo 164 = .ok (.iadd, 1) := by decide +kernel
theorem dX7_isSo_165 : decode cX7_isSo 165 = .ok (.invokevirtual 67, 3) := by decide +kernel
theorem dX7_isSo_168 : decode cX7_isSo 168 = .ok (.ifCond .ne 15, 3) := by decide +kernel
theorem dX7_isSo_171 : decode cX7_isSo 171 = .ok (.aload_n 0, 1) := by decide +kernel
theorem dX7_isSo_172 : decode cX7_isSo 172 = .ok (.iload 4, 2) := by decide +kernel
theorem dX7_isSo_174 : decode cX7_isSo 174 = .ok (.iload_n 2, 1) := by decide +kernel
theorem dX7_isSo_175 : decode cX7_isSo 175 = .ok (.iconst 1, 1) := by decide +kernel
theorem dX7_isSo_176 : decode cX7_isSo 176 = .ok (.iadd, 1) := by decide +kernel
theorem dX7_isSo_177 : decode cX7_isSo 177 = .ok (.invokevirtual 67, 3) := by decide +kernel
theorem dX7_isSo_180 : decode cX7_isSo 180 = .ok (.ifCond .eq 7, 3) := by decide +kernel
theorem dX7_isSo_183 : decode cX7_isSo 183 = .ok (.iconst 1, 1) := by decide +kernel
theorem dX7_isSo_184 : decode cX7_isSo 184 = .ok (.goto 4, 3) := by decide +kernel
theorem dX7_isSo_187 : decode cX7_isSo 187 = .ok (.iconst 0, 1) := by decide +kernel
theorem dX7_isSo_188 : decode cX7_isSo 188 = .ok (.ireturn, 1) := by decide +kernel
theorem dX7_isSo_189 : decode cX7_isSo 189 = .ok (.aload_n 0, 1) := by decide +kernel
theorem dX7_isSo_190 : decode cX7_isSo 190 = .ok (.iload_n 3, 1) := by decide +kernel
theorem dX7_isSo_191 : decode cX7_isSo 191 = .ok (.iload_n 2, 1) := by decide +kernel
theorem dX7_isSo_192 : decode cX7_isSo 192 = .ok (.iconst 1, 1) := by decide +kernel
theorem dX7_isSo_193 : decode cX7_isSo 193 = .ok (.iadd, 1) := by decide +kernel
theorem dX7_isSo_194 : decode cX7_isSo 194 = .ok (.invokevirtual 67, 3) := by decide +kernel
theorem dX7_isSo_197 : decode cX7_isSo 197 = .ok (.ifCond .ne 7, 3) := by decide +kernel
theorem dX7_isSo_200 : decode cX7_isSo 200 = .ok (.iconst 1, 1) := by decide +kernel
theorem dX7_isSo_201 : decode cX7_isSo 201 = .ok (.goto 4, 3) := by decide +kernel
theorem dX7_isSo_204 : decode cX7_isSo 204 = .ok (.iconst 0, 1) := by decide +kernel
theorem dX7_isSo_205 : decode cX7_isSo 205 = .ok (.ireturn, 1) := by decide +kernel
theorem dX7_isSo_206 : decode cX7_isSo 206 = .ok (.aload_n 0, 1) := by decide +kernel
theorem dX7_isSo_207 : decode cX7_isSo 207 = .ok (.iload_n 1, 1) := by decide +kernel
theorem dX7_isSo_208 : decode cX7_isSo 208 = .ok (.iload_n 2, 1) := by decide +kernel
theorem dX7_isSo_209 : decode cX7_isSo 209 = .ok (.invokevirtual 102, 3) := by decide +kernel
theorem dX7_isSo_212 : decode cX7_isSo 212 = .ok (.ireturn, 1) := by decide +kernel
theorem dX7_isBoundSo_0 : decode cX7_isBoundSo 0 = .ok (.aload_n 0, 1) := by decide +kernel
theorem dX7_isBoundSo_1 : decode cX7_isBoundSo 1 = .ok (.aload_n 0, 1) := by decide +kernel
theorem dX7_isBoundSo_2 : decode cX7_isBoundSo 2 = .ok (.getfield 26, 3) := by decide +kernel
theorem dX7_isBoundSo_5 : decode cX7_isBoundSo 5 = .ok (.iload_n 1, 1) := by decide +kernel
theorem dX7_isBoundSo_6 : decode cX7_isBoundSo 6 = .ok (.invokevirtual 90, 3) := by decide +kernel
theorem dX7_isBoundSo_9 : decode cX7_isBoundSo 9 = .ok (.invokevirtual 99, 3) := by decide +kernel
theorem dX7_isBoundSo_12 : decode cX7_isBoundSo 12 = .ok (.istore_n 3, 1) := by decide +kernel
theorem dX7_isBoundSo_13 : decode cX7_isBoundSo 13 = .ok (.aload_n 0, 1) := by decide +kernel
theorem dX7_isBoundSo_14 : decode cX7_isBoundSo 14 = .ok (.getfield 26, 3) := by decide +kernel
theorem dX7_isBoundSo_17 : decode cX7_isBoundSo 17 = .ok (.iload_n 1, 1) := by decide +kernel
theorem dX7_isBoundSo_18 : decode cX7_isBoundSo 18 = .ok (.invokevirtual 105, 3) := by decide +kernel
theorem dX7_isBoundSo_21 : decode cX7_isBoundSo 21 = .ok (.istore 4, 2) := by decide +kernel
theorem dX7_isBoundSo_23 : decode cX7_isBoundSo 23 = .ok (.aload_n 0, 1) := by decide +kernel
theorem dX7_isBoundSo_24 : decode cX7_isBoundSo 24 = .ok (.getfield 15, 3) := by decide +kernel
theorem dX7_isBoundSo_27 : decode cX7_isBoundSo 27 = .ok (.iload 4, 2) := by decide +kernel
theorem dX7_isBoundSo_29 : decode cX7_isBoundSo 29 = .ok (.invokestatic 63, 3) := by decide +kernel
theorem dX7_isBoundSo_32 : decode cX7_isBoundSo 32 = .ok (.istore 5, 2) := by decide +kernel
theorem dX7_isBoundSo_34 : decode cX7_isBoundSo 34 = .ok (.aload_n 0, 1) := by decide +kernel
theorem dX7_isBoundSo_35 : decode cX7_isBoundSo 35 = .ok (.getfield 26, 3) := by decide +kernel
theorem dX7_isBoundSo_38 : decode cX7_isBoundSo 38 = .ok (.iload_n 1, 1) := by decide +kernel
theorem dX7_isBoundSo_39 : decode cX7_isBoundSo 39 = .ok (.invokevirtual 96, 3) := by decide +kernel
theorem dX7_isBoundSo_42 : decode cX7_isBoundSo 42 = .ok (.bipush 65, 2) := by decide +kernel
theorem dX7_isBoundSo_44 : decode cX7_isBoundSo 44 = .ok (.if_icmp .ne 7, 3) := by decide +kernel
theorem dX7_isBoundSo_47 : decode cX7_isBoundSo 47 = .ok (.iconst 1, 1) := by decide +kernel
theorem dX7_isBoundSo_48 : decode cX7_isBoundSo 48 = .ok (.goto 4, 3) := by decide +kernel
theorem dX7_isBoundSo_51 : decode cX7_isBoundSo 51 = .ok (.iconst 0, 1) := by decide +kernel
theorem dX7_isBoundSo_52 : decode cX7_isBoundSo 52 = .ok (.istore 6, 2) := by decide +kernel
theorem dX7_isBoundSo_54 : decode cX7_isBoundSo 54 = .ok (.iload 6, 2) := by decide +kernel
theorem dX7_isBoundSo_56 : decode cX7_isBoundSo 56 = .ok (.istore 7, 2) := by decide +kernel
theorem dX7_isBoundSo_58 : decode cX7_isBoundSo 58 = .ok (.iconst 0, 1) := by decide +kernel
theorem dX7_isBoundSo_59 : decode cX7_isBoundSo 59 = .ok (.istore 8, 2) := by decide +kernel
theorem dX7_isBoundSo_61 : decode cX7_isBoundSo 61 = .ok (.iload 8, 2) := by decide +kernel
theorem dX7_isBoundSo_63 : decode cX7_isBoundSo 63 = .ok (.bipush 16, 2) := by decide +kernel
theorem dX7_isBoundSo_65 : decode cX7_isBoundSo 65 = .ok (.if_icmp .ge 53, 3) := by decide +kernel
theorem dX7_isBoundSo_68 : decode cX7_isBoundSo 68 = .ok (.iload 7, 2) := by decide +kernel
theorem dX7_isBoundSo_70 : decode cX7_isBoundSo 70 = .ok (.iload 6, 2) := by decide +kernel
theorem dX7_isBoundSo_72 : decode cX7_isBoundSo 72 = .ok (.if_icmp .ne 46, 3) := by decide +kernel
theorem dX7_isBoundSo_75 : decode cX7_isBoundSo 75 = .ok (.iload_n 3, 1) := by decide +kernel
theorem dX7_isBoundSo_76 : decode cX7_isBoundSo 76 = .ok (.iload 8, 2) := by decide +kernel
theorem dX7_isBoundSo_78 : decode cX7_isBoundSo 78 = .ok (.invokestatic 74, 3) := by decide +kernel
theorem dX7_isBoundSo_81 : decode cX7_isBoundSo 81 = .ok (.ifCond .eq 31, 3) := by decide +kernel
theorem dX7_isBoundSo_84 : decode cX7_isBoundSo 84 = .ok (.aload_n 0, 1) := by decide +kernel
theorem dX7_isBoundSo_85 : decode cX7_isBoundSo 85 = .ok (.getfield 15, 3) := by decide +kernel
theorem dX7_isBoundSo_88 : decode cX7_isBoundSo 88 = .ok (.iload 4, 2) := by decide +kernel
theorem dX7_isBoundSo_90 : decode cX7_isBoundSo 90 = .ok (.iload 8, 2) := by decide +kernel
theorem dX7_isBoundSo_92 : decode cX7_isBoundSo 92 = .ok (.invokestatic 59, 3) := by decide +kernel
theorem dX7_isBoundSo_95 : decode cX7_isBoundSo 95 = .ok (.aload_n 0, 1) := by decide +kernel
theorem dX7_isBoundSo_96 : decode cX7_isBoundSo 96 = .ok (.aload_n 0, 1) := by decide +kernel
theorem dX7_isBoundSo_97 : decode cX7_isBoundSo 97 = .ok (.getfield 26, 3) := by decide +kernel
theorem dX7_isBoundSo_100 : decode cX7_isBoundSo 100 = .ok (.iload_n 1, 1) := by decide +kernel
theorem dX7_isBoundSo_101 : decode cX7_isBoundSo 101 = .ok (.invokevirtual 93, 3) := by decide +kernel
theorem dX7_isBoundSo_104 : decode cX7_isBoundSo 104 = .ok (.iload_n 2, 1) := by decide +kernel
theorem dX7_isBoundSo_105 : decode cX7_isBoundSo 105 = .ok (.iconst 1, 1) := by decide +kernel
theorem dX7_isBoundSo_106 : decode cX7_isBoundSo 106 = .ok (.iadd, 1) := by decide +kernel
theorem dX7_isBoundSo_107 : decode cX7_isBoundSo 107 = .ok (.invokevirtual 67, 3) := by decide +kernel
theorem dX7_isBoundSo_110 : decode cX7_isBoundSo 110 = .ok (.istore 7, 2) := by decide +kernel
theorem dX7_isBoundSo_112 : decode cX7_isBoundSo 112 = .ok (.iinc 8 1, 3) := by decide +kernel
theorem dX7_isBoundSo_115 : decode cX7_isBoundSo 115 = .ok (.goto (-54), 3) := by decide +kernel
theorem dX7_isBoundSo_118 : decode cX7_isBoundSo 118 = .ok (.aload_n 0, 1) := by decide +kernel
theorem dX7_isBoundSo_119 : decode cX7_isBoundSo 119 = .ok (.getfield 15, 3) := by decide +kernel
theorem dX7_isBoundSo_122 : decode cX7_isBoundSo 122 = .ok (.iload 4, 2) := by decide +kernel
theorem dX7_isBoundSo_124 : decode cX7_isBoundSo 124 = .ok (.iload 5, 2) := by decide +kernel
theorem dX7_isBoundSo_126 : decode cX7_isBoundSo 126 = .ok (.invokestatic 59, 3) := by decide +kernel
theorem dX7_isBoundSo_129 : decode cX7_isBoundSo 129 = .ok (.iload 7, 2) := by decide +kernel
theorem dX7_isBoundSo_131 : decode cX7_isBoundSo 131 = .ok (.ireturn, 1) := by decide +kernel
theorem dX7_meant_0 : decode cX7_meant 0 = .ok (.iload_n 1, 1) := by decide +kernel
theorem dX7_meant_1 : decode cX7_meant 1 = .ok (.invokestatic 108, 3) := by decide +kernel
theorem dX7_meant_4 : decode cX7_meant 4 = .ok (.ifCond .eq 17, 3) := by decide +kernel
theorem dX7_meant_7 : decode cX7_meant 7 = .ok (.aload_n 0, 1) := by decide +kernel
theorem dX7_meant_8 : decode cX7_meant 8 = .ok (.getfield 15, 3) := by decide +kernel
theorem dX7_meant_11 : decode cX7_meant 11 = .ok (.iload_n 1, 1) := by decide +kernel
theorem dX7_meant_12 : decode cX7_meant 12 = .ok (.bipush 100, 2) := by decide +kernel
theorem dX7_meant_14 : decode cX7_meant 14 = .ok (.isub, 1) := by decide +kernel
theorem dX7_meant_15 : decode cX7_meant 15 = .ok (.invokestatic 63, 3) := by decide +kernel
theorem dX7_meant_18 : decode cX7_meant 18 = .ok (.goto 11, 3) := by decide +kernel
theorem dX7_meant_21 : decode cX7_meant 21 = .ok (.aload_n 0, 1) := by decide +kernel
theorem dX7_meant_22 : decode cX7_meant 22 = .ok (.getfield 9, 3) := by decide +kernel
theorem dX7_meant_25 : decode cX7_meant 25 = .ok (.iload_n 1, 1) := by decide +kernel
theorem dX7_meant_26 : decode cX7_meant 26 = .ok (.invokestatic 63, 3) := by decide +kernel
theorem dX7_meant_29 : decode cX7_meant 29 = .ok (.ireturn, 1) := by decide +kernel
theorem dX8_init_0 : decode cX8_init 0 = .ok (.aload_n 0, 1) := by decide +kernel
theorem dX8_init_1 : decode cX8_init 1 = .ok (.invokespecial 1, 3) := by decide +kernel
theorem dX8_init_4 : decode cX8_init 4 = .ok (.new 7, 3) := by decide +kernel
theorem dX8_init_7 : decode cX8_init 7 = .ok (.dup, 1) := by decide +kernel
theorem dX8_init_8 : decode cX8_init 8 = .ok (.invokespecial 9, 3) := by decide +kernel
theorem dX8_init_11 : decode cX8_init 11 = .ok (.astore_n 1, 1) := by decide +kernel
theorem dX8_init_12 : decode cX8_init 12 = .ok (.new 10, 3) := by decide +kernel
theorem dX8_init_15 : decode cX8_init 15 = .ok (.dup, 1) := by decide +kernel
theorem dX8_init_16 : decode cX8_init 16 = .ok (.aload_n 1, 1) := by decide +kernel
theorem dX8_init_17 : decode cX8_init 17 = .ok (.invokespecial 12, 3) := by decide +kernel
theorem dX8_init_20 : decode cX8_init 20 = .ok (.astore_n 2, 1) := by decide +kernel
theorem dX8_init_21 : decode cX8_init 21 = .ok (.new 15, 3) := by decide +kernel
theorem dX8_init_24 : decode cX8_init 24 = .ok (.dup, 1) := by decide +kernel
theorem dX8_init_25 : decode cX8_init 25 = .ok (.invokespecial 17, 3) := by decide +kernel
theorem dX8_init_28 : decode cX8_init 28 = .ok (.astore_n 3, 1) := by decide +kernel
theorem dX8_init_29 : decode cX8_init 29 = .ok (.aload_n 0, 1) := by decide +kernel
theorem dX8_init_30 : decode cX8_init 30 = .ok (.aload_n 1, 1) := by decide +kernel
theorem dX8_init_31 : decode cX8_init 31 = .ok (.putfield 18, 3) := by decide +kernel
theorem dX8_init_34 : decode cX8_init 34 = .ok (.aload_n 0, 1) := by decide +kernel
theorem dX8_init_35 : decode cX8_init 35 = .ok (.aload_n 2, 1) := by decide +kernel
theorem dX8_init_36 : decode cX8_init 36 = .ok (.putfield 24, 3) := by decide +kernel
theorem dX8_init_39 : decode cX8_init 39 = .ok (.aload_n 0, 1) := by decide +kernel
theorem dX8_init_40 : decode cX8_init 40 = .ok (.aload_n 3, 1) := by decide +kernel
theorem dX8_init_41 : decode cX8_init 41 = .ok (.putfield 28, 3) := by decide +kernel
theorem dX8_init_44 : decode cX8_init 44 = .ok (.aload_n 0, 1) := by decide +kernel
theorem dX8_init_45 : decode cX8_init 45 = .ok (.new 32, 3) := by decide +kernel
theorem dX8_init_48 : decode cX8_init 48 = .ok (.dup, 1) := by decide +kernel
theorem dX8_init_49 : decode cX8_init 49 = .ok (.aload_n 1, 1) := by decide +kernel
theorem dX8_init_50 : decode cX8_init 50 = .ok (.aload_n 2, 1) := by decide +kernel
theorem dX8_init_51 : decode cX8_init 51 = .ok (.aload_n 3, 1) := by decide +kernel
theorem dX8_init_52 : decode cX8_init 52 = .ok (.invokespecial 34, 3) := by decide +kernel
theorem dX8_init_55 : decode cX8_init 55 = .ok (.putfield 37, 3) := by decide +kernel
theorem dX8_init_58 : decode cX8_init 58 = .ok (.aload_n 0, 1) := by decide +kernel
theorem dX8_init_59 : decode cX8_init 59 = .ok (.new 41, 3) := by decide +kernel
theorem dX8_init_62 : decode cX8_init 62 = .ok (.dup, 1) := by decide +kernel
theorem dX8_init_63 : decode cX8_init 63 = .ok (.aload_n 1, 1) := by decide +kernel
theorem dX8_init_64 : decode cX8_init 64 = .ok (.aload_n 2, 1) := by decide +kernel
theorem dX8_init_65 : decode cX8_init 65 = .ok (.aload_n 3, 1) := by decide +kernel
theorem dX8_init_66 : decode cX8_init 66 = .ok (.invokespecial 43, 3) := by decide +kernel
theorem dX8_init_69 : decode cX8_init 69 = .ok (.putfield 44, 3) := by decide +kernel
theorem dX8_init_72 : decode cX8_init 72 = .ok (.aload_n 0, 1) := by decide +kernel
theorem dX8_init_73 : decode cX8_init 73 = .ok (.new 47, 3) := by decide +kernel
theorem dX8_init_76 : decode cX8_init 76 = .ok (.dup, 1) := by decide +kernel
theorem dX8_init_77 : decode cX8_init 77 = .ok (.aload_n 1, 1) := by decide +kernel
theorem dX8_init_78 : decode cX8_init 78 = .ok (.aload_n 2, 1) := by decide +kernel
theorem dX8_init_79 : decode cX8_init 79 = .ok (.aload_n 3, 1) := by decide +kernel
theorem dX8_init_80 : decode cX8_init 80 = .ok (.invokespecial 49, 3) := by decide +kernel
theorem dX8_init_83 : decode cX8_init 83 = .ok (.putfield 50, 3) := by decide +kernel
theorem dX8_init_86 : decode cX8_init 86 = .ok (.aload_n 0, 1) := by decide +kernel
theorem dX8_init_87 : decode cX8_init 87 = .ok (.new 53, 3) := by decide +kernel
theorem dX8_init_90 : decode cX8_init 90 = .ok (.dup, 1) := by decide +kernel
theorem dX8_init_91 : decode cX8_init 91 = .ok (.aload_n 1, 1) := by decide +kernel
theorem dX8_init_92 : decode cX8_init 92 = .ok (.aload_n 2, 1) := by decide +kernel
theorem dX8_init_93 : decode cX8_init 93 = .ok (.aload_n 3, 1) := by decide +kernel
theorem dX8_init_94 : decode cX8_init 94 = .ok (.invokespecial 55, 3) := by decide +kernel
theorem dX8_init_97 : decode cX8_init 97 = .ok (.putfield 56, 3) := by decide +kernel
theorem dX8_init_100 : decode cX8_init 100 = .ok (.return_, 1) := by decide +kernel
theorem dX8_condition_0 : decode cX8_condition 0 = .ok (.aload_n 0, 1) := by decide +kernel
theorem dX8_condition_1 : decode cX8_condition 1 = .ok (.getfield 18, 3) := by decide +kernel
theorem dX8_condition_4 : decode cX8_condition 4 = .ok (.invokevirtual 60, 3) := by decide +kernel
theorem dX8_condition_7 : decode cX8_condition 7 = .ok (.bipush 7, 2) := by decide +kernel
theorem dX8_condition_9 : decode cX8_condition 9 = .ok (.if_icmp .lt 13, 3) := by decide +kernel
theorem dX8_condition_12 : decode cX8_condition 12 = .ok (.new 64, 3) := by decide +kernel
theorem dX8_condition_15 : decode cX8_condition 15 = .ok (.dup, 1) := by decide +kernel
theorem dX8_condition_16 : decode cX8_condition 16 = .ok (.ldc 66, 2) := by decide +kernel
theorem dX8_condition_18 : decode cX8_condition 18 = .ok (.invokespecial 68, 3) := by decide +kernel
theorem dX8_condition_21 : decode cX8_condition 21 = .ok (.athrow, 1) := by decide +kernel
theorem dX8_condition_22 : decode cX8_condition 22 = .ok (.aload_n 0, 1) := by decide +kernel
theorem dX8_condition_23 : decode cX8_condition 23 = .ok (.getfield 18, 3) := by decide +kernel
theorem dX8_condition_26 : decode cX8_condition 26 = .ok (.invokevirtual 71, 3) := by decide +kernel
theorem dX8_condition_29 : decode cX8_condition 29 = .ok (.ireturn, 1) := by decide +kernel
theorem dX8_under_0 : decode cX8_under 0 = .ok (.aload_n 0, 1) := by decide +kernel
theorem dX8_under_1 : decode cX8_under 1 = .ok (.iload_n 1, 1) := by decide +kernel
theorem dX8_under_2 : decode cX8_under 2 = .ok (.iload_n 2, 1) := by decide +kernel
theorem dX8_under_3 : decode cX8_under 3 = .ok (.invokevirtual 74, 3) := by decide +kernel
theorem dX8_under_6 : decode cX8_under 6 = .ok (.aload_n 0, 1) := by decide +kernel
theorem dX8_under_7 : decode cX8_under 7 = .ok (.getfield 18, 3) := by decide +kernel
theorem dX8_under_10 : decode cX8_under 10 = .ok (.iload_n 1, 1) := by decide +kernel
theorem dX8_under_11 : decode cX8_under 11 = .ok (.iload_n 2, 1) := by decide +kernel
theorem dX8_under_12 : decode cX8_under 12 = .ok (.invokevirtual 78, 3) := by decide +kernel
theorem dX8_under_15 : decode cX8_under 15 = .ok (.ifCond .ne 15, 3) := by decide +kernel
theorem dX8_under_18 : decode cX8_under 18 = .ok (.aload_n 0, 1) := by decide +kernel
theorem dX8_under_19 : decode cX8_under 19 = .ok (.getfield 18, 3) := by decide +kernel
theorem dX8_under_22 : decode cX8_under 22 = .ok (.iload_n 2, 1) := by decide +kernel
theorem dX8_under_23 : decode cX8_under 23 = .ok (.iload_n 1, 1) := by decide +kernel
theorem dX8_under_24 : decode cX8_under 24 = .ok (.invokevirtual 78, 3) := by decide +kernel
theorem dX8_under_27 : decode cX8_under 27 = .ok (.ifCond .eq 13, 3) := by decide +kernel
theorem dX8_under_30 : decode cX8_under 30 = .ok (.new 82, 3) := by decide +kernel
theorem dX8_under_33 : decode cX8_under 33 = .ok (.dup, 1) := by decide +kernel
theorem dX8_under_34 : decode cX8_under 34 = .ok (.ldc 84, 2) := by decide +kernel
theorem dX8_under_36 : decode cX8_under 36 = .ok (.invokespecial 86, 3) := by decide +kernel
theorem dX8_under_39 : decode cX8_under 39 = .ok (.athrow, 1) := by decide +kernel
theorem dX8_under_40 : decode cX8_under 40 = .ok (.aload_n 0, 1) := by decide +kernel
theorem dX8_under_41 : decode cX8_under 41 = .ok (.getfield 18, 3) := by decide +kernel
theorem dX8_under_44 : decode cX8_under 44 = .ok (.iload_n 1, 1) := by decide +kernel
theorem dX8_under_45 : decode cX8_under 45 = .ok (.iload_n 2, 1) := by decide +kernel
theorem dX8_under_46 : decode cX8_under 46 = .ok (.invokevirtual 87, 3) := by decide +kernel
theorem dX8_under_49 : decode cX8_under 49 = .ok (.aload_n 0, 1) := by decide +kernel
theorem dX8_under_50 : decode cX8_under 50 = .ok (.getfield 18, 3) := by decide +kernel
theorem dX8_under_53 : decode cX8_under 53 = .ok (.invokevirtual 90, 3) := by decide +kernel
theorem dX8_under_56 : decode cX8_under 56 = .ok (.ireturn, 1) := by decide +kernel
theorem dX8_isBelow_0 : decode cX8_isBelow 0 = .ok (.aload_n 0, 1) := by decide +kernel
theorem dX8_isBelow_1 : decode cX8_isBelow 1 = .ok (.iload_n 1, 1) := by decide +kernel
theorem dX8_isBelow_2 : decode cX8_isBelow 2 = .ok (.iload_n 2, 1) := by decide +kernel
theorem dX8_isBelow_3 : decode cX8_isBelow 3 = .ok (.invokevirtual 74, 3) := by decide +kernel
theorem dX8_isBelow_6 : decode cX8_isBelow 6 = .ok (.aload_n 0, 1) := by decide +kernel
theorem dX8_isBelow_7 : decode cX8_isBelow 7 = .ok (.getfield 18, 3) := by decide +kernel
theorem dX8_isBelow_10 : decode cX8_isBelow 10 = .ok (.iload_n 1, 1) := by decide +kernel
theorem dX8_isBelow_11 : decode cX8_isBelow 11 = .ok (.iload_n 2, 1) := by decide +kernel
theorem dX8_isBelow_12 : decode cX8_isBelow 12 = .ok (.invokevirtual 78, 3) := by decide +kernel
theorem dX8_isBelow_15 : decode cX8_isBelow 15 = .ok (.ireturn, 1) := by decide +kernel
theorem dX8_fit_0 : decode cX8_fit 0 = .ok (.aload_n 0, 1) := by decide +kernel
theorem dX8_fit_1 : decode cX8_fit 1 = .ok (.iload_n 1, 1) := by decide +kernel
theorem dX8_fit_2 : decode cX8_fit 2 = .ok (.iload_n 2, 1) := by decide +kernel
theorem dX8_fit_3 : decode cX8_fit 3 = .ok (.invokevirtual 74, 3) := by decide +kernel
theorem dX8_fit_6 : decode cX8_fit 6 = .ok (.aload_n 0, 1) := by decide +kernel
theorem dX8_fit_7 : decode cX8_fit 7 = .ok (.getfield 18, 3) := by decide +kernel
theorem dX8_fit_10 : decode cX8_fit 10 = .ok (.iload_n 1, 1) := by decide +kernel
theorem dX8_fit_11 : decode cX8_fit 11 = .ok (.iload_n 2, 1) := by decide +kernel
theorem dX8_fit_12 : decode cX8_fit 12 = .ok (.invokevirtual 93, 3) := by decide +kernel
theorem dX8_fit_15 : decode cX8_fit 15 = .ok (.ireturn, 1) := by decide +kernel
theorem dX8_lasts_0 : decode cX8_lasts 0 = .ok (.aload_n 0, 1) := by decide +kernel
theorem dX8_lasts_1 : decode cX8_lasts 1 = .ok (.getfield 18, 3) := by decide +kernel
theorem dX8_lasts_4 : decode cX8_lasts 4 = .ok (.invokevirtual 96, 3) := by decide +kernel
theorem dX8_lasts_7 : decode cX8_lasts 7 = .ok (.ireturn, 1) := by decide +kernel
theorem dX8_isAntichain_0 : decode cX8_isAntichain 0 = .ok (.aload_n 0, 1) := by decide +kernel
theorem dX8_isAntichain_1 : decode cX8_isAntichain 1 = .ok (.iload_n 1, 1) := by decide +kernel
theorem dX8_isAntichain_2 : decode cX8_isAntichain 2 = .ok (.invokevirtual 99, 3) := by decide +kernel
theorem dX8_isAntichain_5 : decode cX8_isAntichain 5 = .ok (.iconst 0, 1) := by decide +kernel
theorem dX8_isAntichain_6 : decode cX8_isAntichain 6 = .ok (.istore_n 2, 1) := by decide +kernel
theorem dX8_isAntichain_7 : decode cX8_isAntichain 7 = .ok (.iload_n 2, 1) := by decide +kernel
theorem dX8_isAntichain_8 : decode cX8_isAntichain 8 = .ok (.aload_n 0, 1) := by decide +kernel
theorem dX8_isAntichain_9 : decode cX8_isAntichain 9 = .ok (.getfield 18, 3) := by decide +kernel
theorem dX8_isAntichain_12 : decode cX8_isAntichain 12 = .ok (.invokevirtual 60, 3) := by decide +kernel
theorem dX8_isAntichain_15 : decode cX8_isAntichain 15 = .ok (.if_icmp .ge 60, 3) := by decide +kernel
theorem dX8_isAntichain_18 : decode cX8_isAntichain 18 = .ok (.iload_n 2, 1) := by decide +kernel
theorem dX8_isAntichain_19 : decode cX8_isAntichain 19 = .ok (.iconst 1, 1) := by decide +kernel
theorem dX8_isAntichain_20 : decode cX8_isAntichain 20 = .ok (.iadd, 1) := by decide +kernel
theorem dX8_isAntichain_21 : decode cX8_isAntichain 21 = .ok (.istore_n 3, 1) := by decide +kernel
theorem dX8_isAntichain_22 : decode cX8_isAntichain 22 = .ok (.iload_n 3, 1) := by decide +kernel
theorem dX8_isAntichain_23 : decode cX8_isAntichain 23 = .ok (.aload_n 0, 1) := by decide +kernel
theorem dX8_isAntichain_24 : decode cX8_isAntichain 24 = .ok (.getfield 18, 3) := by decide +kernel
theorem dX8_isAntichain_27 : decode cX8_isAntichain 27 = .ok (.invokevirtual 60, 3) := by decide +kernel
theorem dX8_isAntichain_30 : decode cX8_isAntichain 30 = .ok (.if_icmp .ge 39, 3) := by decide +kernel
theorem dX8_isAntichain_33 : decode cX8_isAntichain 33 = .ok (.iload_n 1, 1) := by decide +kernel
theorem dX8_isAntichain_34 : decode cX8_isAntichain 34 = .ok (.iload_n 2, 1) := by decide +kernel
theorem dX8_isAntichain_35 : decode cX8_isAntichain 35 = .ok (.invokestatic 103, 3) := by decide +kernel
theorem dX8_isAntichain_38 : decode cX8_isAntichain 38 = .ok (.ifCond .eq 25, 3) := by decide +kernel
theorem dX8_isAntichain_41 : decode cX8_isAntichain 41 = .ok (.iload_n 1, 1) := by decide +kernel
theorem dX8_isAntichain_42 : decode cX8_isAntichain 42 = .ok (.iload_n 3, 1) := by decide +kernel
theorem dX8_isAntichain_43 : decode cX8_isAntichain 43 = .ok (.invokestatic 103, 3) := by decide +kernel
theorem dX8_isAntichain_46 : decode cX8_isAntichain 46 = .ok (.ifCond .eq 17, 3) := by decide +kernel
theorem dX8_isAntichain_49 : decode cX8_isAntichain 49 = .ok (.aload_n 0, 1) := by decide +kernel
theorem dX8_isAntichain_50 : decode cX8_isAntichain 50 = .ok (.getfield 18, 3) := by decide +kernel
theorem dX8_isAntichain_53 : decode cX8_isAntichain 53 = .ok (.iload_n 2, 1) := by decide +kernel
theorem dX8_isAntichain_54 : decode cX8_isAntichain 54 = .ok (.iload_n 3, 1) := by decide +kernel
theorem dX8_isAntichain_55 : decode cX8_isAntichain 55 = .ok (.invokevirtual 93, 3) := by decide +kernel
theorem dX8_isAntichain_58 : decode cX8_isAntichain 58 = .ok (.ifCond .eq 5, 3) := by decide +kernel
theorem dX8_isAntichain_61 : decode cX8_isAntichain 61 = .ok (.iconst 0, 1) := by decide +kernel
theorem dX8_isAntichain_62 : decode cX8_isAntichain 62 = .ok (.ireturn, 1) := by decide +kernel
theorem dX8_isAntichain_63 : decode cX8_isAntichain 63 = .ok (.iinc 3 1, 3) := by decide +kernel
theorem dX8_isAntichain_66 : decode cX8_isAntichain 66 = .ok (.goto (-44), 3) := by decide +kernel
theorem dX8_isAntichain_69 : decode cX8_isAntichain 69 = .ok (.iinc 2 1, 3) := by decide +kernel
theorem dX8_isAntichain_72 : decode cX8_isAntichain 72 = .ok (.goto (-65), 3) := by decide +kernel
theorem dX8_isAntichain_75 : decode cX8_isAntichain 75 = .ok (.iconst 1, 1) := by decide +kernel
theorem dX8_isAntichain_76 : decode cX8_isAntichain 76 = .ok (.ireturn, 1) := by decide +kernel
theorem dX8_widest_0 : decode cX8_widest 0 = .ok (.aload_n 0, 1) := by decide +kernel
theorem dX8_widest_1 : decode cX8_widest 1 = .ok (.getfield 18, 3) := by decide +kernel
theorem dX8_widest_4 : decode cX8_widest 4 = .ok (.invokevirtual 96, 3) := by decide +kernel
theorem dX8_widest_7 : decode cX8_widest 7 = .ok (.invokestatic 106, 3) := by decide +kernel
theorem dX8_widest_10 : decode cX8_widest 10 = .ok (.ireturn, 1) := by decide +kernel
theorem dX8_isDense_0 : decode cX8_isDense 0 = .ok (.aload_n 0, 1) := by decide +kernel
theorem dX8_isDense_1 : decode cX8_isDense 1 = .ok (.iload_n 1, 1) := by decide +kernel
theorem dX8_isDense_2 : decode cX8_isDense 2 = .ok (.invokevirtual 99, 3) := by decide +kernel
theorem dX8_isDense_5 : decode cX8_isDense 5 = .ok (.iconst 0, 1) := by decide +kernel
theorem dX8_isDense_6 : decode cX8_isDense 6 = .ok (.istore_n 2, 1) := by decide +kernel
theorem dX8_isDense_7 : decode cX8_isDense 7 = .ok (.iload_n 2, 1) := by decide +kernel
theorem dX8_isDense_8 : decode cX8_isDense 8 = .ok (.aload_n 0, 1) := by decide +kernel
theorem dX8_isDense_9 : decode cX8_isDense 9 = .ok (.getfield 18, 3) := by decide +kernel
theorem dX8_isDense_12 : decode cX8_isDense 12 = .ok (.invokevirtual 60, 3) := by decide +kernel
theorem dX8_isDense_15 : decode cX8_isDense 15 = .ok (.if_icmp .ge 24, 3) := by decide +kernel
theorem dX8_isDense_18 : decode cX8_isDense 18 = .ok (.aload_n 0, 1) := by decide +kernel
theorem dX8_isDense_19 : decode cX8_isDense 19 = .ok (.getfield 18, 3) := by decide +kernel
theorem dX8_isDense_22 : decode cX8_isDense 22 = .ok (.iload_n 2, 1) := by decide +kernel
theorem dX8_isDense_23 : decode cX8_isDense 23 = .ok (.invokevirtual 112, 3) := by decide +kernel
theorem dX8_isDense_26 : decode cX8_isDense 26 = .ok (.iload_n 1, 1) := by decide +kernel
theorem dX8_isDense_27 : decode cX8_isDense 27 = .ok (.iand, 1) := by decide +kernel
theorem dX8_isDense_28 : decode cX8_isDense 28 = .ok (.ifCond .ne 5, 3) := by decide +kernel
theorem dX8_isDense_31 : decode cX8_isDense 31 = .ok (.iconst 0, 1) := by decide +kernel
theorem dX8_isDense_32 : decode cX8_isDense 32 = .ok (.ireturn, 1) := by decide +kernel
theorem dX8_isDense_33 : decode cX8_isDense 33 = .ok (.iinc 2 1, 3) := by decide +kernel
theorem dX8_isDense_36 : decode cX8_isDense 36 = .ok (.goto (-29), 3) := by decide +kernel
theorem dX8_isDense_39 : decode cX8_isDense 39 = .ok (.iconst 1, 1) := by decide +kernel
theorem dX8_isDense_40 : decode cX8_isDense 40 = .ok (.ireturn, 1) := by decide +kernel
theorem dX8_isFilter_0 : decode cX8_isFilter 0 = .ok (.aload_n 0, 1) := by decide +kernel
theorem dX8_isFilter_1 : decode cX8_isFilter 1 = .ok (.iload_n 1, 1) := by decide +kernel
theorem dX8_isFilter_2 : decode cX8_isFilter 2 = .ok (.invokevirtual 99, 3) := by decide +kernel
theorem dX8_isFilter_5 : decode cX8_isFilter 5 = .ok (.iload_n 1, 1) := by decide +kernel
theorem dX8_isFilter_6 : decode cX8_isFilter 6 = .ok (.ifCond .ne 5, 3) := by decide +kernel
theorem dX8_isFilter_9 : decode cX8_isFilter 9 = .ok (.iconst 0, 1) := by decide +kernel
theorem dX8_isFilter_10 : decode cX8_isFilter 10 = .ok (.ireturn, 1) := by decide +kernel
theorem dX8_isFilter_11 : decode cX8_isFilter 11 = .ok (.iconst 0, 1) := by decide +kernel
theorem dX8_isFilter_12 : decode cX8_isFilter 12 = .ok (.istore_n 2, 1) := by decide +kernel
theorem dX8_isFilter_13 : decode cX8_isFilter 13 = .ok (.iload_n 2, 1) := by decide +kernel
theorem dX8_isFilter_14 : decode cX8_isFilter 14 = .ok (.aload_n 0, 1) := by decide +kernel
theorem dX8_isFilter_15 : decode cX8_isFilter 15 = .ok (.getfield 18, 3) := by decide +kernel
theorem dX8_isFilter_18 : decode cX8_isFilter 18 = .ok (.invokevirtual 60, 3) := by decide +kernel
theorem dX8_isFilter_21 : decode cX8_isFilter 21 = .ok (.if_icmp .ge 43, 3) := by decide +kernel
theorem dX8_isFilter_24 : decode cX8_isFilter 24 = .ok (.iload_n 1, 1) := by decide +kernel
theorem dX8_isFilter_25 : decode cX8_isFilter 25 = .ok (.iload_n 2, 1) := by decide +kernel
theorem dX8_isFilter_26 : decode cX8_isFilter 26 = .ok (.invokestatic 103, 3) := by decide +kernel
theorem dX8_isFilter_29 : decode cX8_isFilter 29 = .ok (.ifCond .eq 29, 3) := by decide +kernel
theorem dX8_isFilter_32 : decode cX8_isFilter 32 = .ok (.aload_n 0, 1) := by decide +kernel
theorem dX8_isFilter_33 : decode cX8_isFilter 33 = .ok (.getfield 18, 3) := by decide +kernel
theorem dX8_isFilter_36 : decode cX8_isFilter 36 = .ok (.iload_n 2, 1) := by decide +kernel
theorem dX8_isFilter_37 : decode cX8_isFilter 37 = .ok (.invokevirtual 115, 3) := by decide +kernel
theorem dX8_isFilter_40 : decode cX8_isFilter 40 = .ok (.iload_n 1, 1) := by decide +kernel
theorem dX8_isFilter_41 : decode cX8_isFilter 41 = .ok (.invokestatic 118, 3) := by decide +kernel
theorem dX8_isFilter_44 : decode cX8_isFilter 44 = .ok (.ifCond .eq 12, 3) := by decide +kernel
theorem dX8_isFilter_47 : decode cX8_isFilter 47 = .ok (.aload_n 0, 1) := by decide +kernel
theorem dX8_isFilter_48 : decode cX8_isFilter 48 = .ok (.iload_n 2, 1) := by decide +kernel
theorem dX8_isFilter_49 : decode cX8_isFilter 49 = .ok (.iload_n 1, 1) := by decide +kernel
theorem dX8_isFilter_50 : decode cX8_isFilter 50 = .ok (.invokevirtual 121, 3) := by decide +kernel
theorem dX8_isFilter_53 : decode cX8_isFilter 53 = .ok (.ifCond .ne 5, 3) := by decide +kernel
theorem dX8_isFilter_56 : decode cX8_isFilter 56 = .ok (.iconst 0, 1) := by decide +kernel
theorem dX8_isFilter_57 : decode cX8_isFilter 57 = .ok (.ireturn, 1) := by decide +kernel
theorem dX8_isFilter_58 : decode cX8_isFilter 58 = .ok (.iinc 2 1, 3) := by decide +kernel
theorem dX8_isFilter_61 : decode cX8_isFilter 61 = .ok (.goto (-48), 3) := by decide +kernel
theorem dX8_isFilter_64 : decode cX8_isFilter 64 = .ok (.iconst 1, 1) := by decide +kernel
theorem dX8_isFilter_65 : decode cX8_isFilter 65 = .ok (.ireturn, 1) := by decide +kernel
theorem dX8_meetsAll_0 : decode cX8_meetsAll 0 = .ok (.iconst 0, 1) := by decide +kernel
theorem dX8_meetsAll_1 : decode cX8_meetsAll 1 = .ok (.istore_n 3, 1) := by decide +kernel
theorem dX8_meetsAll_2 : decode cX8_meetsAll 2 = .ok (.iload_n 3, 1) := by decide +kernel
theorem dX8_meetsAll_3 : decode cX8_meetsAll 3 = .ok (.aload_n 0, 1) := by decide +kernel
theorem dX8_meetsAll_4 : decode cX8_meetsAll 4 = .ok (.getfield 18, 3) := by decide +kernel
theorem dX8_meetsAll_7 : decode cX8_meetsAll 7 = .ok (.invokevirtual 60, 3) := by decide +kernel
theorem dX8_meetsAll_10 : decode cX8_meetsAll 10 = .ok (.if_icmp .ge 41, 3) := by decide +kernel
theorem dX8_meetsAll_13 : decode cX8_meetsAll 13 = .ok (.iload_n 2, 1) := by decide +kernel
theorem dX8_meetsAll_14 : decode cX8_meetsAll 14 = .ok (.iload_n 3, 1) := by decide +kernel
theorem dX8_meetsAll_15 : decode cX8_meetsAll 15 = .ok (.invokestatic 103, 3) := by decide +kernel
theorem dX8_meetsAll_18 : decode cX8_meetsAll 18 = .ok (.ifCond .eq 27, 3) := by decide +kernel
theorem dX8_meetsAll_21 : decode cX8_meetsAll 21 = .ok (.aload_n 0, 1) := by decide +kernel
theorem dX8_meetsAll_22 : decode cX8_meetsAll 22 = .ok (.getfield 18, 3) := by decide +kernel
theorem dX8_meetsAll_25 : decode cX8_meetsAll 25 = .ok (.iload_n 1, 1) := by decide +kernel
theorem dX8_meetsAll_26 : decode cX8_meetsAll 26 = .ok (.invokevirtual 112, 3) := by decide +kernel
theorem dX8_meetsAll_29 : decode cX8_meetsAll 29 = .ok (.aload_n 0, 1) := by decide +kernel
theorem dX8_meetsAll_30 : decode cX8_meetsAll 30 = .ok (.getfield 18, 3) := by decide +kernel
theorem dX8_meetsAll_33 : decode cX8_meetsAll 33 = .ok (.iload_n 3, 1) := by decide +kernel
theorem dX8_meetsAll_34 : decode cX8_meetsAll 34 = .ok (.invokevirtual 112, 3) := by decide +kernel
theorem dX8_meetsAll_37 : decode cX8_meetsAll 37 = .ok (.iand, 1) := by decide +kernel
theorem dX8_meetsAll_38 : decode cX8_meetsAll 38 = .ok (.iload_n 2, 1) := by decide +kernel
theorem dX8_meetsAll_39 : decode cX8_meetsAll 39 = .ok (.iand, 1) := by decide +kernel
theorem dX8_meetsAll_40 : decode cX8_meetsAll 40 = .ok (.ifCond .ne 5, 3) := by decide +kernel
theorem dX8_meetsAll_43 : decode cX8_meetsAll 43 = .ok (.iconst 0, 1) := by decide +kernel
theorem dX8_meetsAll_44 : decode cX8_meetsAll 44 = .ok (.ireturn, 1) := by decide +kernel
theorem dX8_meetsAll_45 : decode cX8_meetsAll 45 = .ok (.iinc 3 1, 3) := by decide +kernel
theorem dX8_meetsAll_48 : decode cX8_meetsAll 48 = .ok (.goto (-46), 3) := by decide +kernel
theorem dX8_meetsAll_51 : decode cX8_meetsAll 51 = .ok (.iconst 1, 1) := by decide +kernel
theorem dX8_meetsAll_52 : decode cX8_meetsAll 52 = .ok (.ireturn, 1) := by decide +kernel
theorem dX8_filters_0 : decode cX8_filters 0 = .ok (.aload_n 0, 1) := by decide +kernel
theorem dX8_filters_1 : decode cX8_filters 1 = .ok (.getfield 18, 3) := by decide +kernel
theorem dX8_filters_4 : decode cX8_filters 4 = .ok (.invokevirtual 60, 3) := by decide +kernel
theorem dX8_filters_7 : decode cX8_filters 7 = .ok (.ireturn, 1) := by decide +kernel
theorem dX8_isSeparative_0 : decode cX8_isSeparative 0 = .ok (.iconst 0, 1) := by decide +kernel
theorem dX8_isSeparative_1 : decode cX8_isSeparative 1 = .ok (.istore_n 1, 1) := by decide +kernel
theorem dX8_isSeparative_2 : decode cX8_isSeparative 2 = .ok (.iload_n 1, 1) := by decide +kernel
theorem dX8_isSeparative_3 : decode cX8_isSeparative 3 = .ok (.aload_n 0, 1) := by decide +kernel
theorem dX8_isSeparative_4 : decode cX8_isSeparative 4 = .ok (.getfield 18, 3) := by decide +kernel
theorem dX8_isSeparative_7 : decode cX8_isSeparative 7 = .ok (.invokevirtual 60, 3) := by decide +kernel
theorem dX8_isSeparative_10 : decode cX8_isSeparative 10 = .ok (.if_icmp .ge 51, 3) := by decide +kernel
theorem dX8_isSeparative_13 : decode cX8_isSeparative 13 = .ok (.iconst 0, 1) := by decide +kernel
theorem dX8_isSeparative_14 : decode cX8_isSeparative 14 = .ok (.istore_n 2, 1) := by decide +kernel
theorem dX8_isSeparative_15 : decode cX8_isSeparative 15 = .ok (.iload_n 2, 1) := by decide +kernel
theorem dX8_isSeparative_16 : decode cX8_isSeparative 16 = .ok (.aload_n 0, 1) := by decide +kernel
theorem dX8_isSeparative_17 : decode cX8_isSeparative 17 = .ok (.getfield 18, 3) := by decide +kernel
theorem dX8_isSeparative_20 : decode cX8_isSeparative 20 = .ok (.invokevirtual 60, 3) := by decide +kernel
theorem dX8_isSeparative_23 : decode cX8_isSeparative 23 = .ok (.if_icmp .ge 32, 3) := by decide +kernel
theorem dX8_isSeparative_26 : decode cX8_isSeparative 26 = .ok (.aload_n 0, 1) := by decide +kernel
theorem dX8_isSeparative_27 : decode cX8_isSeparative 27 = .ok (.getfield 18, 3) := by decide +kernel
theorem dX8_isSeparative_30 : decode cX8_isSeparative 30 = .ok (.iload_n 1, 1) := by decide +kernel
theorem dX8_isSeparative_31 : decode cX8_isSeparative 31 = .ok (.iload_n 2, 1) := by decide +kernel
theorem dX8_isSeparative_32 : decode cX8_isSeparative 32 = .ok (.invokevirtual 78, 3) := by decide +kernel
theorem dX8_isSeparative_35 : decode cX8_isSeparative 35 = .ok (.ifCond .ne 14, 3) := by decide +kernel
theorem dX8_isSeparative_38 : decode cX8_isSeparative 38 = .ok (.aload_n 0, 1) := by decide +kernel
theorem dX8_isSeparative_39 : decode cX8_isSeparative 39 = .ok (.iload_n 1, 1) := by decide +kernel
theorem dX8_isSeparative_40 : decode cX8_isSeparative 40 = .ok (.iload_n 2, 1) := by decide +kernel
theorem dX8_isSeparative_41 : decode cX8_isSeparative 41 = .ok (.invokevirtual 124, 3) := by decide +kernel
theorem dX8_isSeparative_44 : decode cX8_isSeparative 44 = .ok (.ifCond .ne 5, 3) := by decide +kernel
theorem dX8_isSeparative_47 : decode cX8_isSeparative 47 = .ok (.iconst 0, 1) := by decide +kernel
theorem dX8_isSeparative_48 : decode cX8_isSeparative 48 = .ok (.ireturn, 1) := by decide +kernel
theorem dX8_isSeparative_49 : decode cX8_isSeparative 49 = .ok (.iinc 2 1, 3) := by decide +kernel
theorem dX8_isSeparative_52 : decode cX8_isSeparative 52 = .ok (.goto (-37), 3) := by decide +kernel
theorem dX8_isSeparative_55 : decode cX8_isSeparative 55 = .ok (.iinc 1 1, 3) := by decide +kernel
theorem dX8_isSeparative_58 : decode cX8_isSeparative 58 = .ok (.goto (-56), 3) := by decide +kernel
theorem dX8_isSeparative_61 : decode cX8_isSeparative 61 = .ok (.iconst 1, 1) := by decide +kernel
theorem dX8_isSeparative_62 : decode cX8_isSeparative 62 = .ok (.ireturn, 1) := by decide +kernel
theorem dX8_canAvoid_0 : decode cX8_canAvoid 0 = .ok (.iconst 0, 1) := by decide +kernel
theorem dX8_canAvoid_1 : decode cX8_canAvoid 1 = .ok (.istore_n 3, 1) := by decide +kernel
theorem dX8_canAvoid_2 : decode cX8_canAvoid 2 = .ok (.iload_n 3, 1) := by decide +kernel
theorem dX8_canAvoid_3 : decode cX8_canAvoid 3 = .ok (.aload_n 0, 1) := by decide +kernel
theorem dX8_canAvoid_4 : decode cX8_canAvoid 4 = .ok (.getfield 18, 3) := by decide +kernel
theorem dX8_canAvoid_7 : decode cX8_canAvoid 7 = .ok (.invokevirtual 60, 3) := by decide +kernel
theorem dX8_canAvoid_10 : decode cX8_canAvoid 10 = .ok (.if_icmp .ge 35, 3) := by decide +kernel
theorem dX8_canAvoid_13 : decode cX8_canAvoid 13 = .ok (.aload_n 0, 1) := by decide +kernel
theorem dX8_canAvoid_14 : decode cX8_canAvoid 14 = .ok (.getfield 18, 3) := by decide +kernel
theorem dX8_canAvoid_17 : decode cX8_canAvoid 17 = .ok (.iload_n 3, 1) := by decide +kernel
theorem dX8_canAvoid_18 : decode cX8_canAvoid 18 = .ok (.iload_n 1, 1) := by decide +kernel
theorem dX8_canAvoid_19 : decode cX8_canAvoid 19 = .ok (.invokevirtual 78, 3) := by decide +kernel
theorem dX8_canAvoid_22 : decode cX8_canAvoid 22 = .ok (.ifCond .eq 17, 3) := by decide +kernel
theorem dX8_canAvoid_25 : decode cX8_canAvoid 25 = .ok (.aload_n 0, 1) := by decide +kernel
theorem dX8_canAvoid_26 : decode cX8_canAvoid 26 = .ok (.getfield 18, 3) := by decide +kernel
theorem dX8_canAvoid_29 : decode cX8_canAvoid 29 = .ok (.iload_n 3, 1) := by decide +kernel
theorem dX8_canAvoid_30 : decode cX8_canAvoid 30 = .ok (.iload_n 2, 1) := by decide +kernel
theorem dX8_canAvoid_31 : decode cX8_canAvoid 31 = .ok (.invokevirtual 93, 3) := by decide +kernel
theorem dX8_canAvoid_34 : decode cX8_canAvoid 34 = .ok (.ifCond .ne 5, 3) := by decide +kernel
theorem dX8_canAvoid_37 : decode cX8_canAvoid 37 = .ok (.iconst 1, 1) := by decide +kernel
theorem dX8_canAvoid_38 : decode cX8_canAvoid 38 = .ok (.ireturn, 1) := by decide +kernel
theorem dX8_canAvoid_39 : decode cX8_canAvoid 39 = .ok (.iinc 3 1, 3) := by decide +kernel
theorem dX8_canAvoid_42 : decode cX8_canAvoid 42 = .ok (.goto (-40), 3) := by decide +kernel
theorem dX8_canAvoid_45 : decode cX8_canAvoid 45 = .ok (.iconst 0, 1) := by decide +kernel
theorem dX8_canAvoid_46 : decode cX8_canAvoid 46 = .ok (.ireturn, 1) := by decide +kernel
theorem dX8_cut_0 : decode cX8_cut 0 = .ok (.aload_n 0, 1) := by decide +kernel
theorem dX8_cut_1 : decode cX8_cut 1 = .ok (.iload_n 1, 1) := by decide +kernel
theorem dX8_cut_2 : decode cX8_cut 2 = .ok (.invokevirtual 127, 3) := by decide +kernel
theorem dX8_cut_5 : decode cX8_cut 5 = .ok (.aload_n 0, 1) := by decide +kernel
theorem dX8_cut_6 : decode cX8_cut 6 = .ok (.getfield 18, 3) := by decide +kernel
theorem dX8_cut_9 : decode cX8_cut 9 = .ok (.iload_n 1, 1) := by decide +kernel
theorem dX8_cut_10 : decode cX8_cut 10 = .ok (.invokevirtual 130, 3) := by decide +kernel
theorem dX8_cut_13 : decode cX8_cut 13 = .ok (.ireturn, 1) := by decide +kernel
theorem dX8_closure_0 : decode cX8_closure 0 = .ok (.aload_n 0, 1) := by decide +kernel
theorem dX8_closure_1 : decode cX8_closure 1 = .ok (.iload_n 1, 1) := by decide +kernel
theorem dX8_closure_2 : decode cX8_closure 2 = .ok (.invokevirtual 99, 3) := by decide +kernel
theorem dX8_closure_5 : decode cX8_closure 5 = .ok (.iconst 0, 1) := by decide +kernel
theorem dX8_closure_6 : decode cX8_closure 6 = .ok (.istore_n 2, 1) := by decide +kernel
theorem dX8_closure_7 : decode cX8_closure 7 = .ok (.iconst 0, 1) := by decide +kernel
theorem dX8_closure_8 : decode cX8_closure 8 = .ok (.istore_n 3, 1) := by decide +kernel
theorem dX8_closure_9 : decode cX8_closure 9 = .ok (.iload_n 3, 1) := by decide +kernel
theorem dX8_closure_10 : decode cX8_closure 10 = .ok (.aload_n 0, 1) := by decide +kernel
theorem dX8_closure_11 : decode cX8_closure 11 = .ok (.getfield 18, 3) := by decide +kernel
theorem dX8_closure_14 : decode cX8_closure 14 = .ok (.invokevirtual 60, 3) := by decide +kernel
theorem dX8_closure_17 : decode cX8_closure 17 = .ok (.if_icmp .ge 28, 3) := by decide +kernel
theorem dX8_closure_20 : decode cX8_closure 20 = .ok (.iload_n 1, 1) := by decide +kernel
theorem dX8_closure_21 : decode cX8_closure 21 = .ok (.iload_n 3, 1) := by decide +kernel
theorem dX8_closure_22 : decode cX8_closure 22 = .ok (.invokestatic 103, 3) := by decide +kernel
theorem dX8_closure_25 : decode cX8_closure 25 = .ok (.ifCond .eq 14, 3) := by decide +kernel
theorem dX8_closure_28 : decode cX8_closure 28 = .ok (.iload_n 2, 1) := by decide +kernel
theorem dX8_closure_29 : decode cX8_closure 29 = .ok (.aload_n 0, 1) := by decide +kernel
theorem dX8_closure_30 : decode cX8_closure 30 = .ok (.getfield 18, 3) := by decide +kernel
theorem dX8_closure_33 : decode cX8_closure 33 = .ok (.iload_n 3, 1) := by decide +kernel
theorem dX8_closure_34 : decode cX8_closure 34 = .ok (.invokevirtual 130, 3) := by decide +kernel
theorem dX8_closure_37 : decode cX8_closure 37 = .ok (.ior, 1) := by decide +kernel
theorem dX8_closure_38 : decode cX8_closure 38 = .ok (.istore_n 2, 1) := by decide +kernel
theorem dX8_closure_39 : decode cX8_closure 39 = .ok (.iinc 3 1, 3) := by decide +kernel
theorem dX8_closure_42 : decode cX8_closure 42 = .ok (.goto (-33), 3) := by decide +kernel
theorem dX8_closure_45 : decode cX8_closure 45 = .ok (.iconst 0, 1) := by decide +kernel
theorem dX8_closure_46 : decode cX8_closure 46 = .ok (.istore_n 3, 1) := by decide +kernel
theorem dX8_closure_47 : decode cX8_closure 47 = .ok (.iconst 0, 1) := by decide +kernel
theorem dX8_closure_48 : decode cX8_closure 48 = .ok (.istore 4, 2) := by decide +kernel
theorem dX8_closure_50 : decode cX8_closure 50 = .ok (.iload 4, 2) := by decide +kernel
theorem dX8_closure_52 : decode cX8_closure 52 = .ok (.aload_n 0, 1) := by decide +kernel
theorem dX8_closure_53 : decode cX8_closure 53 = .ok (.getfield 18, 3) := by decide +kernel
theorem dX8_closure_56 : decode cX8_closure 56 = .ok (.invokevirtual 60, 3) := by decide +kernel
theorem dX8_closure_59 : decode cX8_closure 59 = .ok (.if_icmp .ge 32, 3) := by decide +kernel
theorem dX8_closure_62 : decode cX8_closure 62 = .ok (.aload_n 0, 1) := by decide +kernel
theorem dX8_closure_63 : decode cX8_closure 63 = .ok (.getfield 18, 3) := by decide +kernel
theorem dX8_closure_66 : decode cX8_closure 66 = .ok (.iload 4, 2) := by decide +kernel
theorem dX8_closure_68 : decode cX8_closure 68 = .ok (.invokevirtual 130, 3) := by decide +kernel
theorem dX8_closure_71 : decode cX8_closure 71 = .ok (.iload_n 2, 1) := by decide +kernel
theorem dX8_closure_72 : decode cX8_closure 72 = .ok (.invokestatic 118, 3) := by decide +kernel
theorem dX8_closure_75 : decode cX8_closure 75 = .ok (.ifCond .eq 10, 3) := by decide +kernel
theorem dX8_closure_78 : decode cX8_closure 78 = .ok (.iload_n 3, 1) := by decide +kernel
theorem dX8_closure_79 : decode cX8_closure 79 = .ok (.iconst 1, 1) := by decide +kernel
theorem dX8_closure_80 : decode cX8_closure 80 = .ok (.iload 4, 2) := by decide +kernel
theorem dX8_closure_82 : decode cX8_closure 82 = .ok (.ishl, 1) := by decide +kernel
theorem dX8_closure_83 : decode cX8_closure 83 = .ok (.ior, 1) := by decide +kernel
theorem dX8_closure_84 : decode cX8_closure 84 = .ok (.istore_n 3, 1) := by decide +kernel
theorem dX8_closure_85 : decode cX8_closure 85 = .ok (.iinc 4 1, 3) := by decide +kernel
theorem dX8_closure_88 : decode cX8_closure 88 = .ok (.goto (-38), 3) := by decide +kernel
theorem dX8_closure_91 : decode cX8_closure 91 = .ok (.iload_n 3, 1) := by decide +kernel
theorem dX8_closure_92 : decode cX8_closure 92 = .ok (.ireturn, 1) := by decide +kernel
theorem dX8_filterOf_0 : decode cX8_filterOf 0 = .ok (.aload_n 0, 1) := by decide +kernel
theorem dX8_filterOf_1 : decode cX8_filterOf 1 = .ok (.iload_n 1, 1) := by decide +kernel
theorem dX8_filterOf_2 : decode cX8_filterOf 2 = .ok (.invokevirtual 133, 3) := by decide +kernel
theorem dX8_filterOf_5 : decode cX8_filterOf 5 = .ok (.aload_n 0, 1) := by decide +kernel
theorem dX8_filterOf_6 : decode cX8_filterOf 6 = .ok (.getfield 18, 3) := by decide +kernel
theorem dX8_filterOf_9 : decode cX8_filterOf 9 = .ok (.iload_n 1, 1) := by decide +kernel
theorem dX8_filterOf_10 : decode cX8_filterOf 10 = .ok (.invokevirtual 115, 3) := by decide +kernel
theorem dX8_filterOf_13 : decode cX8_filterOf 13 = .ok (.ireturn, 1) := by decide +kernel
theorem dX8_name_0 : decode cX8_name 0 = .ok (.aload_n 0, 1) := by decide +kernel
theorem dX8_name_1 : decode cX8_name 1 = .ok (.iconst 1, 1) := by decide +kernel
theorem dX8_name_2 : decode cX8_name 2 = .ok (.invokevirtual 136, 3) := by decide +kernel
theorem dX8_name_5 : decode cX8_name 5 = .ok (.aload_n 0, 1) := by decide +kernel
theorem dX8_name_6 : decode cX8_name 6 = .ok (.getfield 24, 3) := by decide +kernel
theorem dX8_name_9 : decode cX8_name 9 = .ok (.invokevirtual 139, 3) := by decide +kernel
theorem dX8_name_12 : decode cX8_name 12 = .ok (.ireturn, 1) := by decide +kernel
theorem dX8_pair_0 : decode cX8_pair 0 = .ok (.aload_n 0, 1) := by decide +kernel
theorem dX8_pair_1 : decode cX8_pair 1 = .ok (.iload_n 1, 1) := by decide +kernel
theorem dX8_pair_2 : decode cX8_pair 2 = .ok (.invokevirtual 140, 3) := by decide +kernel
theorem dX8_pair_5 : decode cX8_pair 5 = .ok (.aload_n 0, 1) := by decide +kernel
theorem dX8_pair_6 : decode cX8_pair 6 = .ok (.iload_n 2, 1) := by decide +kernel
theorem dX8_pair_7 : decode cX8_pair 7 = .ok (.invokevirtual 140, 3) := by decide +kernel
theorem dX8_pair_10 : decode cX8_pair 10 = .ok (.aload_n 0, 1) := by decide +kernel
theorem dX8_pair_11 : decode cX8_pair 11 = .ok (.iload_n 3, 1) := by decide +kernel
theorem dX8_pair_12 : decode cX8_pair 12 = .ok (.invokevirtual 127, 3) := by decide +kernel
theorem dX8_pair_15 : decode cX8_pair 15 = .ok (.iload_n 2, 1) := by decide +kernel
theorem dX8_pair_16 : decode cX8_pair 16 = .ok (.iload_n 1, 1) := by decide +kernel
theorem dX8_pair_17 : decode cX8_pair 17 = .ok (.if_icmp .lt 13, 3) := by decide +kernel
theorem dX8_pair_20 : decode cX8_pair 20 = .ok (.new 143, 3) := by decide +kernel
theorem dX8_pair_23 : decode cX8_pair 23 = .ok (.dup, 1) := by decide +kernel
theorem dX8_pair_24 : decode cX8_pair 24 = .ok (.ldc 145, 2) := by decide +kernel
theorem dX8_pair_26 : decode cX8_pair 26 = .ok (.invokespecial 147, 3) := by decide +kernel
theorem dX8_pair_29 : decode cX8_pair 29 = .ok (.athrow, 1) := by decide +kernel
theorem dX8_pair_30 : decode cX8_pair 30 = .ok (.aload_n 0, 1) := by decide +kernel
theorem dX8_pair_31 : decode cX8_pair 31 = .ok (.getfield 24, 3) := by decide +kernel
theorem dX8_pair_34 : decode cX8_pair 34 = .ok (.iload_n 1, 1) := by decide +kernel
theorem dX8_pair_35 : decode cX8_pair 35 = .ok (.invokevirtual 148, 3) := by decide +kernel
theorem dX8_pair_38 : decode cX8_pair 38 = .ok (.ifCond .ne 28, 3) := by decide +kernel
theorem dX8_pair_41 : decode cX8_pair 41 = .ok (.aload_n 0, 1) := by decide +kernel
theorem dX8_pair_42 : decode cX8_pair 42 = .ok (.getfield 24, 3) := by decide +kernel
theorem dX8_pair_45 : decode cX8_pair 45 = .ok (.iload_n 1, 1) := by decide +kernel
theorem dX8_pair_46 : decode cX8_pair 46 = .ok (.iload_n 2, 1) := by decide +kernel
theorem dX8_pair_47 : decode cX8_pair 47 = .ok (.iload_n 3, 1) := by decide +kernel
theorem dX8_pair_48 : decode cX8_pair 48 = .ok (.invokevirtual 152, 3) := by decide +kernel
theorem dX8_pair_51 : decode cX8_pair 51 = .ok (.ifCond .ne 15, 3) := by decide +kernel
theorem dX8_pair_54 : decode cX8_pair 54 = .ok (.aload_n 0, 1) := by decide +kernel
theorem dX8_pair_55 : decode cX8_pair 55 = .ok (.getfield 24, 3) := by decide +kernel
theorem dX8_pair_58 : decode cX8_pair 58 = .ok (.iload_n 1, 1) := by decide +kernel
theorem dX8_pair_59 : decode cX8_pair 59 = .ok (.iload_n 2, 1) := by decide +kernel
theorem dX8_pair_60 : decode cX8_pair 60 = .ok (.invokevirtual 156, 3) := by decide +kernel
theorem dX8_pair_63 : decode cX8_pair 63 = .ok (.ifCond .eq 13, 3) := by decide +kernel
theorem dX8_pair_66 : decode cX8_pair 66 = .ok (.new 82, 3) := by decide +kernel
theorem dX8_pair_69 : decode cX8_pair 69 = .ok (.dup, 1) := by decide +kernel
theorem dX8_pair_70 : decode cX8_pair 70 = .ok (.ldc 159, 2) := by decide +kernel
theorem dX8_pair_72 : decode cX8_pair 72 = .ok (.invokespecial 86, 3) := by decide +kernel
theorem dX8_pair_75 : decode cX8_pair 75 = .ok (.athrow, 1) := by decide +kernel
theorem dX8_pair_76 : decode cX8_pair 76 = .ok (.aload_n 0, 1) := by decide +kernel
theorem dX8_pair_77 : decode cX8_pair 77 = .ok (.getfield 24, 3) := by decide +kernel
theorem dX8_pair_80 : decode cX8_pair 80 = .ok (.iload_n 1, 1) := by decide +kernel
theorem dX8_pair_81 : decode cX8_pair 81 = .ok (.invokevirtual 161, 3) := by decide +kernel
theorem dX8_pair_84 : decode cX8_pair 84 = .ok (.iconst 4, 1) := by decide +kernel
theorem dX8_pair_85 : decode cX8_pair 85 = .ok (.if_icmp .lt 13, 3) := by decide +kernel
theorem dX8_pair_88 : decode cX8_pair 88 = .ok (.new 64, 3) := by decide +kernel
theorem dX8_pair_91 : decode cX8_pair 91 = .ok (.dup, 1) := by decide +kernel
theorem dX8_pair_92 : decode cX8_pair 92 = .ok (.ldc 164, 2) := by decide +kernel
theorem dX8_pair_94 : decode cX8_pair 94 = .ok (.invokespecial 68, 3) := by decide +kernel
theorem dX8_pair_97 : decode cX8_pair 97 = .ok (.athrow, 1) := by decide +kernel
theorem dX8_pair_98 : decode cX8_pair 98 = .ok (.aload_n 0, 1) := by decide +kernel
theorem dX8_pair_99 : decode cX8_pair 99 = .ok (.getfield 24, 3) := by decide +kernel
theorem dX8_pair_102 : decode cX8_pair 102 = .ok (.iload_n 1, 1) := by decide +kernel
theorem dX8_pair_103 : decode cX8_pair 103 = .ok (.iload_n 2, 1) := by decide +kernel
theorem dX8_pair_104 : decode cX8_pair 104 = .ok (.iload_n 3, 1) := by decide +kernel
theorem dX8_pair_105 : decode cX8_pair 105 = .ok (.invokevirtual 166, 3) := by decide +kernel
theorem dX8_pair_108 : decode cX8_pair 108 = .ok (.aload_n 0, 1) := by decide +kernel
theorem dX8_pair_109 : decode cX8_pair 109 = .ok (.getfield 24, 3) := by decide +kernel
theorem dX8_pair_112 : decode cX8_pair 112 = .ok (.iload_n 1, 1) := by decide +kernel
theorem dX8_pair_113 : decode cX8_pair 113 = .ok (.invokevirtual 161, 3) := by decide +kernel
theorem dX8_pair_116 : decode cX8_pair 116 = .ok (.ireturn, 1) := by decide +kernel
theorem dX8_unpair_0 : decode cX8_unpair 0 = .ok (.aload_n 0, 1) := by decide +kernel
theorem dX8_unpair_1 : decode cX8_unpair 1 = .ok (.iload_n 1, 1) := by decide +kernel
theorem dX8_unpair_2 : decode cX8_unpair 2 = .ok (.invokevirtual 140, 3) := by decide +kernel
theorem dX8_unpair_5 : decode cX8_unpair 5 = .ok (.aload_n 0, 1) := by decide +kernel
theorem dX8_unpair_6 : decode cX8_unpair 6 = .ok (.getfield 24, 3) := by decide +kernel
theorem dX8_unpair_9 : decode cX8_unpair 9 = .ok (.iload_n 1, 1) := by decide +kernel
theorem dX8_unpair_10 : decode cX8_unpair 10 = .ok (.invokevirtual 148, 3) := by decide +kernel
theorem dX8_unpair_13 : decode cX8_unpair 13 = .ok (.ifCond .ne 14, 3) := by decide +kernel
theorem dX8_unpair_16 : decode cX8_unpair 16 = .ok (.aload_n 0, 1) := by decide +kernel
theorem dX8_unpair_17 : decode cX8_unpair 17 = .ok (.getfield 24, 3) := by decide +kernel
theorem dX8_unpair_20 : decode cX8_unpair 20 = .ok (.iload_n 1, 1) := by decide +kernel
theorem dX8_unpair_21 : decode cX8_unpair 21 = .ok (.invokevirtual 161, 3) := by decide +kernel
theorem dX8_unpair_24 : decode cX8_unpair 24 = .ok (.ifCond .ne 13, 3) := by decide +kernel
theorem dX8_unpair_27 : decode cX8_unpair 27 = .ok (.new 82, 3) := by decide +kernel
theorem dX8_unpair_30 : decode cX8_unpair 30 = .ok (.dup, 1) := by decide +kernel
theorem dX8_unpair_31 : decode cX8_unpair 31 = .ok (.ldc 170, 2) := by decide +kernel
theorem dX8_unpair_33 : decode cX8_unpair 33 = .ok (.invokespecial 86, 3) := by decide +kernel
theorem dX8_unpair_36 : decode cX8_unpair 36 = .ok (.athrow, 1) := by decide +kernel
theorem dX8_unpair_37 : decode cX8_unpair 37 = .ok (.aload_n 0, 1) := by decide +kernel
theorem dX8_unpair_38 : decode cX8_unpair 38 = .ok (.getfield 24, 3) := by decide +kernel
theorem dX8_unpair_41 : decode cX8_unpair 41 = .ok (.iload_n 1, 1) := by decide +kernel
theorem dX8_unpair_42 : decode cX8_unpair 42 = .ok (.invokevirtual 172, 3) := by decide +kernel
theorem dX8_unpair_45 : decode cX8_unpair 45 = .ok (.aload_n 0, 1) := by decide +kernel
theorem dX8_unpair_46 : decode cX8_unpair 46 = .ok (.getfield 24, 3) := by decide +kernel
theorem dX8_unpair_49 : decode cX8_unpair 49 = .ok (.iload_n 1, 1) := by decide +kernel
theorem dX8_unpair_50 : decode cX8_unpair 50 = .ok (.invokevirtual 161, 3) := by decide +kernel
theorem dX8_unpair_53 : decode cX8_unpair 53 = .ok (.ireturn, 1) := by decide +kernel
theorem dX8_rank_0 : decode cX8_rank 0 = .ok (.aload_n 0, 1) := by decide +kernel
theorem dX8_rank_1 : decode cX8_rank 1 = .ok (.iload_n 1, 1) := by decide +kernel
theorem dX8_rank_2 : decode cX8_rank 2 = .ok (.invokevirtual 140, 3) := by decide +kernel
theorem dX8_rank_5 : decode cX8_rank 5 = .ok (.aload_n 0, 1) := by decide +kernel
theorem dX8_rank_6 : decode cX8_rank 6 = .ok (.getfield 24, 3) := by decide +kernel
theorem dX8_rank_9 : decode cX8_rank 9 = .ok (.iload_n 1, 1) := by decide +kernel
theorem dX8_rank_10 : decode cX8_rank 10 = .ok (.invokevirtual 175, 3) := by decide +kernel
theorem dX8_rank_13 : decode cX8_rank 13 = .ok (.ireturn, 1) := by decide +kernel
theorem dX8_standard_0 : decode cX8_standard 0 = .ok (.iload_n 1, 1) := by decide +kernel
theorem dX8_standard_1 : decode cX8_standard 1 = .ok (.ifCond .lt 9, 3) := by decide +kernel
theorem dX8_standard_4 : decode cX8_standard 4 = .ok (.iload_n 1, 1) := by decide +kernel
theorem dX8_standard_5 : decode cX8_standard 5 = .ok (.bipush 16, 2) := by decide +kernel
theorem dX8_standard_7 : decode cX8_standard 7 = .ok (.if_icmp .lt 13, 3) := by decide +kernel
theorem dX8_standard_10 : decode cX8_standard 10 = .ok (.new 143, 3) := by decide +kernel
theorem dX8_standard_13 : decode cX8_standard 13 = .ok (.dup, 1) := by decide +kernel
theorem dX8_standard_14 : decode cX8_standard 14 = .ok (.ldc 178, 2) := by decide +kernel
theorem dX8_standard_16 : decode cX8_standard 16 = .ok (.invokespecial 147, 3) := by decide +kernel
theorem dX8_standard_19 : decode cX8_standard 19 = .ok (.athrow, 1) := by decide +kernel
theorem dX8_standard_20 : decode cX8_standard 20 = .ok (.aload_n 0, 1) := by decide +kernel
theorem dX8_standard_21 : decode cX8_standard 21 = .ok (.getfield 18, 3) := by decide +kernel
theorem dX8_standard_24 : decode cX8_standard 24 = .ok (.invokevirtual 60, 3) := by decide +kernel
theorem dX8_standard_27 : decode cX8_standard 27 = .ok (.ifCond .eq 21, 3) := by decide +kernel
theorem dX8_standard_30 : decode cX8_standard 30 = .ok (.aload_n 0, 1) := by decide +kernel
theorem dX8_standard_31 : decode cX8_standard 31 = .ok (.getfield 18, 3) := by decide +kernel
theorem dX8_standard_34 : decode cX8_standard 34 = .ok (.iconst 0, 1) := by decide +kernel
theorem dX8_standard_35 : decode cX8_standard 35 = .ok (.invokevirtual 112, 3) := by decide +kernel
theorem dX8_standard_38 : decode cX8_standard 38 = .ok (.aload_n 0, 1) := by decide +kernel
theorem dX8_standard_39 : decode cX8_standard 39 = .ok (.getfield 18, 3) := by decide +kernel
theorem dX8_standard_42 : decode cX8_standard 42 = .ok (.invokevirtual 180, 3) := by decide +kernel
theorem dX8_standard_45 : decode cX8_standard 45 = .ok (.if_icmp .eq 13, 3) := by decide +kernel
theorem dX8_standard_48 : decode cX8_standard 48 = .ok (.new 82, 3) := by decide +kernel
theorem dX8_standard_51 : decode cX8_standard 51 = .ok (.dup, 1) := by decide +kernel
theorem dX8_standard_52 : decode cX8_standard 52 = .ok (.ldc 183, 2) := by decide +kernel
theorem dX8_standard_54 : decode cX8_standard 54 = .ok (.invokespecial 86, 3) := by decide +kernel
theorem dX8_standard_57 : decode cX8_standard 57 = .ok (.athrow, 1) := by decide +kernel
theorem dX8_standard_58 : decode cX8_standard 58 = .ok (.aload_n 0, 1) := by decide +kernel
theorem dX8_standard_59 : decode cX8_standard 59 = .ok (.getfield 24, 3) := by decide +kernel
theorem dX8_standard_62 : decode cX8_standard 62 = .ok (.iload_n 1, 1) := by decide +kernel
theorem dX8_standard_63 : decode cX8_standard 63 = .ok (.invokevirtual 185, 3) := by decide +kernel
theorem dX8_standard_66 : decode cX8_standard 66 = .ok (.istore_n 2, 1) := by decide +kernel
theorem dX8_standard_67 : decode cX8_standard 67 = .ok (.aload_n 0, 1) := by decide +kernel
theorem dX8_standard_68 : decode cX8_standard 68 = .ok (.iload_n 2, 1) := by decide +kernel
theorem dX8_standard_69 : decode cX8_standard 69 = .ok (.invokestatic 106, 3) := by decide +kernel
theorem dX8_standard_72 : decode cX8_standard 72 = .ok (.invokevirtual 136, 3) := by decide +kernel
theorem dX8_standard_75 : decode cX8_standard 75 = .ok (.iconst 0, 1) := by decide +kernel
theorem dX8_standard_76 : decode cX8_standard 76 = .ok (.istore_n 3, 1) := by decide +kernel
theorem dX8_standard_77 : decode cX8_standard 77 = .ok (.iload_n 3, 1) := by decide +kernel
theorem dX8_standard_78 : decode cX8_standard 78 = .ok (.bipush 16, 2) := by decide +kernel
theorem dX8_standard_80 : decode cX8_standard 80 = .ok (.if_icmp .ge 25, 3) := by decide +kernel
theorem dX8_standard_83 : decode cX8_standard 83 = .ok (.iload_n 2, 1) := by decide +kernel
theorem dX8_standard_84 : decode cX8_standard 84 = .ok (.iload_n 3, 1) := by decide +kernel
theorem dX8_standard_85 : decode cX8_standard 85 = .ok (.invokestatic 103, 3) := by decide +kernel
theorem dX8_standard_88 : decode cX8_standard 88 = .ok (.ifCond .eq 11, 3) := by decide +kernel
theorem dX8_standard_91 : decode cX8_standard 91 = .ok (.aload_n 0, 1) := by decide +kernel
theorem dX8_standard_92 : decode cX8_standard 92 = .ok (.getfield 24, 3) := by decide +kernel
theorem dX8_standard_95 : decode cX8_standard 95 = .ok (.iload_n 3, 1) := by decide +kernel
theorem dX8_standard_96 : decode cX8_standard 96 = .ok (.invokevirtual 188, 3) := by decide +kernel
theorem dX8_standard_99 : decode cX8_standard 99 = .ok (.iinc 3 1, 3) := by decide +kernel
theorem dX8_standard_102 : decode cX8_standard 102 = .ok (.goto (-25), 3) := by decide +kernel
theorem dX8_standard_105 : decode cX8_standard 105 = .ok (.aload_n 0, 1) := by decide +kernel
theorem dX8_standard_106 : decode cX8_standard 106 = .ok (.getfield 24, 3) := by decide +kernel
theorem dX8_standard_109 : decode cX8_standard 109 = .ok (.iload_n 1, 1) := by decide +kernel
theorem dX8_standard_110 : decode cX8_standard 110 = .ok (.invokevirtual 191, 3) := by decide +kernel
theorem dX8_standard_113 : decode cX8_standard 113 = .ok (.ireturn, 1) := by decide +kernel
theorem dX8_becomes_0 : decode cX8_becomes 0 = .ok (.aload_n 0, 1) := by decide +kernel
theorem dX8_becomes_1 : decode cX8_becomes 1 = .ok (.iload_n 1, 1) := by decide +kernel
theorem dX8_becomes_2 : decode cX8_becomes 2 = .ok (.invokevirtual 140, 3) := by decide +kernel
theorem dX8_becomes_5 : decode cX8_becomes 5 = .ok (.aload_n 0, 1) := by decide +kernel
theorem dX8_becomes_6 : decode cX8_becomes 6 = .ok (.iload_n 2, 1) := by decide +kernel
theorem dX8_becomes_7 : decode cX8_becomes 7 = .ok (.invokevirtual 133, 3) := by decide +kernel
theorem dX8_becomes_10 : decode cX8_becomes 10 = .ok (.aload_n 0, 1) := by decide +kernel
theorem dX8_becomes_11 : decode cX8_becomes 11 = .ok (.getfield 56, 3) := by decide +kernel
theorem dX8_becomes_14 : decode cX8_becomes 14 = .ok (.iload_n 2, 1) := by decide +kernel
theorem dX8_becomes_15 : decode cX8_becomes 15 = .ok (.iconst 0, 1) := by decide +kernel
theorem dX8_becomes_16 : decode cX8_becomes 16 = .ok (.invokevirtual 194, 3) := by decide +kernel
theorem dX8_becomes_19 : decode cX8_becomes 19 = .ok (.aload_n 0, 1) := by decide +kernel
theorem dX8_becomes_20 : decode cX8_becomes 20 = .ok (.getfield 56, 3) := by decide +kernel
theorem dX8_becomes_23 : decode cX8_becomes 23 = .ok (.iload_n 1, 1) := by decide +kernel
theorem dX8_becomes_24 : decode cX8_becomes 24 = .ok (.invokevirtual 198, 3) := by decide +kernel
theorem dX8_becomes_27 : decode cX8_becomes 27 = .ok (.ireturn, 1) := by decide +kernel
theorem dX8_valueIn_0 : decode cX8_valueIn 0 = .ok (.aload_n 0, 1) := by decide +kernel
theorem dX8_valueIn_1 : decode cX8_valueIn 1 = .ok (.iload_n 1, 1) := by decide +kernel
theorem dX8_valueIn_2 : decode cX8_valueIn 2 = .ok (.invokevirtual 140, 3) := by decide +kernel
theorem dX8_valueIn_5 : decode cX8_valueIn 5 = .ok (.aload_n 0, 1) := by decide +kernel
theorem dX8_valueIn_6 : decode cX8_valueIn 6 = .ok (.iload_n 2, 1) := by decide +kernel
theorem dX8_valueIn_7 : decode cX8_valueIn 7 = .ok (.invokevirtual 140, 3) := by decide +kernel
theorem dX8_valueIn_10 : decode cX8_valueIn 10 = .ok (.aload_n 0, 1) := by decide +kernel
theorem dX8_valueIn_11 : decode cX8_valueIn 11 = .ok (.getfield 37, 3) := by decide +kernel
theorem dX8_valueIn_14 : decode cX8_valueIn 14 = .ok (.iload_n 1, 1) := by decide +kernel
theorem dX8_valueIn_15 : decode cX8_valueIn 15 = .ok (.iload_n 2, 1) := by decide +kernel
theorem dX8_valueIn_16 : decode cX8_valueIn 16 = .ok (.invokevirtual 201, 3) := by decide +kernel
theorem dX8_valueIn_19 : decode cX8_valueIn 19 = .ok (.ireturn, 1) := by decide +kernel
theorem dX8_valueLike_0 : decode cX8_valueLike 0 = .ok (.aload_n 0, 1) := by decide +kernel
theorem dX8_valueLike_1 : decode cX8_valueLike 1 = .ok (.iload_n 1, 1) := by decide +kernel
theorem dX8_valueLike_2 : decode cX8_valueLike 2 = .ok (.invokevirtual 140, 3) := by decide +kernel
theorem dX8_valueLike_5 : decode cX8_valueLike 5 = .ok (.aload_n 0, 1) := by decide +kernel
theorem dX8_valueLike_6 : decode cX8_valueLike 6 = .ok (.iload_n 2, 1) := by decide +kernel
theorem dX8_valueLike_7 : decode cX8_valueLike 7 = .ok (.invokevirtual 140, 3) := by decide +kernel
theorem dX8_valueLike_10 : decode cX8_valueLike 10 = .ok (.aload_n 0, 1) := by decide +kernel
theorem dX8_valueLike_11 : decode cX8_valueLike 11 = .ok (.getfield 37, 3) := by decide +kernel
theorem dX8_valueLike_14 : decode cX8_valueLike 14 = .ok (.iload_n 1, 1) := by decide +kernel
theorem dX8_valueLike_15 : decode cX8_valueLike 15 = .ok (.iload_n 2, 1) := by decide +kernel
theorem dX8_valueLike_16 : decode cX8_valueLike 16 = .ok (.invokevirtual 207, 3) := by decide +kernel
theorem dX8_valueLike_19 : decode cX8_valueLike 19 = .ok (.ireturn, 1) := by decide +kernel
theorem dX8_forcesIn_0 : decode cX8_forcesIn 0 = .ok (.aload_n 0, 1) := by decide +kernel
theorem dX8_forcesIn_1 : decode cX8_forcesIn 1 = .ok (.iload_n 1, 1) := by decide +kernel
theorem dX8_forcesIn_2 : decode cX8_forcesIn 2 = .ok (.invokevirtual 127, 3) := by decide +kernel
theorem dX8_forcesIn_5 : decode cX8_forcesIn 5 = .ok (.aload_n 0, 1) := by decide +kernel
theorem dX8_forcesIn_6 : decode cX8_forcesIn 6 = .ok (.iload_n 2, 1) := by decide +kernel
theorem dX8_forcesIn_7 : decode cX8_forcesIn 7 = .ok (.invokevirtual 140, 3) := by decide +kernel
theorem dX8_forcesIn_10 : decode cX8_forcesIn 10 = .ok (.aload_n 0, 1) := by decide +kernel
theorem dX8_forcesIn_11 : decode cX8_forcesIn 11 = .ok (.iload_n 3, 1) := by decide +kernel
theorem dX8_forcesIn_12 : decode cX8_forcesIn 12 = .ok (.invokevirtual 140, 3) := by decide +kernel
theorem dX8_forcesIn_15 : decode cX8_forcesIn 15 = .ok (.aload_n 0, 1) := by decide +kernel
theorem dX8_forcesIn_16 : decode cX8_forcesIn 16 = .ok (.getfield 44, 3) := by decide +kernel
theorem dX8_forcesIn_19 : decode cX8_forcesIn 19 = .ok (.iload_n 2, 1) := by decide +kernel
theorem dX8_forcesIn_20 : decode cX8_forcesIn 20 = .ok (.iload_n 3, 1) := by decide +kernel
theorem dX8_forcesIn_21 : decode cX8_forcesIn 21 = .ok (.invokevirtual 201, 3) := by decide +kernel
theorem dX8_forcesIn_24 : decode cX8_forcesIn 24 = .ok (.iload_n 1, 1) := by decide +kernel
theorem dX8_forcesIn_25 : decode cX8_forcesIn 25 = .ok (.invokestatic 103, 3) := by decide +kernel
theorem dX8_forcesIn_28 : decode cX8_forcesIn 28 = .ok (.ireturn, 1) := by decide +kernel
theorem dX8_forcesLike_0 : decode cX8_forcesLike 0 = .ok (.aload_n 0, 1) := by decide +kernel
theorem dX8_forcesLike_1 : decode cX8_forcesLike 1 = .ok (.iload_n 1, 1) := by decide +kernel
theorem dX8_forcesLike_2 : decode cX8_forcesLike 2 = .ok (.invokevirtual 127, 3) := by decide +kernel
theorem dX8_forcesLike_5 : decode cX8_forcesLike 5 = .ok (.aload_n 0, 1) := by decide +kernel
theorem dX8_forcesLike_6 : decode cX8_forcesLike 6 = .ok (.iload_n 2, 1) := by decide +kernel
theorem dX8_forcesLike_7 : decode cX8_forcesLike 7 = .ok (.invokevirtual 140, 3) := by decide +kernel
theorem dX8_forcesLike_10 : decode cX8_forcesLike 10 = .ok (.aload_n 0, 1) := by decide +kernel
theorem dX8_forcesLike_11 : decode cX8_forcesLike 11 = .ok (.iload_n 3, 1) := by decide +kernel
theorem dX8_forcesLike_12 : decode cX8_forcesLike 12 = .ok (.invokevirtual 140, 3) := by decide +kernel
theorem dX8_forcesLike_15 : decode cX8_forcesLike 15 = .ok (.aload_n 0, 1) := by decide +kernel
theorem dX8_forcesLike_16 : decode cX8_forcesLike 16 = .ok (.getfield 44, 3) := by decide +kernel
theorem dX8_forcesLike_19 : decode cX8_forcesLike 19 = .ok (.iload_n 2, 1) := by decide +kernel
theorem dX8_forcesLike_20 : decode cX8_forcesLike 20 = .ok (.iload_n 3, 1) := by decide +kernel
theorem dX8_forcesLike_21 : decode cX8_forcesLike 21 = .ok (.invokevirtual 207, 3) := by decide +kernel
theorem dX8_forcesLike_24 : decode cX8_forcesLike 24 = .ok (.iload_n 1, 1) := by decide +kernel
theorem dX8_forcesLike_25 : decode cX8_forcesLike 25 = .ok (.invokestatic 103, 3) := by decide +kernel
theorem dX8_forcesLike_28 : decode cX8_forcesLike 28 = .ok (.ireturn, 1) := by decide +kernel
theorem dX8_mix_0 : decode cX8_mix 0 = .ok (.aload_n 0, 1) := by decide +kernel
theorem dX8_mix_1 : decode cX8_mix 1 = .ok (.iload_n 1, 1) := by decide +kernel
theorem dX8_mix_2 : decode cX8_mix 2 = .ok (.invokevirtual 140, 3) := by decide +kernel
theorem dX8_mix_5 : decode cX8_mix 5 = .ok (.aload_n 0, 1) := by decide +kernel
theorem dX8_mix_6 : decode cX8_mix 6 = .ok (.iload_n 2, 1) := by decide +kernel
theorem dX8_mix_7 : decode cX8_mix 7 = .ok (.invokevirtual 127, 3) := by decide +kernel
theorem dX8_mix_10 : decode cX8_mix 10 = .ok (.aload_n 0, 1) := by decide +kernel
theorem dX8_mix_11 : decode cX8_mix 11 = .ok (.iload_n 3, 1) := by decide +kernel
theorem dX8_mix_12 : decode cX8_mix 12 = .ok (.invokevirtual 140, 3) := by decide +kernel
theorem dX8_mix_15 : decode cX8_mix 15 = .ok (.aload_n 0, 1) := by decide +kernel
theorem dX8_mix_16 : decode cX8_mix 16 = .ok (.iload 4, 2) := by decide +kernel
theorem dX8_mix_18 : decode cX8_mix 18 = .ok (.invokevirtual 127, 3) := by decide +kernel
theorem dX8_mix_21 : decode cX8_mix 21 = .ok (.aload_n 0, 1) := by decide +kernel
theorem dX8_mix_22 : decode cX8_mix 22 = .ok (.getfield 18, 3) := by decide +kernel
theorem dX8_mix_25 : decode cX8_mix 25 = .ok (.iload_n 2, 1) := by decide +kernel
theorem dX8_mix_26 : decode cX8_mix 26 = .ok (.iload 4, 2) := by decide +kernel
theorem dX8_mix_28 : decode cX8_mix 28 = .ok (.invokevirtual 93, 3) := by decide +kernel
theorem dX8_mix_31 : decode cX8_mix 31 = .ok (.ifCond .eq 13, 3) := by decide +kernel
theorem dX8_mix_34 : decode cX8_mix 34 = .ok (.new 82, 3) := by decide +kernel
theorem dX8_mix_37 : decode cX8_mix 37 = .ok (.dup, 1) := by decide +kernel
theorem dX8_mix_38 : decode cX8_mix 38 = .ok (.ldc 210, 2) := by decide +kernel
theorem dX8_mix_40 : decode cX8_mix 40 = .ok (.invokespecial 86, 3) := by decide +kernel
theorem dX8_mix_43 : decode cX8_mix 43 = .ok (.athrow, 1) := by decide +kernel
theorem dX8_mix_44 : decode cX8_mix 44 = .ok (.aload_n 0, 1) := by decide +kernel
theorem dX8_mix_45 : decode cX8_mix 45 = .ok (.getfield 24, 3) := by decide +kernel
theorem dX8_mix_48 : decode cX8_mix 48 = .ok (.iload_n 1, 1) := by decide +kernel
theorem dX8_mix_49 : decode cX8_mix 49 = .ok (.iload_n 2, 1) := by decide +kernel
theorem dX8_mix_50 : decode cX8_mix 50 = .ok (.iload_n 3, 1) := by decide +kernel
theorem dX8_mix_51 : decode cX8_mix 51 = .ok (.iload 4, 2) := by decide +kernel
theorem dX8_mix_53 : decode cX8_mix 53 = .ok (.invokevirtual 212, 3) := by decide +kernel
theorem dX8_mix_56 : decode cX8_mix 56 = .ok (.istore 5, 2) := by decide +kernel
theorem dX8_mix_58 : decode cX8_mix 58 = .ok (.iload 5, 2) := by decide +kernel
theorem dX8_mix_60 : decode cX8_mix 60 = .ok (.iconst 4, 1) := by decide +kernel
theorem dX8_mix_61 : decode cX8_mix 61 = .ok (.if_icmp .le 13, 3) := by decide +kernel
theorem dX8_mix_64 : decode cX8_mix 64 = .ok (.new 82, 3) := by decide +kernel
theorem dX8_mix_67 : decode cX8_mix 67 = .ok (.dup, 1) := by decide +kernel
theorem dX8_mix_68 : decode cX8_mix 68 = .ok (.ldc 216, 2) := by decide +kernel
theorem dX8_mix_70 : decode cX8_mix 70 = .ok (.invokespecial 86, 3) := by decide +kernel
theorem dX8_mix_73 : decode cX8_mix 73 = .ok (.athrow, 1) := by decide +kernel
theorem dX8_mix_74 : decode cX8_mix 74 = .ok (.aload_n 0, 1) := by decide +kernel
theorem dX8_mix_75 : decode cX8_mix 75 = .ok (.iconst 1, 1) := by decide +kernel
theorem dX8_mix_76 : decode cX8_mix 76 = .ok (.invokevirtual 136, 3) := by decide +kernel
theorem dX8_mix_79 : decode cX8_mix 79 = .ok (.aload_n 0, 1) := by decide +kernel
theorem dX8_mix_80 : decode cX8_mix 80 = .ok (.getfield 24, 3) := by decide +kernel
theorem dX8_mix_83 : decode cX8_mix 83 = .ok (.iload 5, 2) := by decide +kernel
theorem dX8_mix_85 : decode cX8_mix 85 = .ok (.invokevirtual 218, 3) := by decide +kernel
theorem dX8_mix_88 : decode cX8_mix 88 = .ok (.ireturn, 1) := by decide +kernel
theorem dX8_atom_0 : decode cX8_atom 0 = .ok (.iload_n 1, 1) := by decide +kernel
theorem dX8_atom_1 : decode cX8_atom 1 = .ok (.bipush 101, 2) := by decide +kernel
theorem dX8_atom_3 : decode cX8_atom 3 = .ok (.if_icmp .eq 19, 3) := by decide +kernel
theorem dX8_atom_6 : decode cX8_atom 6 = .ok (.iload_n 1, 1) := by decide +kernel
theorem dX8_atom_7 : decode cX8_atom 7 = .ok (.bipush 61, 2) := by decide +kernel
theorem dX8_atom_9 : decode cX8_atom 9 = .ok (.if_icmp .eq 13, 3) := by decide +kernel
theorem dX8_atom_12 : decode cX8_atom 12 = .ok (.new 143, 3) := by decide +kernel
theorem dX8_atom_15 : decode cX8_atom 15 = .ok (.dup, 1) := by decide +kernel
theorem dX8_atom_16 : decode cX8_atom 16 = .ok (.ldc 221, 2) := by decide +kernel
theorem dX8_atom_18 : decode cX8_atom 18 = .ok (.invokespecial 147, 3) := by decide +kernel
theorem dX8_atom_21 : decode cX8_atom 21 = .ok (.athrow, 1) := by decide +kernel
theorem dX8_atom_22 : decode cX8_atom 22 = .ok (.aload_n 0, 1) := by decide +kernel
theorem dX8_atom_23 : decode cX8_atom 23 = .ok (.iload_n 2, 1) := by decide +kernel
theorem dX8_atom_24 : decode cX8_atom 24 = .ok (.invokevirtual 223, 3) := by decide +kernel
theorem dX8_atom_27 : decode cX8_atom 27 = .ok (.aload_n 0, 1) := by decide +kernel
theorem dX8_atom_28 : decode cX8_atom 28 = .ok (.iload_n 3, 1) := by decide +kernel
theorem dX8_atom_29 : decode cX8_atom 29 = .ok (.invokevirtual 223, 3) := by decide +kernel
theorem dX8_atom_32 : decode cX8_atom 32 = .ok (.aload_n 0, 1) := by decide +kernel
theorem dX8_atom_33 : decode cX8_atom 33 = .ok (.invokevirtual 226, 3) := by decide +kernel
theorem dX8_atom_36 : decode cX8_atom 36 = .ok (.aload_n 0, 1) := by decide +kernel
theorem dX8_atom_37 : decode cX8_atom 37 = .ok (.getfield 28, 3) := by decide +kernel
theorem dX8_atom_40 : decode cX8_atom 40 = .ok (.iload_n 1, 1) := by decide +kernel
theorem dX8_atom_41 : decode cX8_atom 41 = .ok (.iload_n 2, 1) := by decide +kernel
theorem dX8_atom_42 : decode cX8_atom 42 = .ok (.iload_n 3, 1) := by decide +kernel
theorem dX8_atom_43 : decode cX8_atom 43 = .ok (.iconst (-1), 1) := by decide +kernel
theorem dX8_atom_44 : decode cX8_atom 44 = .ok (.iconst 1, 1) := by decide +kernel
theorem dX8_atom_45 : decode cX8_atom 45 = .ok (.iload_n 2, 1) := by decide +kernel
theorem dX8_atom_46 : decode cX8_atom 46 = .ok (.invokestatic 229, 3) := by decide +kernel
theorem dX8_atom_49 : decode cX8_atom 49 = .ok (.iload_n 3, 1) := by decide +kernel
theorem dX8_atom_50 : decode cX8_atom 50 = .ok (.invokestatic 229, 3) := by decide +kernel
theorem dX8_atom_53 : decode cX8_atom 53 = .ok (.ior, 1) := by decide +kernel
theorem dX8_atom_54 : decode cX8_atom 54 = .ok (.invokevirtual 232, 3) := by decide +kernel
theorem dX8_atom_57 : decode cX8_atom 57 = .ok (.ireturn, 1) := by decide +kernel
theorem dX8_both_0 : decode cX8_both 0 = .ok (.aload_n 0, 1) := by decide +kernel
theorem dX8_both_1 : decode cX8_both 1 = .ok (.iload_n 2, 1) := by decide +kernel
theorem dX8_both_2 : decode cX8_both 2 = .ok (.invokevirtual 235, 3) := by decide +kernel
theorem dX8_both_5 : decode cX8_both 5 = .ok (.aload_n 0, 1) := by decide +kernel
theorem dX8_both_6 : decode cX8_both 6 = .ok (.iload_n 3, 1) := by decide +kernel
theorem dX8_both_7 : decode cX8_both 7 = .ok (.invokevirtual 235, 3) := by decide +kernel
theorem dX8_both_10 : decode cX8_both 10 = .ok (.iload_n 1, 1) := by decide +kernel
theorem dX8_both_11 : decode cX8_both 11 = .ok (.bipush 97, 2) := by decide +kernel
theorem dX8_both_13 : decode cX8_both 13 = .ok (.if_icmp .eq 19, 3) := by decide +kernel
theorem dX8_both_16 : decode cX8_both 16 = .ok (.iload_n 1, 1) := by decide +kernel
theorem dX8_both_17 : decode cX8_both 17 = .ok (.bipush 111, 2) := by decide +kernel
theorem dX8_both_19 : decode cX8_both 19 = .ok (.if_icmp .eq 13, 3) := by decide +kernel
theorem dX8_both_22 : decode cX8_both 22 = .ok (.new 143, 3) := by decide +kernel
theorem dX8_both_25 : decode cX8_both 25 = .ok (.dup, 1) := by decide +kernel
theorem dX8_both_26 : decode cX8_both 26 = .ok (.ldc 221, 2) := by decide +kernel
theorem dX8_both_28 : decode cX8_both 28 = .ok (.invokespecial 147, 3) := by decide +kernel
theorem dX8_both_31 : decode cX8_both 31 = .ok (.athrow, 1) := by decide +kernel
theorem dX8_both_32 : decode cX8_both 32 = .ok (.iconst 1, 1) := by decide +kernel
theorem dX8_both_33 : decode cX8_both 33 = .ok (.aload_n 0, 1) := by decide +kernel
theorem dX8_both_34 : decode cX8_both 34 = .ok (.getfield 28, 3) := by decide +kernel
theorem dX8_both_37 : decode cX8_both 37 = .ok (.iload_n 2, 1) := by decide +kernel
theorem dX8_both_38 : decode cX8_both 38 = .ok (.invokevirtual 238, 3) := by decide +kernel
theorem dX8_both_41 : decode cX8_both 41 = .ok (.aload_n 0, 1) := by decide +kernel
theorem dX8_both_42 : decode cX8_both 42 = .ok (.getfield 28, 3) := by decide +kernel
theorem dX8_both_45 : decode cX8_both 45 = .ok (.iload_n 3, 1) := by decide +kernel
theorem dX8_both_46 : decode cX8_both 46 = .ok (.invokevirtual 238, 3) := by decide +kernel
theorem dX8_both_49 : decode cX8_both 49 = .ok (.invokestatic 241, 3) := by decide +kernel
theorem dX8_both_52 : decode cX8_both 52 = .ok (.iadd, 1) := by decide +kernel
theorem dX8_both_53 : decode cX8_both 53 = .ok (.istore 4, 2) := by decide +kernel
theorem dX8_both_55 : decode cX8_both 55 = .ok (.iload 4, 2) := by decide +kernel
theorem dX8_both_57 : decode cX8_both 57 = .ok (.invokestatic 246, 3) := by decide +kernel
theorem dX8_both_60 : decode cX8_both 60 = .ok (.aload_n 0, 1) := by decide +kernel
theorem dX8_both_61 : decode cX8_both 61 = .ok (.invokevirtual 226, 3) := by decide +kernel
theorem dX8_both_64 : decode cX8_both 64 = .ok (.aload_n 0, 1) := by decide +kernel
theorem dX8_both_65 : decode cX8_both 65 = .ok (.getfield 28, 3) := by decide +kernel
theorem dX8_both_68 : decode cX8_both 68 = .ok (.iload_n 2, 1) := by decide +kernel
theorem dX8_both_69 : decode cX8_both 69 = .ok (.invokevirtual 249, 3) := by decide +kernel
theorem dX8_both_72 : decode cX8_both 72 = .ok (.aload_n 0, 1) := by decide +kernel
theorem dX8_both_73 : decode cX8_both 73 = .ok (.getfield 28, 3) := by decide +kernel
theorem dX8_both_76 : decode cX8_both 76 = .ok (.iload_n 3, 1) := by decide +kernel
theorem dX8_both_77 : decode cX8_both 77 = .ok (.invokevirtual 249, 3) := by decide +kernel
theorem dX8_both_80 : decode cX8_both 80 = .ok (.ior, 1) := by decide +kernel
theorem dX8_both_81 : decode cX8_both 81 = .ok (.istore 5, 2) := by decide +kernel
theorem dX8_both_83 : decode cX8_both 83 = .ok (.aload_n 0, 1) := by decide +kernel
theorem dX8_both_84 : decode cX8_both 84 = .ok (.getfield 28, 3) := by decide +kernel
theorem dX8_both_87 : decode cX8_both 87 = .ok (.iload_n 1, 1) := by decide +kernel
theorem dX8_both_88 : decode cX8_both 88 = .ok (.iload_n 2, 1) := by decide +kernel
theorem dX8_both_89 : decode cX8_both 89 = .ok (.iload_n 3, 1) := by decide +kernel
theorem dX8_both_90 : decode cX8_both 90 = .ok (.iconst (-1), 1) := by decide +kernel
theorem dX8_both_91 : decode cX8_both 91 = .ok (.iload 4, 2) := by decide +kernel
theorem dX8_both_93 : decode cX8_both 93 = .ok (.iload 5, 2) := by decide +kernel
theorem dX8_both_95 : decode cX8_both 95 = .ok (.invokevirtual 232, 3) := by decide +kernel
theorem dX8_both_98 : decode cX8_both 98 = .ok (.ireturn, 1) := by decide +kernel
theorem dX8_not_0 : decode cX8_not 0 = .ok (.aload_n 0, 1) := by decide +kernel
theorem dX8_not_1 : decode cX8_not 1 = .ok (.iload_n 1, 1) := by decide +kernel
theorem dX8_not_2 : decode cX8_not 2 = .ok (.invokevirtual 235, 3) := by decide +kernel
theorem dX8_not_5 : decode cX8_not 5 = .ok (.iconst 1, 1) := by decide +kernel
theorem dX8_not_6 : decode cX8_not 6 = .ok (.aload_n 0, 1) := by decide +kernel
theorem dX8_not_7 : decode cX8_not 7 = .ok (.getfield 28, 3) := by decide +kernel
theorem dX8_not_10 : decode cX8_not 10 = .ok (.iload_n 1, 1) := by decide +kernel
theorem dX8_not_11 : decode cX8_not 11 = .ok (.invokevirtual 238, 3) := by decide +kernel
theorem dX8_not_14 : decode cX8_not 14 = .ok (.iadd, 1) := by decide +kernel
theorem dX8_not_15 : decode cX8_not 15 = .ok (.istore_n 2, 1) := by decide +kernel
theorem dX8_not_16 : decode cX8_not 16 = .ok (.iload_n 2, 1) := by decide +kernel
theorem dX8_not_17 : decode cX8_not 17 = .ok (.invokestatic 246, 3) := by decide +kernel
theorem dX8_not_20 : decode cX8_not 20 = .ok (.aload_n 0, 1) := by decide +kernel
theorem dX8_not_21 : decode cX8_not 21 = .ok (.invokevirtual 226, 3) := by decide +kernel
theorem dX8_not_24 : decode cX8_not 24 = .ok (.aload_n 0, 1) := by decide +kernel
theorem dX8_not_25 : decode cX8_not 25 = .ok (.getfield 28, 3) := by decide +kernel
theorem dX8_not_28 : decode cX8_not 28 = .ok (.bipush 110, 2) := by decide +kernel
theorem dX8_not_30 : decode cX8_not 30 = .ok (.iload_n 1, 1) := by decide +kernel
theorem dX8_not_31 : decode cX8_not 31 = .ok (.iconst (-1), 1) := by decide +kernel
theorem dX8_not_32 : decode cX8_not 32 = .ok (.iconst (-1), 1) := by decide +kernel
theorem dX8_not_33 : decode cX8_not 33 = .ok (.iload_n 2, 1) := by decide +kernel
theorem dX8_not_34 : decode cX8_not 34 = .ok (.aload_n 0, 1) := by decide +kernel
theorem dX8_not_35 : decode cX8_not 35 = .ok (.getfield 28, 3) := by decide +kernel
theorem dX8_not_38 : decode cX8_not 38 = .ok (.iload_n 1, 1) := by decide +kernel
theorem dX8_not_39 : decode cX8_not 39 = .ok (.invokevirtual 249, 3) := by decide +kernel
theorem dX8_not_42 : decode cX8_not 42 = .ok (.invokevirtual 232, 3) := by decide +kernel
theorem dX8_not_45 : decode cX8_not 45 = .ok (.ireturn, 1) := by decide +kernel
theorem dX8_bind_0 : decode cX8_bind 0 = .ok (.aload_n 0, 1) := by decide +kernel
theorem dX8_bind_1 : decode cX8_bind 1 = .ok (.iload 4, 2) := by decide +kernel
theorem dX8_bind_3 : decode cX8_bind 3 = .ok (.invokevirtual 235, 3) := by decide +kernel
theorem dX8_bind_6 : decode cX8_bind 6 = .ok (.iload_n 1, 1) := by decide +kernel
theorem dX8_bind_7 : decode cX8_bind 7 = .ok (.bipush 65, 2) := by decide +kernel
theorem dX8_bind_9 : decode cX8_bind 9 = .ok (.if_icmp .eq 19, 3) := by decide +kernel
theorem dX8_bind_12 : decode cX8_bind 12 = .ok (.iload_n 1, 1) := by decide +kernel
theorem dX8_bind_13 : decode cX8_bind 13 = .ok (.bipush 69, 2) := by decide +kernel
theorem dX8_bind_15 : decode cX8_bind 15 = .ok (.if_icmp .eq 13, 3) := by decide +kernel
theorem dX8_bind_18 : decode cX8_bind 18 = .ok (.new 143, 3) := by decide +kernel
theorem dX8_bind_21 : decode cX8_bind 21 = .ok (.dup, 1) := by decide +kernel
theorem dX8_bind_22 : decode cX8_bind 22 = .ok (.ldc 221, 2) := by decide +kernel
theorem dX8_bind_24 : decode cX8_bind 24 = .ok (.invokespecial 147, 3) := by decide +kernel
theorem dX8_bind_27 : decode cX8_bind 27 = .ok (.athrow, 1) := by decide +kernel
theorem dX8_bind_28 : decode cX8_bind 28 = .ok (.iload_n 2, 1) := by decide +kernel
theorem dX8_bind_29 : decode cX8_bind 29 = .ok (.ifCond .lt 8, 3) := by decide +kernel
theorem dX8_bind_32 : decode cX8_bind 32 = .ok (.iload_n 2, 1) := by decide +kernel
theorem dX8_bind_33 : decode cX8_bind 33 = .ok (.iconst 4, 1) := by decide +kernel
theorem dX8_bind_34 : decode cX8_bind 34 = .ok (.if_icmp .lt 13, 3) := by decide +kernel
theorem dX8_bind_37 : decode cX8_bind 37 = .ok (.new 143, 3) := by decide +kernel
theorem dX8_bind_40 : decode cX8_bind 40 = .ok (.dup, 1) := by decide +kernel
theorem dX8_bind_41 : decode cX8_bind 41 = .ok (.ldc 252, 2) := by decide +kernel
theorem dX8_bind_43 : decode cX8_bind 43 = .ok (.invokespecial 147, 3) := by decide +kernel
theorem dX8_bind_46 : decode cX8_bind 46 = .ok (.athrow, 1) := by decide +kernel
theorem dX8_bind_47 : decode cX8_bind 47 = .ok (.aload_n 0, 1) := by decide +kernel
theorem dX8_bind_48 : decode cX8_bind 48 = .ok (.iload_n 3, 1) := by decide +kernel
theorem dX8_bind_49 : decode cX8_bind 49 = .ok (.invokevirtual 223, 3) := by decide +kernel
theorem dX8_bind_52 : decode cX8_bind 52 = .ok (.iconst 1, 1) := by decide +kernel
theorem dX8_bind_53 : decode cX8_bind 53 = .ok (.aload_n 0, 1) := by decide +kernel
theorem dX8_bind_54 : decode cX8_bind 54 = .ok (.getfield 28, 3) := by decide +kernel
theorem dX8_bind_57 : decode cX8_bind 57 = .ok (.iload 4, 2) := by decide +kernel
theorem dX8_bind_59 : decode cX8_bind 59 = .ok (.invokevirtual 238, 3) := by decide +kernel
theorem dX8_bind_62 : decode cX8_bind 62 = .ok (.iadd, 1) := by decide +kernel
theorem dX8_bind_63 : decode cX8_bind 63 = .ok (.istore 5, 2) := by decide +kernel
theorem dX8_bind_65 : decode cX8_bind 65 = .ok (.iload 5, 2) := by decide +kernel
theorem dX8_bind_67 : decode cX8_bind 67 = .ok (.invokestatic 246, 3) := by decide +kernel
theorem dX8_bind_70 : decode cX8_bind 70 = .ok (.aload_n 0, 1) := by decide +kernel
theorem dX8_bind_71 : decode cX8_bind 71 = .ok (.invokevirtual 226, 3) := by decide +kernel
theorem dX8_bind_74 : decode cX8_bind 74 = .ok (.aload_n 0, 1) := by decide +kernel
theorem dX8_bind_75 : decode cX8_bind 75 = .ok (.getfield 28, 3) := by decide +kernel
theorem dX8_bind_78 : decode cX8_bind 78 = .ok (.iload 4, 2) := by decide +kernel
theorem dX8_bind_80 : decode cX8_bind 80 = .ok (.invokevirtual 249, 3) := by decide +kernel
theorem dX8_bind_83 : decode cX8_bind 83 = .ok (.iconst 1, 1) := by decide +kernel
theorem dX8_bind_84 : decode cX8_bind 84 = .ok (.iload_n 2, 1) := by decide +kernel
theorem dX8_bind_85 : decode cX8_bind 85 = .ok (.ishl, 1) := by decide +kernel
theorem dX8_bind_86 : decode cX8_bind 86 = .ok (.iconst (-1), 1) := by decide +kernel
theorem dX8_bind_87 : decode cX8_bind 87 = .ok (.ixor, 1) := by decide +kernel
theorem dX8_bind_88 : decode cX8_bind 88 = .ok (.iand, 1) := by decide +kernel
theorem dX8_bind_89 : decode cX8_bind 89 = .ok (.iload_n 3, 1) := by decide +kernel
theorem dX8_bind_90 : decode cX8_bind 90 = .ok (.invokestatic 229, 3) := by decide +kernel
theorem dX8_bind_93 : decode cX8_bind 93 = .ok (.ior, 1) := by decide +kernel
theorem dX8_bind_94 : decode cX8_bind 94 = .ok (.istore 6, 2) := by decide +kernel
theorem dX8_bind_96 : decode cX8_bind 96 = .ok (.aload_n 0, 1) := by decide +kernel
theorem dX8_bind_97 : decode cX8_bind 97 = .ok (.getfield 28, 3) := by decide +kernel
theorem dX8_bind_100 : decode cX8_bind 100 = .ok (.iload_n 1, 1) := by decide +kernel
theorem dX8_bind_101 : decode cX8_bind 101 = .ok (.iload_n 3, 1) := by decide +kernel
theorem dX8_bind_102 : decode cX8_bind 102 = .ok (.iload 4, 2) := by decide +kernel
theorem dX8_bind_104 : decode cX8_bind 104 = .ok (.iload_n 2, 1) := by decide +kernel
theorem dX8_bind_105 : decode cX8_bind 105 = .ok (.iload 5, 2) := by decide +kernel
theorem dX8_bind_107 : decode cX8_bind 107 = .ok (.iload 6, 2) := by decide +kernel
theorem dX8_bind_109 : decode cX8_bind 109 = .ok (.invokevirtual 232, 3) := by decide +kernel
theorem dX8_bind_112 : decode cX8_bind 112 = .ok (.ireturn, 1) := by decide +kernel
theorem dX8_free_0 : decode cX8_free 0 = .ok (.aload_n 0, 1) := by decide +kernel
theorem dX8_free_1 : decode cX8_free 1 = .ok (.iload_n 1, 1) := by decide +kernel
theorem dX8_free_2 : decode cX8_free 2 = .ok (.invokevirtual 235, 3) := by decide +kernel
theorem dX8_free_5 : decode cX8_free 5 = .ok (.aload_n 0, 1) := by decide +kernel
theorem dX8_free_6 : decode cX8_free 6 = .ok (.getfield 28, 3) := by decide +kernel
theorem dX8_free_9 : decode cX8_free 9 = .ok (.iload_n 1, 1) := by decide +kernel
theorem dX8_free_10 : decode cX8_free 10 = .ok (.invokevirtual 249, 3) := by decide +kernel
theorem dX8_free_13 : decode cX8_free 13 = .ok (.ireturn, 1) := by decide +kernel
theorem dX8_value_0 : decode cX8_value 0 = .ok (.aload_n 0, 1) := by decide +kernel
theorem dX8_value_1 : decode cX8_value 1 = .ok (.iload_n 1, 1) := by decide +kernel
theorem dX8_value_2 : decode cX8_value 2 = .ok (.invokevirtual 254, 3) := by decide +kernel
theorem dX8_value_5 : decode cX8_value 5 = .ok (.aload_n 0, 1) := by decide +kernel
theorem dX8_value_6 : decode cX8_value 6 = .ok (.getfield 37, 3) := by decide +kernel
theorem dX8_value_9 : decode cX8_value 9 = .ok (.iload_n 1, 1) := by decide +kernel
theorem dX8_value_10 : decode cX8_value 10 = .ok (.invokevirtual 257, 3) := by decide +kernel
theorem dX8_value_13 : decode cX8_value 13 = .ok (.ireturn, 1) := by decide +kernel
theorem dX8_forces_0 : decode cX8_forces 0 = .ok (.aload_n 0, 1) := by decide +kernel
theorem dX8_forces_1 : decode cX8_forces 1 = .ok (.iload_n 1, 1) := by decide +kernel
theorem dX8_forces_2 : decode cX8_forces 2 = .ok (.invokevirtual 127, 3) := by decide +kernel
theorem dX8_forces_5 : decode cX8_forces 5 = .ok (.aload_n 0, 1) := by decide +kernel
theorem dX8_forces_6 : decode cX8_forces 6 = .ok (.iload_n 2, 1) := by decide +kernel
theorem dX8_forces_7 : decode cX8_forces 7 = .ok (.invokevirtual 254, 3) := by decide +kernel
theorem dX8_forces_10 : decode cX8_forces 10 = .ok (.aload_n 0, 1) := by decide +kernel
theorem dX8_forces_11 : decode cX8_forces 11 = .ok (.getfield 44, 3) := by decide +kernel
theorem dX8_forces_14 : decode cX8_forces 14 = .ok (.iload_n 2, 1) := by decide +kernel
theorem dX8_forces_15 : decode cX8_forces 15 = .ok (.invokevirtual 257, 3) := by decide +kernel
theorem dX8_forces_18 : decode cX8_forces 18 = .ok (.iload_n 1, 1) := by decide +kernel
theorem dX8_forces_19 : decode cX8_forces 19 = .ok (.invokestatic 103, 3) := by decide +kernel
theorem dX8_forces_22 : decode cX8_forces 22 = .ok (.ireturn, 1) := by decide +kernel
theorem dX8_weakly_0 : decode cX8_weakly 0 = .ok (.aload_n 0, 1) := by decide +kernel
theorem dX8_weakly_1 : decode cX8_weakly 1 = .ok (.iload_n 1, 1) := by decide +kernel
theorem dX8_weakly_2 : decode cX8_weakly 2 = .ok (.invokevirtual 127, 3) := by decide +kernel
theorem dX8_weakly_5 : decode cX8_weakly 5 = .ok (.aload_n 0, 1) := by decide +kernel
theorem dX8_weakly_6 : decode cX8_weakly 6 = .ok (.iload_n 2, 1) := by decide +kernel
theorem dX8_weakly_7 : decode cX8_weakly 7 = .ok (.invokevirtual 254, 3) := by decide +kernel
theorem dX8_weakly_10 : decode cX8_weakly 10 = .ok (.aload_n 0, 1) := by decide +kernel
theorem dX8_weakly_11 : decode cX8_weakly 11 = .ok (.getfield 50, 3) := by decide +kernel
theorem dX8_weakly_14 : decode cX8_weakly 14 = .ok (.iload_n 2, 1) := by decide +kernel
theorem dX8_weakly_15 : decode cX8_weakly 15 = .ok (.invokevirtual 257, 3) := by decide +kernel
theorem dX8_weakly_18 : decode cX8_weakly 18 = .ok (.iload_n 1, 1) := by decide +kernel
theorem dX8_weakly_19 : decode cX8_weakly 19 = .ok (.invokestatic 103, 3) := by decide +kernel
theorem dX8_weakly_22 : decode cX8_weakly 22 = .ok (.ireturn, 1) := by decide +kernel
theorem dX8_holds_0 : decode cX8_holds 0 = .ok (.aload_n 0, 1) := by decide +kernel
theorem dX8_holds_1 : decode cX8_holds 1 = .ok (.iload_n 1, 1) := by decide +kernel
theorem dX8_holds_2 : decode cX8_holds 2 = .ok (.invokevirtual 254, 3) := by decide +kernel
theorem dX8_holds_5 : decode cX8_holds 5 = .ok (.aload_n 0, 1) := by decide +kernel
theorem dX8_holds_6 : decode cX8_holds 6 = .ok (.iload_n 2, 1) := by decide +kernel
theorem dX8_holds_7 : decode cX8_holds 7 = .ok (.invokevirtual 133, 3) := by decide +kernel
theorem dX8_holds_10 : decode cX8_holds 10 = .ok (.aload_n 0, 1) := by decide +kernel
theorem dX8_holds_11 : decode cX8_holds 11 = .ok (.getfield 56, 3) := by decide +kernel
theorem dX8_holds_14 : decode cX8_holds 14 = .ok (.iload_n 2, 1) := by decide +kernel
theorem dX8_holds_15 : decode cX8_holds 15 = .ok (.iconst 0, 1) := by decide +kernel
theorem dX8_holds_16 : decode cX8_holds 16 = .ok (.invokevirtual 194, 3) := by decide +kernel
theorem dX8_holds_19 : decode cX8_holds 19 = .ok (.aload_n 0, 1) := by decide +kernel
theorem dX8_holds_20 : decode cX8_holds 20 = .ok (.getfield 56, 3) := by decide +kernel
theorem dX8_holds_23 : decode cX8_holds 23 = .ok (.iload_n 1, 1) := by decide +kernel
theorem dX8_holds_24 : decode cX8_holds 24 = .ok (.invokevirtual 260, 3) := by decide +kernel
theorem dX8_holds_27 : decode cX8_holds 27 = .ok (.ireturn, 1) := by decide +kernel
theorem dX8_against_0 : decode cX8_against 0 = .ok (.aload_n 0, 1) := by decide +kernel
theorem dX8_against_1 : decode cX8_against 1 = .ok (.iload_n 1, 1) := by decide +kernel
theorem dX8_against_2 : decode cX8_against 2 = .ok (.invokevirtual 254, 3) := by decide +kernel
theorem dX8_against_5 : decode cX8_against 5 = .ok (.aload_n 0, 1) := by decide +kernel
theorem dX8_against_6 : decode cX8_against 6 = .ok (.getfield 18, 3) := by decide +kernel
theorem dX8_against_9 : decode cX8_against 9 = .ok (.invokevirtual 96, 3) := by decide +kernel
theorem dX8_against_12 : decode cX8_against 12 = .ok (.aload_n 0, 1) := by decide +kernel
theorem dX8_against_13 : decode cX8_against 13 = .ok (.getfield 56, 3) := by decide +kernel
theorem dX8_against_16 : decode cX8_against 16 = .ok (.iload_n 1, 1) := by decide +kernel
theorem dX8_against_17 : decode cX8_against 17 = .ok (.invokevirtual 263, 3) := by decide +kernel
theorem dX8_against_20 : decode cX8_against 20 = .ok (.iconst (-1), 1) := by decide +kernel
theorem dX8_against_21 : decode cX8_against 21 = .ok (.ixor, 1) := by decide +kernel
theorem dX8_against_22 : decode cX8_against 22 = .ok (.iand, 1) := by decide +kernel
theorem dX8_against_23 : decode cX8_against 23 = .ok (.istore_n 2, 1) := by decide +kernel
theorem dX8_against_24 : decode cX8_against 24 = .ok (.iconst 0, 1) := by decide +kernel
theorem dX8_against_25 : decode cX8_against 25 = .ok (.istore_n 3, 1) := by decide +kernel
theorem dX8_against_26 : decode cX8_against 26 = .ok (.iload_n 3, 1) := by decide +kernel
theorem dX8_against_27 : decode cX8_against 27 = .ok (.aload_n 0, 1) := by decide +kernel
theorem dX8_against_28 : decode cX8_against 28 = .ok (.getfield 18, 3) := by decide +kernel
theorem dX8_against_31 : decode cX8_against 31 = .ok (.invokevirtual 60, 3) := by decide +kernel
theorem dX8_against_34 : decode cX8_against 34 = .ok (.if_icmp .ge 19, 3) := by decide +kernel
theorem dX8_against_37 : decode cX8_against 37 = .ok (.iload_n 2, 1) := by decide +kernel
theorem dX8_against_38 : decode cX8_against 38 = .ok (.iload_n 3, 1) := by decide +kernel
theorem dX8_against_39 : decode cX8_against 39 = .ok (.invokestatic 103, 3) := by decide +kernel
theorem dX8_against_42 : decode cX8_against 42 = .ok (.ifCond .eq 5, 3) := by decide +kernel
theorem dX8_against_45 : decode cX8_against 45 = .ok (.iload_n 3, 1) := by decide +kernel
theorem dX8_against_46 : decode cX8_against 46 = .ok (.ireturn, 1) := by decide +kernel
theorem dX8_against_47 : decode cX8_against 47 = .ok (.iinc 3 1, 3) := by decide +kernel
theorem dX8_against_50 : decode cX8_against 50 = .ok (.goto (-24), 3) := by decide +kernel
theorem dX8_against_53 : decode cX8_against 53 = .ok (.new 266, 3) := by decide +kernel
theorem dX8_against_56 : decode cX8_against 56 = .ok (.dup, 1) := by decide +kernel
theorem dX8_against_57 : decode cX8_against 57 = .ok (.ldc_w 268, 3) := by decide +kernel
theorem dX8_against_60 : decode cX8_against 60 = .ok (.invokespecial 270, 3) := by decide +kernel
theorem dX8_against_63 : decode cX8_against 63 = .ok (.athrow, 1) := by decide +kernel
theorem dX8_swap_0 : decode cX8_swap 0 = .ok (.aload_n 0, 1) := by decide +kernel
theorem dX8_swap_1 : decode cX8_swap 1 = .ok (.iload_n 1, 1) := by decide +kernel
theorem dX8_swap_2 : decode cX8_swap 2 = .ok (.iload_n 2, 1) := by decide +kernel
theorem dX8_swap_3 : decode cX8_swap 3 = .ok (.invokevirtual 74, 3) := by decide +kernel
theorem dX8_swap_6 : decode cX8_swap 6 = .ok (.aload_n 0, 1) := by decide +kernel
theorem dX8_swap_7 : decode cX8_swap 7 = .ok (.getfield 18, 3) := by decide +kernel
theorem dX8_swap_10 : decode cX8_swap 10 = .ok (.iload_n 1, 1) := by decide +kernel
theorem dX8_swap_11 : decode cX8_swap 11 = .ok (.iload_n 2, 1) := by decide +kernel
theorem dX8_swap_12 : decode cX8_swap 12 = .ok (.invokevirtual 271, 3) := by decide +kernel
theorem dX8_swap_15 : decode cX8_swap 15 = .ok (.aload_n 0, 1) := by decide +kernel
theorem dX8_swap_16 : decode cX8_swap 16 = .ok (.getfield 18, 3) := by decide +kernel
theorem dX8_swap_19 : decode cX8_swap 19 = .ok (.invokevirtual 274, 3) := by decide +kernel
theorem dX8_swap_22 : decode cX8_swap 22 = .ok (.ireturn, 1) := by decide +kernel
theorem dX8_goes_0 : decode cX8_goes 0 = .ok (.aload_n 0, 1) := by decide +kernel
theorem dX8_goes_1 : decode cX8_goes 1 = .ok (.iload_n 1, 1) := by decide +kernel
theorem dX8_goes_2 : decode cX8_goes 2 = .ok (.invokevirtual 127, 3) := by decide +kernel
theorem dX8_goes_5 : decode cX8_goes 5 = .ok (.aload_n 0, 1) := by decide +kernel
theorem dX8_goes_6 : decode cX8_goes 6 = .ok (.getfield 18, 3) := by decide +kernel
theorem dX8_goes_9 : decode cX8_goes 9 = .ok (.iload_n 1, 1) := by decide +kernel
theorem dX8_goes_10 : decode cX8_goes 10 = .ok (.invokevirtual 278, 3) := by decide +kernel
theorem dX8_goes_13 : decode cX8_goes 13 = .ok (.ireturn, 1) := by decide +kernel
theorem dX8_isFixed_0 : decode cX8_isFixed 0 = .ok (.aload_n 0, 1) := by decide +kernel
theorem dX8_isFixed_1 : decode cX8_isFixed 1 = .ok (.iload_n 1, 1) := by decide +kernel
theorem dX8_isFixed_2 : decode cX8_isFixed 2 = .ok (.invokevirtual 140, 3) := by decide +kernel
theorem dX8_isFixed_5 : decode cX8_isFixed 5 = .ok (.aload_n 0, 1) := by decide +kernel
theorem dX8_isFixed_6 : decode cX8_isFixed 6 = .ok (.getfield 18, 3) := by decide +kernel
theorem dX8_isFixed_9 : decode cX8_isFixed 9 = .ok (.invokevirtual 274, 3) := by decide +kernel
theorem dX8_isFixed_12 : decode cX8_isFixed 12 = .ok (.ifCond .ne 14, 3) := by decide +kernel
theorem dX8_isFixed_15 : decode cX8_isFixed 15 = .ok (.new 82, 3) := by decide +kernel
theorem dX8_isFixed_18 : decode cX8_isFixed 18 = .ok (.dup, 1) := by decide +kernel
theorem dX8_isFixed_19 : decode cX8_isFixed 19 = .ok (.ldc_w 281, 3) := by decide +kernel
theorem dX8_isFixed_22 : decode cX8_isFixed 22 = .ok (.invokespecial 86, 3) := by decide +kernel
theorem dX8_isFixed_25 : decode cX8_isFixed 25 = .ok (.athrow, 1) := by decide +kernel
theorem dX8_isFixed_26 : decode cX8_isFixed 26 = .ok (.aload_n 0, 1) := by decide +kernel
theorem dX8_isFixed_27 : decode cX8_isFixed 27 = .ok (.getfield 18, 3) := by decide +kernel
theorem dX8_isFixed_30 : decode cX8_isFixed 30 = .ok (.invokevirtual 96, 3) := by decide +kernel
theorem dX8_isFixed_33 : decode cX8_isFixed 33 = .ok (.istore_n 2, 1) := by decide +kernel
theorem dX8_isFixed_34 : decode cX8_isFixed 34 = .ok (.iconst 0, 1) := by decide +kernel
theorem dX8_isFixed_35 : decode cX8_isFixed 35 = .ok (.istore_n 3, 1) := by decide +kernel
theorem dX8_isFixed_36 : decode cX8_isFixed 36 = .ok (.iload_n 3, 1) := by decide +kernel
theorem dX8_isFixed_37 : decode cX8_isFixed 37 = .ok (.aload_n 0, 1) := by decide +kernel
theorem dX8_isFixed_38 : decode cX8_isFixed 38 = .ok (.getfield 18, 3) := by decide +kernel
theorem dX8_isFixed_41 : decode cX8_isFixed 41 = .ok (.invokevirtual 60, 3) := by decide +kernel
theorem dX8_isFixed_44 : decode cX8_isFixed 44 = .ok (.if_icmp .ge 60, 3) := by decide +kernel
theorem dX8_isFixed_47 : decode cX8_isFixed 47 = .ok (.iload_n 2, 1) := by decide +kernel
theorem dX8_isFixed_48 : decode cX8_isFixed 48 = .ok (.iload_n 3, 1) := by decide +kernel
theorem dX8_isFixed_49 : decode cX8_isFixed 49 = .ok (.invokestatic 103, 3) := by decide +kernel
theorem dX8_isFixed_52 : decode cX8_isFixed 52 = .ok (.ifCond .eq 46, 3) := by decide +kernel
theorem dX8_isFixed_55 : decode cX8_isFixed 55 = .ok (.aload_n 0, 1) := by decide +kernel
theorem dX8_isFixed_56 : decode cX8_isFixed 56 = .ok (.getfield 56, 3) := by decide +kernel
theorem dX8_isFixed_59 : decode cX8_isFixed 59 = .ok (.iload_n 3, 1) := by decide +kernel
theorem dX8_isFixed_60 : decode cX8_isFixed 60 = .ok (.iconst 0, 1) := by decide +kernel
theorem dX8_isFixed_61 : decode cX8_isFixed 61 = .ok (.invokevirtual 194, 3) := by decide +kernel
theorem dX8_isFixed_64 : decode cX8_isFixed 64 = .ok (.aload_n 0, 1) := by decide +kernel
theorem dX8_isFixed_65 : decode cX8_isFixed 65 = .ok (.getfield 56, 3) := by decide +kernel
theorem dX8_isFixed_68 : decode cX8_isFixed 68 = .ok (.iload_n 1, 1) := by decide +kernel
theorem dX8_isFixed_69 : decode cX8_isFixed 69 = .ok (.invokevirtual 198, 3) := by decide +kernel
theorem dX8_isFixed_72 : decode cX8_isFixed 72 = .ok (.istore 4, 2) := by decide +kernel
theorem dX8_isFixed_74 : decode cX8_isFixed 74 = .ok (.aload_n 0, 1) := by decide +kernel
theorem dX8_isFixed_75 : decode cX8_isFixed 75 = .ok (.getfield 56, 3) := by decide +kernel
theorem dX8_isFixed_78 : decode cX8_isFixed 78 = .ok (.iload_n 3, 1) := by decide +kernel
theorem dX8_isFixed_79 : decode cX8_isFixed 79 = .ok (.iconst 1, 1) := by decide +kernel
theorem dX8_isFixed_80 : decode cX8_isFixed 80 = .ok (.invokevirtual 194, 3) := by decide +kernel
theorem dX8_isFixed_83 : decode cX8_isFixed 83 = .ok (.aload_n 0, 1) := by decide +kernel
theorem dX8_isFixed_84 : decode cX8_isFixed 84 = .ok (.getfield 56, 3) := by decide +kernel
theorem dX8_isFixed_87 : decode cX8_isFixed 87 = .ok (.iload_n 1, 1) := by decide +kernel
theorem dX8_isFixed_88 : decode cX8_isFixed 88 = .ok (.invokevirtual 198, 3) := by decide +kernel
theorem dX8_isFixed_91 : decode cX8_isFixed 91 = .ok (.iload 4, 2) := by decide +kernel
theorem dX8_isFixed_93 : decode cX8_isFixed 93 = .ok (.if_icmp .eq 5, 3) := by decide +kernel
theorem dX8_isFixed_96 : decode cX8_isFixed 96 = .ok (.iconst 0, 1) := by decide +kernel
theorem dX8_isFixed_97 : decode cX8_isFixed 97 = .ok (.ireturn, 1) := by decide +kernel
theorem dX8_isFixed_98 : decode cX8_isFixed 98 = .ok (.iinc 3 1, 3) := by decide +kernel
theorem dX8_isFixed_101 : decode cX8_isFixed 101 = .ok (.goto (-65), 3) := by decide +kernel
theorem dX8_isFixed_104 : decode cX8_isFixed 104 = .ok (.iconst 1, 1) := by decide +kernel
theorem dX8_isFixed_105 : decode cX8_isFixed 105 = .ok (.ireturn, 1) := by decide +kernel
theorem dX8_clear_0 : decode cX8_clear 0 = .ok (.aload_n 0, 1) := by decide +kernel
theorem dX8_clear_1 : decode cX8_clear 1 = .ok (.getfield 28, 3) := by decide +kernel
theorem dX8_clear_4 : decode cX8_clear 4 = .ok (.invokevirtual 283, 3) := by decide +kernel
theorem dX8_clear_7 : decode cX8_clear 7 = .ok (.ireturn, 1) := by decide +kernel
theorem dX8_checksum_0 : decode cX8_checksum 0 = .ok (.ldc2_w 286, 3) := by decide +kernel
theorem dX8_checksum_3 : decode cX8_checksum 3 = .ok (.lstore_n 1, 1) := by decide +kernel
theorem dX8_checksum_4 : decode cX8_checksum 4 = .ok (.iconst 0, 1) := by decide +kernel
theorem dX8_checksum_5 : decode cX8_checksum 5 = .ok (.istore_n 3, 1) := by decide +kernel
theorem dX8_checksum_6 : decode cX8_checksum 6 = .ok (.iload_n 3, 1) := by decide +kernel
theorem dX8_checksum_7 : decode cX8_checksum 7 = .ok (.aload_n 0, 1) := by decide +kernel
theorem dX8_checksum_8 : decode cX8_checksum 8 = .ok (.getfield 18, 3) := by decide +kernel
theorem dX8_checksum_11 : decode cX8_checksum 11 = .ok (.invokevirtual 60, 3) := by decide +kernel
theorem dX8_checksum_14 : decode cX8_checksum 14 = .ok (.if_icmp .ge 25, 3) := by decide +kernel
theorem dX8_checksum_17 : decode cX8_checksum 17 = .ok (.ldc2_w 288, 3) := by decide +kernel
theorem dX8_checksum_20 : decode cX8_checksum 20 = .ok (.lload_n 1, 1) := by decide +kernel
theorem dX8_checksum_21 : decode cX8_checksum 21 = .ok (.lmul, 1) := by decide +kernel
theorem dX8_checksum_22 : decode cX8_checksum 22 = .ok (.aload_n 0, 1) := by decide +kernel
theorem dX8_checksum_23 : decode cX8_checksum 23 = .ok (.getfield 18, 3) := by decide +kernel
theorem dX8_checksum_26 : decode cX8_checksum 26 = .ok (.iload_n 3, 1) := by decide +kernel
theorem dX8_checksum_27 : decode cX8_checksum 27 = .ok (.invokevirtual 112, 3) := by decide +kernel
theorem dX8_checksum_30 : decode cX8_checksum 30 = .ok (.i2l, 1) := by decide +kernel
theorem dX8_checksum_31 : decode cX8_checksum 31 = .ok (.ladd, 1) := by decide +kernel
theorem dX8_checksum_32 : decode cX8_checksum 32 = .ok (.lstore_n 1, 1) := by decide +kernel
theorem dX8_checksum_33 : decode cX8_checksum 33 = .ok (.iinc 3 1, 3) := by decide +kernel
theorem dX8_checksum_36 : decode cX8_checksum 36 = .ok (.goto (-30), 3) := by decide +kernel
theorem dX8_checksum_39 : decode cX8_checksum 39 = .ok (.iconst 0, 1) := by decide +kernel
theorem dX8_checksum_40 : decode cX8_checksum 40 = .ok (.istore_n 3, 1) := by decide +kernel
theorem dX8_checksum_41 : decode cX8_checksum 41 = .ok (.iload_n 3, 1) := by decide +kernel
theorem dX8_checksum_42 : decode cX8_checksum 42 = .ok (.aload_n 0, 1) := by decide +kernel
theorem dX8_checksum_43 : decode cX8_checksum 43 = .ok (.getfield 24, 3) := by decide +kernel
theorem dX8_checksum_46 : decode cX8_checksum 46 = .ok (.invokevirtual 290, 3) := by decide +kernel
theorem dX8_checksum_49 : decode cX8_checksum 49 = .ok (.if_icmp .ge 80, 3) := by decide +kernel
theorem dX8_checksum_52 : decode cX8_checksum 52 = .ok (.ldc2_w 288, 3) := by decide +kernel
theorem dX8_checksum_55 : decode cX8_checksum 55 = .ok (.lload_n 1, 1) := by decide +kernel
theorem dX8_checksum_56 : decode cX8_checksum 56 = .ok (.lmul, 1) := by decide +kernel
theorem dX8_checksum_57 : decode cX8_checksum 57 = .ok (.aload_n 0, 1) := by decide +kernel
theorem dX8_checksum_58 : decode cX8_checksum 58 = .ok (.getfield 24, 3) := by decide +kernel
theorem dX8_checksum_61 : decode cX8_checksum 61 = .ok (.iload_n 3, 1) := by decide +kernel
theorem dX8_checksum_62 : decode cX8_checksum 62 = .ok (.invokevirtual 175, 3) := by decide +kernel
theorem dX8_checksum_65 : decode cX8_checksum 65 = .ok (.i2l, 1) := by decide +kernel
theorem dX8_checksum_66 : decode cX8_checksum 66 = .ok (.ladd, 1) := by decide +kernel
theorem dX8_checksum_67 : decode cX8_checksum 67 = .ok (.lstore_n 1, 1) := by decide +kernel
theorem dX8_checksum_68 : decode cX8_checksum 68 = .ok (.iconst 0, 1) := by decide +kernel
theorem dX8_checksum_69 : decode cX8_checksum 69 = .ok (.istore 4, 2) := by decide +kernel
theorem dX8_checksum_71 : decode cX8_checksum 71 = .ok (.iload 4, 2) := by decide +kernel
theorem dX8_checksum_73 : decode cX8_checksum 73 = .ok (.aload_n 0, 1) := by decide +kernel
theorem dX8_checksum_74 : decode cX8_checksum 74 = .ok (.getfield 24, 3) := by decide +kernel
theorem dX8_checksum_77 : decode cX8_checksum 77 = .ok (.iload_n 3, 1) := by decide +kernel
theorem dX8_checksum_78 : decode cX8_checksum 78 = .ok (.invokevirtual 161, 3) := by decide +kernel
theorem dX8_checksum_81 : decode cX8_checksum 81 = .ok (.if_icmp .ge 42, 3) := by decide +kernel
theorem dX8_checksum_84 : decode cX8_checksum 84 = .ok (.ldc2_w 288, 3) := by decide +kernel
theorem dX8_checksum_87 : decode cX8_checksum 87 = .ok (.lload_n 1, 1) := by decide +kernel
theorem dX8_checksum_88 : decode cX8_checksum 88 = .ok (.lmul, 1) := by decide +kernel
theorem dX8_checksum_89 : decode cX8_checksum 89 = .ok (.aload_n 0, 1) := by decide +kernel
theorem dX8_checksum_90 : decode cX8_checksum 90 = .ok (.getfield 24, 3) := by decide +kernel
theorem dX8_checksum_93 : decode cX8_checksum 93 = .ok (.iload_n 3, 1) := by decide +kernel
theorem dX8_checksum_94 : decode cX8_checksum 94 = .ok (.iload 4, 2) := by decide +kernel
theorem dX8_checksum_96 : decode cX8_checksum 96 = .ok (.invokevirtual 291, 3) := by decide +kernel
theorem dX8_checksum_99 : decode cX8_checksum 99 = .ok (.i2l, 1) := by decide +kernel
theorem dX8_checksum_100 : decode cX8_checksum 100 = .ok (.ladd, 1) := by decide +kernel
theorem dX8_checksum_101 : decode cX8_checksum 101 = .ok (.bipush 16, 2) := by decide +kernel
theorem dX8_checksum_103 : decode cX8_checksum 103 = .ok (.aload_n 0, 1) := by decide +kernel
theorem dX8_checksum_104 : decode cX8_checksum 104 = .ok (.getfield 24, 3) := by decide +kernel
theorem dX8_checksum_107 : decode cX8_checksum 107 = .ok (.iload_n 3, 1) := by decide +kernel
theorem dX8_checksum_108 : decode cX8_checksum 108 = .ok (.iload 4, 2) := by decide +kernel
theorem dX8_checksum_110 : decode cX8_checksum 110 = .ok (.invokevirtual 294, 3) := by decide +kernel
theorem dX8_checksum_113 : decode cX8_checksum 113 = .ok (.imul, 1) := by decide +kernel
theorem dX8_checksum_114 : decode cX8_checksum 114 = .ok (.i2l, 1) := by decide +kernel
theorem dX8_checksum_115 : decode cX8_checksum 115 = .ok (.ladd, 1) := by decide +kernel
theorem dX8_checksum_116 : decode cX8_checksum 116 = .ok (.lstore_n 1, 1) := by decide +kernel
theorem dX8_checksum_117 : decode cX8_checksum 117 = .ok (.iinc 4 1, 3) := by decide +kernel
theorem dX8_checksum_120 : decode cX8_checksum 120 = .ok (.goto (-49), 3) := by decide +kernel
theorem dX8_checksum_123 : decode cX8_checksum 123 = .ok (.iinc 3 1, 3) := by decide +kernel
theorem dX8_checksum_126 : decode cX8_checksum 126 = .ok (.goto (-85), 3) := by decide +kernel
theorem dX8_checksum_129 : decode cX8_checksum 129 = .ok (.ldc2_w 288, 3) := by decide +kernel
theorem dX8_checksum_132 : decode cX8_checksum 132 = .ok (.lload_n 1, 1) := by decide +kernel
theorem dX8_checksum_133 : decode cX8_checksum 133 = .ok (.lmul, 1) := by decide +kernel
theorem dX8_checksum_134 : decode cX8_checksum 134 = .ok (.aload_n 0, 1) := by decide +kernel
theorem dX8_checksum_135 : decode cX8_checksum 135 = .ok (.getfield 28, 3) := by decide +kernel
theorem dX8_checksum_138 : decode cX8_checksum 138 = .ok (.invokevirtual 297, 3) := by decide +kernel
theorem dX8_checksum_141 : decode cX8_checksum 141 = .ok (.i2l, 1) := by decide +kernel
theorem dX8_checksum_142 : decode cX8_checksum 142 = .ok (.ladd, 1) := by decide +kernel
theorem dX8_checksum_143 : decode cX8_checksum 143 = .ok (.lreturn, 1) := by decide +kernel
theorem dX8_lastShare_0 : decode cX8_lastShare 0 = .ok (.aload_n 0, 1) := by decide +kernel
theorem dX8_lastShare_1 : decode cX8_lastShare 1 = .ok (.getfield 18, 3) := by decide +kernel
theorem dX8_lastShare_4 : decode cX8_lastShare 4 = .ok (.invokevirtual 60, 3) := by decide +kernel
theorem dX8_lastShare_7 : decode cX8_lastShare 7 = .ok (.ifCond .ne 14, 3) := by decide +kernel
theorem dX8_lastShare_10 : decode cX8_lastShare 10 = .ok (.new 266, 3) := by decide +kernel
theorem dX8_lastShare_13 : decode cX8_lastShare 13 = .ok (.dup, 1) := by decide +kernel
theorem dX8_lastShare_14 : decode cX8_lastShare 14 = .ok (.ldc_w 298, 3) := by decide +kernel
theorem dX8_lastShare_17 : decode cX8_lastShare 17 = .ok (.invokespecial 270, 3) := by decide +kernel
theorem dX8_lastShare_20 : decode cX8_lastShare 20 = .ok (.athrow, 1) := by decide +kernel
theorem dX8_lastShare_21 : decode cX8_lastShare 21 = .ok (.aload_n 0, 1) := by decide +kernel
theorem dX8_lastShare_22 : decode cX8_lastShare 22 = .ok (.getfield 18, 3) := by decide +kernel
theorem dX8_lastShare_25 : decode cX8_lastShare 25 = .ok (.invokevirtual 96, 3) := by decide +kernel
theorem dX8_lastShare_28 : decode cX8_lastShare 28 = .ok (.invokestatic 106, 3) := by decide +kernel
theorem dX8_lastShare_31 : decode cX8_lastShare 31 = .ok (.i2f, 1) := by decide +kernel
theorem dX8_lastShare_32 : decode cX8_lastShare 32 = .ok (.aload_n 0, 1) := by decide +kernel
theorem dX8_lastShare_33 : decode cX8_lastShare 33 = .ok (.getfield 18, 3) := by decide +kernel
theorem dX8_lastShare_36 : decode cX8_lastShare 36 = .ok (.invokevirtual 60, 3) := by decide +kernel
theorem dX8_lastShare_39 : decode cX8_lastShare 39 = .ok (.i2f, 1) := by decide +kernel
theorem dX8_lastShare_40 : decode cX8_lastShare 40 = .ok (.fdiv, 1) := by decide +kernel
theorem dX8_lastShare_41 : decode cX8_lastShare 41 = .ok (.freturn, 1) := by decide +kernel
theorem dX8_meanRank_0 : decode cX8_meanRank 0 = .ok (.aload_n 0, 1) := by decide +kernel
theorem dX8_meanRank_1 : decode cX8_meanRank 1 = .ok (.getfield 24, 3) := by decide +kernel
theorem dX8_meanRank_4 : decode cX8_meanRank 4 = .ok (.invokevirtual 290, 3) := by decide +kernel
theorem dX8_meanRank_7 : decode cX8_meanRank 7 = .ok (.ifCond .ne 14, 3) := by decide +kernel
theorem dX8_meanRank_10 : decode cX8_meanRank 10 = .ok (.new 266, 3) := by decide +kernel
theorem dX8_meanRank_13 : decode cX8_meanRank 13 = .ok (.dup, 1) := by decide +kernel
theorem dX8_meanRank_14 : decode cX8_meanRank 14 = .ok (.ldc_w 300, 3) := by decide +kernel
theorem dX8_meanRank_17 : decode cX8_meanRank 17 = .ok (.invokespecial 270, 3) := by decide +kernel
theorem dX8_meanRank_20 : decode cX8_meanRank 20 = .ok (.athrow, 1) := by decide +kernel
theorem dX8_meanRank_21 : decode cX8_meanRank 21 = .ok (.iconst 0, 1) := by decide +kernel
theorem dX8_meanRank_22 : decode cX8_meanRank 22 = .ok (.istore_n 1, 1) := by decide +kernel
theorem dX8_meanRank_23 : decode cX8_meanRank 23 = .ok (.iconst 0, 1) := by decide +kernel
theorem dX8_meanRank_24 : decode cX8_meanRank 24 = .ok (.istore_n 2, 1) := by decide +kernel
theorem dX8_meanRank_25 : decode cX8_meanRank 25 = .ok (.iload_n 2, 1) := by decide +kernel
theorem dX8_meanRank_26 : decode cX8_meanRank 26 = .ok (.aload_n 0, 1) := by decide +kernel
theorem dX8_meanRank_27 : decode cX8_meanRank 27 = .ok (.getfield 24, 3) := by decide +kernel
theorem dX8_meanRank_30 : decode cX8_meanRank 30 = .ok (.invokevirtual 290, 3) := by decide +kernel
theorem dX8_meanRank_33 : decode cX8_meanRank 33 = .ok (.if_icmp .ge 20, 3) := by decide +kernel
theorem dX8_meanRank_36 : decode cX8_meanRank 36 = .ok (.iload_n 1, 1) := by decide +kernel
theorem dX8_meanRank_37 : decode cX8_meanRank 37 = .ok (.aload_n 0, 1) := by decide +kernel
theorem dX8_meanRank_38 : decode cX8_meanRank 38 = .ok (.getfield 24, 3) := by decide +kernel
theorem dX8_meanRank_41 : decode cX8_meanRank 41 = .ok (.iload_n 2, 1) := by decide +kernel
theorem dX8_meanRank_42 : decode cX8_meanRank 42 = .ok (.invokevirtual 175, 3) := by decide +kernel
theorem dX8_meanRank_45 : decode cX8_meanRank 45 = .ok (.iadd, 1) := by decide +kernel
theorem dX8_meanRank_46 : decode cX8_meanRank 46 = .ok (.istore_n 1, 1) := by decide +kernel
theorem dX8_meanRank_47 : decode cX8_meanRank 47 = .ok (.iinc 2 1, 3) := by decide +kernel
theorem dX8_meanRank_50 : decode cX8_meanRank 50 = .ok (.goto (-25), 3) := by decide +kernel
theorem dX8_meanRank_53 : decode cX8_meanRank 53 = .ok (.iload_n 1, 1) := by decide +kernel
theorem dX8_meanRank_54 : decode cX8_meanRank 54 = .ok (.i2d, 1) := by decide +kernel
theorem dX8_meanRank_55 : decode cX8_meanRank 55 = .ok (.aload_n 0, 1) := by decide +kernel
theorem dX8_meanRank_56 : decode cX8_meanRank 56 = .ok (.getfield 24, 3) := by decide +kernel
theorem dX8_meanRank_59 : decode cX8_meanRank 59 = .ok (.invokevirtual 290, 3) := by decide +kernel
theorem dX8_meanRank_62 : decode cX8_meanRank 62 = .ok (.i2d, 1) := by decide +kernel
theorem dX8_meanRank_63 : decode cX8_meanRank 63 = .ok (.ddiv, 1) := by decide +kernel
theorem dX8_meanRank_64 : decode cX8_meanRank 64 = .ok (.dreturn, 1) := by decide +kernel
theorem dX8_isSound_0 : decode cX8_isSound 0 = .ok (.iconst 0, 1) := by decide +kernel
theorem dX8_isSound_1 : decode cX8_isSound 1 = .ok (.istore_n 1, 1) := by decide +kernel
theorem dX8_isSound_2 : decode cX8_isSound 2 = .ok (.iload_n 1, 1) := by decide +kernel
theorem dX8_isSound_3 : decode cX8_isSound 3 = .ok (.aload_n 0, 1) := by decide +kernel
theorem dX8_isSound_4 : decode cX8_isSound 4 = .ok (.getfield 28, 3) := by decide +kernel
theorem dX8_isSound_7 : decode cX8_isSound 7 = .ok (.invokevirtual 297, 3) := by decide +kernel
theorem dX8_isSound_10 : decode cX8_isSound 10 = .ok (.if_icmp .ge 59, 3) := by decide +kernel
theorem dX8_isSound_13 : decode cX8_isSound 13 = .ok (.aload_n 0, 1) := by decide +kernel
theorem dX8_isSound_14 : decode cX8_isSound 14 = .ok (.getfield 28, 3) := by decide +kernel
theorem dX8_isSound_17 : decode cX8_isSound 17 = .ok (.iload_n 1, 1) := by decide +kernel
theorem dX8_isSound_18 : decode cX8_isSound 18 = .ok (.invokevirtual 249, 3) := by decide +kernel
theorem dX8_isSound_21 : decode cX8_isSound 21 = .ok (.ifCond .ne 42, 3) := by decide +kernel
theorem dX8_isSound_24 : decode cX8_isSound 24 = .ok (.aload_n 0, 1) := by decide +kernel
theorem dX8_isSound_25 : decode cX8_isSound 25 = .ok (.getfield 37, 3) := by decide +kernel
theorem dX8_isSound_28 : decode cX8_isSound 28 = .ok (.iload_n 1, 1) := by decide +kernel
theorem dX8_isSound_29 : decode cX8_isSound 29 = .ok (.invokevirtual 257, 3) := by decide +kernel
theorem dX8_isSound_32 : decode cX8_isSound 32 = .ok (.istore_n 2, 1) := by decide +kernel
theorem dX8_isSound_33 : decode cX8_isSound 33 = .ok (.aload_n 0, 1) := by decide +kernel
theorem dX8_isSound_34 : decode cX8_isSound 34 = .ok (.aload_n 0, 1) := by decide +kernel
theorem dX8_isSound_35 : decode cX8_isSound 35 = .ok (.getfield 44, 3) := by decide +kernel
theorem dX8_isSound_38 : decode cX8_isSound 38 = .ok (.iload_n 1, 1) := by decide +kernel
theorem dX8_isSound_39 : decode cX8_isSound 39 = .ok (.invokevirtual 257, 3) := by decide +kernel
theorem dX8_isSound_42 : decode cX8_isSound 42 = .ok (.iload_n 2, 1) := by decide +kernel
theorem dX8_isSound_43 : decode cX8_isSound 43 = .ok (.invokevirtual 302, 3) := by decide +kernel
theorem dX8_isSound_46 : decode cX8_isSound 46 = .ok (.ifCond .eq 15, 3) := by decide +kernel
theorem dX8_isSound_49 : decode cX8_isSound 49 = .ok (.iload_n 2, 1) := by decide +kernel
theorem dX8_isSound_50 : decode cX8_isSound 50 = .ok (.aload_n 0, 1) := by decide +kernel
theorem dX8_isSound_51 : decode cX8_isSound 51 = .ok (.getfield 56, 3) := by decide +kernel
theorem dX8_isSound_54 : decode cX8_isSound 54 = .ok (.iload_n 1, 1) := by decide +kernel
theorem dX8_isSound_55 : decode cX8_isSound 55 = .ok (.invokevirtual 263, 3) := by decide +kernel
theorem dX8_isSound_58 : decode cX8_isSound 58 = .ok (.if_icmp .eq 5, 3) := by decide +kernel
theorem dX8_isSound_61 : decode cX8_isSound 61 = .ok (.iconst 0, 1) := by decide +kernel
theorem dX8_isSound_62 : decode cX8_isSound 62 = .ok (.ireturn, 1) := by decide +kernel
theorem dX8_isSound_63 : decode cX8_isSound 63 = .ok (.iinc 1 1, 3) := by decide +kernel
theorem dX8_isSound_66 : decode cX8_isSound 66 = .ok (.goto (-64), 3) := by decide +kernel
theorem dX8_isSound_69 : decode cX8_isSound 69 = .ok (.aload_n 0, 1) := by decide +kernel
theorem dX8_isSound_70 : decode cX8_isSound 70 = .ok (.getfield 18, 3) := by decide +kernel
theorem dX8_isSound_73 : decode cX8_isSound 73 = .ok (.invokevirtual 96, 3) := by decide +kernel
theorem dX8_isSound_76 : decode cX8_isSound 76 = .ok (.istore_n 1, 1) := by decide +kernel
theorem dX8_isSound_77 : decode cX8_isSound 77 = .ok (.iconst 0, 1) := by decide +kernel
theorem dX8_isSound_78 : decode cX8_isSound 78 = .ok (.istore_n 2, 1) := by decide +kernel
theorem dX8_isSound_79 : decode cX8_isSound 79 = .ok (.iload_n 2, 1) := by decide +kernel
theorem dX8_isSound_80 : decode cX8_isSound 80 = .ok (.aload_n 0, 1) := by decide +kernel
theorem dX8_isSound_81 : decode cX8_isSound 81 = .ok (.getfield 18, 3) := by decide +kernel
theorem dX8_isSound_84 : decode cX8_isSound 84 = .ok (.invokevirtual 60, 3) := by decide +kernel
theorem dX8_isSound_87 : decode cX8_isSound 87 = .ok (.if_icmp .ge 36, 3) := by decide +kernel
theorem dX8_isSound_90 : decode cX8_isSound 90 = .ok (.iload_n 1, 1) := by decide +kernel
theorem dX8_isSound_91 : decode cX8_isSound 91 = .ok (.iload_n 2, 1) := by decide +kernel
theorem dX8_isSound_92 : decode cX8_isSound 92 = .ok (.invokestatic 103, 3) := by decide +kernel
theorem dX8_isSound_95 : decode cX8_isSound 95 = .ok (.ifCond .eq 22, 3) := by decide +kernel
theorem dX8_isSound_98 : decode cX8_isSound 98 = .ok (.aload_n 0, 1) := by decide +kernel
theorem dX8_isSound_99 : decode cX8_isSound 99 = .ok (.getfield 56, 3) := by decide +kernel
theorem dX8_isSound_102 : decode cX8_isSound 102 = .ok (.iload_n 2, 1) := by decide +kernel
theorem dX8_isSound_103 : decode cX8_isSound 103 = .ok (.iconst 0, 1) := by decide +kernel
theorem dX8_isSound_104 : decode cX8_isSound 104 = .ok (.invokevirtual 194, 3) := by decide +kernel
theorem dX8_isSound_107 : decode cX8_isSound 107 = .ok (.aload_n 0, 1) := by decide +kernel
theorem dX8_isSound_108 : decode cX8_isSound 108 = .ok (.iload_n 2, 1) := by decide +kernel
theorem dX8_isSound_109 : decode cX8_isSound 109 = .ok (.invokevirtual 305, 3) := by decide +kernel
theorem dX8_isSound_112 : decode cX8_isSound 112 = .ok (.ifCond .ne 5, 3) := by decide +kernel
theorem dX8_isSound_115 : decode cX8_isSound 115 = .ok (.iconst 0, 1) := by decide +kernel
theorem dX8_isSound_116 : decode cX8_isSound 116 = .ok (.ireturn, 1) := by decide +kernel
theorem dX8_isSound_117 : decode cX8_isSound 117 = .ok (.iinc 2 1, 3) := by decide +kernel
theorem dX8_isSound_120 : decode cX8_isSound 120 = .ok (.goto (-41), 3) := by decide +kernel
theorem dX8_isSound_123 : decode cX8_isSound 123 = .ok (.iconst 1, 1) := by decide +kernel
theorem dX8_isSound_124 : decode cX8_isSound 124 = .ok (.ireturn, 1) := by decide +kernel
theorem dX8_isForcedAsValued_0 : decode cX8_isForcedAsValued 0 = .ok (.iconst 0, 1) := by decide +kernel
theorem dX8_isForcedAsValued_1 : decode cX8_isForcedAsValued 1 = .ok (.istore_n 3, 1) := by decide +kernel
theorem dX8_isForcedAsValued_2 : decode cX8_isForcedAsValued 2 = .ok (.iload_n 3, 1) := by decide +kernel
theorem dX8_isForcedAsValued_3 : decode cX8_isForcedAsValued 3 = .ok (.aload_n 0, 1) := by decide +kernel
theorem dX8_isForcedAsValued_4 : decode cX8_isForcedAsValued 4 = .ok (.getfield 18, 3) := by decide +kernel
theorem dX8_isForcedAsValued_7 : decode cX8_isForcedAsValued 7 = .ok (.invokevirtual 60, 3) := by decide +kernel
theorem dX8_isForcedAsValued_10 : decode cX8_isForcedAsValued 10 = .ok (.if_icmp .ge 31, 3) := by decide +kernel
theorem dX8_isForcedAsValued_13 : decode cX8_isForcedAsValued 13 = .ok (.iload_n 1, 1) := by decide +kernel
theorem dX8_isForcedAsValued_14 : decode cX8_isForcedAsValued 14 = .ok (.iload_n 3, 1) := by decide +kernel
theorem dX8_isForcedAsValued_15 : decode cX8_isForcedAsValued 15 = .ok (.invokestatic 103, 3) := by decide +kernel
theorem dX8_isForcedAsValued_18 : decode cX8_isForcedAsValued 18 = .ok (.aload_n 0, 1) := by decide +kernel
theorem dX8_isForcedAsValued_19 : decode cX8_isForcedAsValued 19 = .ok (.getfield 18, 3) := by decide +kernel
theorem dX8_isForcedAsValued_22 : decode cX8_isForcedAsValued 22 = .ok (.iload_n 3, 1) := by decide +kernel
theorem dX8_isForcedAsValued_23 : decode cX8_isForcedAsValued 23 = .ok (.invokevirtual 130, 3) := by decide +kernel
theorem dX8_isForcedAsValued_26 : decode cX8_isForcedAsValued 26 = .ok (.iload_n 2, 1) := by decide +kernel
theorem dX8_isForcedAsValued_27 : decode cX8_isForcedAsValued 27 = .ok (.invokestatic 118, 3) := by decide +kernel
theorem dX8_isForcedAsValued_30 : decode cX8_isForcedAsValued 30 = .ok (.if_icmp .eq 5, 3) := by decide +kernel
theorem dX8_isForcedAsValued_33 : decode cX8_isForcedAsValued 33 = .ok (.iconst 0, 1) := by decide +kernel
theorem dX8_isForcedAsValued_34 : decode cX8_isForcedAsValued 34 = .ok (.ireturn, 1) := by decide +kernel
theorem dX8_isForcedAsValued_35 : decode cX8_isForcedAsValued 35 = .ok (.iinc 3 1, 3) := by decide +kernel
theorem dX8_isForcedAsValued_38 : decode cX8_isForcedAsValued 38 = .ok (.goto (-36), 3) := by decide +kernel
theorem dX8_isForcedAsValued_41 : decode cX8_isForcedAsValued 41 = .ok (.iconst 1, 1) := by decide +kernel
theorem dX8_isForcedAsValued_42 : decode cX8_isForcedAsValued 42 = .ok (.ireturn, 1) := by decide +kernel
theorem dX8_isAlikeAsBecome_0 : decode cX8_isAlikeAsBecome 0 = .ok (.iconst 0, 1) := by decide +kernel
theorem dX8_isAlikeAsBecome_1 : decode cX8_isAlikeAsBecome 1 = .ok (.istore_n 2, 1) := by decide +kernel
theorem dX8_isAlikeAsBecome_2 : decode cX8_isAlikeAsBecome 2 = .ok (.iload_n 2, 1) := by decide +kernel
theorem dX8_isAlikeAsBecome_3 : decode cX8_isAlikeAsBecome 3 = .ok (.aload_n 0, 1) := by decide +kernel
theorem dX8_isAlikeAsBecome_4 : decode cX8_isAlikeAsBecome 4 = .ok (.getfield 24, 3) := by decide +kernel
theorem dX8_isAlikeAsBecome_7 : decode cX8_isAlikeAsBecome 7 = .ok (.invokevirtual 290, 3) := by decide +kernel
theorem dX8_isAlikeAsBecome_10 : decode cX8_isAlikeAsBecome 10 = .ok (.if_icmp .ge 65, 3) := by decide +kernel
theorem dX8_isAlikeAsBecome_13 : decode cX8_isAlikeAsBecome 13 = .ok (.iconst 0, 1) := by decide +kernel
theorem dX8_isAlikeAsBecome_14 : decode cX8_isAlikeAsBecome 14 = .ok (.istore_n 3, 1) := by decide +kernel
theorem dX8_isAlikeAsBecome_15 : decode cX8_isAlikeAsBecome 15 = .ok (.iload_n 3, 1) := by decide +kernel
theorem dX8_isAlikeAsBecome_16 : decode cX8_isAlikeAsBecome 16 = .ok (.aload_n 0, 1) := by decide +kernel
theorem dX8_isAlikeAsBecome_17 : decode cX8_isAlikeAsBecome 17 = .ok (.getfield 24, 3) := by decide +kernel
theorem dX8_isAlikeAsBecome_20 : decode cX8_isAlikeAsBecome 20 = .ok (.invokevirtual 290, 3) := by decide +kernel
theorem dX8_isAlikeAsBecome_23 : decode cX8_isAlikeAsBecome 23 = .ok (.if_icmp .ge 46, 3) := by decide +kernel
theorem dX8_isAlikeAsBecome_26 : decode cX8_isAlikeAsBecome 26 = .ok (.aload_n 0, 1) := by decide +kernel
theorem dX8_isAlikeAsBecome_27 : decode cX8_isAlikeAsBecome 27 = .ok (.getfield 37, 3) := by decide +kernel
theorem dX8_isAlikeAsBecome_30 : decode cX8_isAlikeAsBecome 30 = .ok (.iload_n 2, 1) := by decide +kernel
theorem dX8_isAlikeAsBecome_31 : decode cX8_isAlikeAsBecome 31 = .ok (.iload_n 3, 1) := by decide +kernel
theorem dX8_isAlikeAsBecome_32 : decode cX8_isAlikeAsBecome 32 = .ok (.invokevirtual 207, 3) := by decide +kernel
theorem dX8_isAlikeAsBecome_35 : decode cX8_isAlikeAsBecome 35 = .ok (.iload_n 1, 1) := by decide +kernel
theorem dX8_isAlikeAsBecome_36 : decode cX8_isAlikeAsBecome 36 = .ok (.invokestatic 103, 3) := by decide +kernel
theorem dX8_isAlikeAsBecome_39 : decode cX8_isAlikeAsBecome 39 = .ok (.ifCond .eq 24, 3) := by decide +kernel
theorem dX8_isAlikeAsBecome_42 : decode cX8_isAlikeAsBecome 42 = .ok (.aload_n 0, 1) := by decide +kernel
theorem dX8_isAlikeAsBecome_43 : decode cX8_isAlikeAsBecome 43 = .ok (.getfield 56, 3) := by decide +kernel
theorem dX8_isAlikeAsBecome_46 : decode cX8_isAlikeAsBecome 46 = .ok (.iload_n 2, 1) := by decide +kernel
theorem dX8_isAlikeAsBecome_47 : decode cX8_isAlikeAsBecome 47 = .ok (.invokevirtual 198, 3) := by decide +kernel
theorem dX8_isAlikeAsBecome_50 : decode cX8_isAlikeAsBecome 50 = .ok (.aload_n 0, 1) := by decide +kernel
theorem dX8_isAlikeAsBecome_51 : decode cX8_isAlikeAsBecome 51 = .ok (.getfield 56, 3) := by decide +kernel
theorem dX8_isAlikeAsBecome_54 : decode cX8_isAlikeAsBecome 54 = .ok (.iload_n 3, 1) := by decide +kernel
theorem dX8_isAlikeAsBecome_55 : decode cX8_isAlikeAsBecome 55 = .ok (.invokevirtual 198, 3) := by decide +kernel
theorem dX8_isAlikeAsBecome_58 : decode cX8_isAlikeAsBecome 58 = .ok (.if_icmp .eq 5, 3) := by decide +kernel
theorem dX8_isAlikeAsBecome_61 : decode cX8_isAlikeAsBecome 61 = .ok (.iconst 0, 1) := by decide +kernel
theorem dX8_isAlikeAsBecome_62 : decode cX8_isAlikeAsBecome 62 = .ok (.ireturn, 1) := by decide +kernel
theorem dX8_isAlikeAsBecome_63 : decode cX8_isAlikeAsBecome 63 = .ok (.iinc 3 1, 3) := by decide +kernel
theorem dX8_isAlikeAsBecome_66 : decode cX8_isAlikeAsBecome 66 = .ok (.goto (-51), 3) := by decide +kernel
theorem dX8_isAlikeAsBecome_69 : decode cX8_isAlikeAsBecome 69 = .ok (.iinc 2 1, 3) := by decide +kernel
theorem dX8_isAlikeAsBecome_72 : decode cX8_isAlikeAsBecome 72 = .ok (.goto (-70), 3) := by decide +kernel
theorem dX8_isAlikeAsBecome_75 : decode cX8_isAlikeAsBecome 75 = .ok (.iconst 1, 1) := by decide +kernel
theorem dX8_isAlikeAsBecome_76 : decode cX8_isAlikeAsBecome 76 = .ok (.ireturn, 1) := by decide +kernel
theorem dX8_needCondition_0 : decode cX8_needCondition 0 = .ok (.aload_n 0, 1) := by decide +kernel
theorem dX8_needCondition_1 : decode cX8_needCondition 1 = .ok (.getfield 18, 3) := by decide +kernel
theorem dX8_needCondition_4 : decode cX8_needCondition 4 = .ok (.iload_n 1, 1) := by decide +kernel
theorem dX8_needCondition_5 : decode cX8_needCondition 5 = .ok (.invokevirtual 308, 3) := by decide +kernel
theorem dX8_needCondition_8 : decode cX8_needCondition 8 = .ok (.ifCond .ne 14, 3) := by decide +kernel
theorem dX8_needCondition_11 : decode cX8_needCondition 11 = .ok (.new 311, 3) := by decide +kernel
theorem dX8_needCondition_14 : decode cX8_needCondition 14 = .ok (.dup, 1) := by decide +kernel
theorem dX8_needCondition_15 : decode cX8_needCondition 15 = .ok (.ldc_w 313, 3) := by decide +kernel
theorem dX8_needCondition_18 : decode cX8_needCondition 18 = .ok (.invokespecial 315, 3) := by decide +kernel
theorem dX8_needCondition_21 : decode cX8_needCondition 21 = .ok (.athrow, 1) := by decide +kernel
theorem dX8_needCondition_22 : decode cX8_needCondition 22 = .ok (.return_, 1) := by decide +kernel
theorem dX8_needConditions_0 : decode cX8_needConditions 0 = .ok (.aload_n 0, 1) := by decide +kernel
theorem dX8_needConditions_1 : decode cX8_needConditions 1 = .ok (.iload_n 1, 1) := by decide +kernel
theorem dX8_needConditions_2 : decode cX8_needConditions 2 = .ok (.invokevirtual 127, 3) := by decide +kernel
theorem dX8_needConditions_5 : decode cX8_needConditions 5 = .ok (.aload_n 0, 1) := by decide +kernel
theorem dX8_needConditions_6 : decode cX8_needConditions 6 = .ok (.iload_n 2, 1) := by decide +kernel
theorem dX8_needConditions_7 : decode cX8_needConditions 7 = .ok (.invokevirtual 127, 3) := by decide +kernel
theorem dX8_needConditions_10 : decode cX8_needConditions 10 = .ok (.return_, 1) := by decide +kernel
theorem dX8_needSet_0 : decode cX8_needSet 0 = .ok (.iload_n 1, 1) := by decide +kernel
theorem dX8_needSet_1 : decode cX8_needSet 1 = .ok (.aload_n 0, 1) := by decide +kernel
theorem dX8_needSet_2 : decode cX8_needSet 2 = .ok (.getfield 18, 3) := by decide +kernel
theorem dX8_needSet_5 : decode cX8_needSet 5 = .ok (.invokevirtual 180, 3) := by decide +kernel
theorem dX8_needSet_8 : decode cX8_needSet 8 = .ok (.invokestatic 118, 3) := by decide +kernel
theorem dX8_needSet_11 : decode cX8_needSet 11 = .ok (.ifCond .ne 14, 3) := by decide +kernel
theorem dX8_needSet_14 : decode cX8_needSet 14 = .ok (.new 143, 3) := by decide +kernel
theorem dX8_needSet_17 : decode cX8_needSet 17 = .ok (.dup, 1) := by decide +kernel
theorem dX8_needSet_18 : decode cX8_needSet 18 = .ok (.ldc_w 316, 3) := by decide +kernel
theorem dX8_needSet_21 : decode cX8_needSet 21 = .ok (.invokespecial 147, 3) := by decide +kernel
theorem dX8_needSet_24 : decode cX8_needSet 24 = .ok (.athrow, 1) := by decide +kernel
theorem dX8_needSet_25 : decode cX8_needSet 25 = .ok (.return_, 1) := by decide +kernel
theorem dX8_needWorld_0 : decode cX8_needWorld 0 = .ok (.aload_n 0, 1) := by decide +kernel
theorem dX8_needWorld_1 : decode cX8_needWorld 1 = .ok (.getfield 18, 3) := by decide +kernel
theorem dX8_needWorld_4 : decode cX8_needWorld 4 = .ok (.invokevirtual 96, 3) := by decide +kernel
theorem dX8_needWorld_7 : decode cX8_needWorld 7 = .ok (.iload_n 1, 1) := by decide +kernel
theorem dX8_needWorld_8 : decode cX8_needWorld 8 = .ok (.invokestatic 103, 3) := by decide +kernel
theorem dX8_needWorld_11 : decode cX8_needWorld 11 = .ok (.ifCond .ne 14, 3) := by decide +kernel
theorem dX8_needWorld_14 : decode cX8_needWorld 14 = .ok (.new 143, 3) := by decide +kernel
theorem dX8_needWorld_17 : decode cX8_needWorld 17 = .ok (.dup, 1) := by decide +kernel
theorem dX8_needWorld_18 : decode cX8_needWorld 18 = .ok (.ldc_w 318, 3) := by decide +kernel
theorem dX8_needWorld_21 : decode cX8_needWorld 21 = .ok (.invokespecial 147, 3) := by decide +kernel
theorem dX8_needWorld_24 : decode cX8_needWorld 24 = .ok (.athrow, 1) := by decide +kernel
theorem dX8_needWorld_25 : decode cX8_needWorld 25 = .ok (.return_, 1) := by decide +kernel
theorem dX8_needName_0 : decode cX8_needName 0 = .ok (.aload_n 0, 1) := by decide +kernel
theorem dX8_needName_1 : decode cX8_needName 1 = .ok (.getfield 24, 3) := by decide +kernel
theorem dX8_needName_4 : decode cX8_needName 4 = .ok (.iload_n 1, 1) := by decide +kernel
theorem dX8_needName_5 : decode cX8_needName 5 = .ok (.invokevirtual 320, 3) := by decide +kernel
theorem dX8_needName_8 : decode cX8_needName 8 = .ok (.ifCond .ne 14, 3) := by decide +kernel
theorem dX8_needName_11 : decode cX8_needName 11 = .ok (.new 311, 3) := by decide +kernel
theorem dX8_needName_14 : decode cX8_needName 14 = .ok (.dup, 1) := by decide +kernel
theorem dX8_needName_15 : decode cX8_needName 15 = .ok (.ldc_w 321, 3) := by decide +kernel
theorem dX8_needName_18 : decode cX8_needName 18 = .ok (.invokespecial 315, 3) := by decide +kernel
theorem dX8_needName_21 : decode cX8_needName 21 = .ok (.athrow, 1) := by decide +kernel
theorem dX8_needName_22 : decode cX8_needName 22 = .ok (.return_, 1) := by decide +kernel
theorem dX8_needRoomForNames_0 : decode cX8_needRoomForNames 0 = .ok (.aload_n 0, 1) := by decide +kernel
theorem dX8_needRoomForNames_1 : decode cX8_needRoomForNames 1 = .ok (.getfield 24, 3) := by decide +kernel
theorem dX8_needRoomForNames_4 : decode cX8_needRoomForNames 4 = .ok (.invokevirtual 290, 3) := by decide +kernel
theorem dX8_needRoomForNames_7 : decode cX8_needRoomForNames 7 = .ok (.iload_n 1, 1) := by decide +kernel
theorem dX8_needRoomForNames_8 : decode cX8_needRoomForNames 8 = .ok (.iadd, 1) := by decide +kernel
theorem dX8_needRoomForNames_9 : decode cX8_needRoomForNames 9 = .ok (.bipush 12, 2) := by decide +kernel
theorem dX8_needRoomForNames_11 : decode cX8_needRoomForNames 11 = .ok (.if_icmp .le 14, 3) := by decide +kernel
theorem dX8_needRoomForNames_14 : decode cX8_needRoomForNames 14 = .ok (.new 64, 3) := by decide +kernel
theorem dX8_needRoomForNames_17 : decode cX8_needRoomForNames 17 = .ok (.dup, 1) := by decide +kernel
theorem dX8_needRoomForNames_18 : decode cX8_needRoomForNames 18 = .ok (.ldc_w 323, 3) := by decide +kernel
theorem dX8_needRoomForNames_21 : decode cX8_needRoomForNames 21 = .ok (.invokespecial 68, 3) := by decide +kernel
theorem dX8_needRoomForNames_24 : decode cX8_needRoomForNames 24 = .ok (.athrow, 1) := by decide +kernel
theorem dX8_needRoomForNames_25 : decode cX8_needRoomForNames 25 = .ok (.return_, 1) := by decide +kernel
theorem dX8_needTerm_0 : decode cX8_needTerm 0 = .ok (.aload_n 0, 1) := by decide +kernel
theorem dX8_needTerm_1 : decode cX8_needTerm 1 = .ok (.getfield 24, 3) := by decide +kernel
theorem dX8_needTerm_4 : decode cX8_needTerm 4 = .ok (.iload_n 1, 1) := by decide +kernel
theorem dX8_needTerm_5 : decode cX8_needTerm 5 = .ok (.invokevirtual 320, 3) := by decide +kernel
theorem dX8_needTerm_8 : decode cX8_needTerm 8 = .ok (.ifCond .ne 21, 3) := by decide +kernel
theorem dX8_needTerm_11 : decode cX8_needTerm 11 = .ok (.iload_n 1, 1) := by decide +kernel
theorem dX8_needTerm_12 : decode cX8_needTerm 12 = .ok (.invokestatic 325, 3) := by decide +kernel
theorem dX8_needTerm_15 : decode cX8_needTerm 15 = .ok (.ifCond .ne 14, 3) := by decide +kernel
theorem dX8_needTerm_18 : decode cX8_needTerm 18 = .ok (.new 143, 3) := by decide +kernel
theorem dX8_needTerm_21 : decode cX8_needTerm 21 = .ok (.dup, 1) := by decide +kernel
theorem dX8_needTerm_22 : decode cX8_needTerm 22 = .ok (.ldc_w 328, 3) := by decide +kernel
theorem dX8_needTerm_25 : decode cX8_needTerm 25 = .ok (.invokespecial 147, 3) := by decide +kernel
theorem dX8_needTerm_28 : decode cX8_needTerm 28 = .ok (.athrow, 1) := by decide +kernel
theorem dX8_needTerm_29 : decode cX8_needTerm 29 = .ok (.return_, 1) := by decide +kernel
theorem dX8_needFormula_0 : decode cX8_needFormula 0 = .ok (.aload_n 0, 1) := by decide +kernel
theorem dX8_needFormula_1 : decode cX8_needFormula 1 = .ok (.getfield 28, 3) := by decide +kernel
theorem dX8_needFormula_4 : decode cX8_needFormula 4 = .ok (.iload_n 1, 1) := by decide +kernel
theorem dX8_needFormula_5 : decode cX8_needFormula 5 = .ok (.invokevirtual 330, 3) := by decide +kernel
theorem dX8_needFormula_8 : decode cX8_needFormula 8 = .ok (.ifCond .ne 14, 3) := by decide +kernel
theorem dX8_needFormula_11 : decode cX8_needFormula 11 = .ok (.new 311, 3) := by decide +kernel
theorem dX8_needFormula_14 : decode cX8_needFormula 14 = .ok (.dup, 1) := by decide +kernel
theorem dX8_needFormula_15 : decode cX8_needFormula 15 = .ok (.ldc_w 331, 3) := by decide +kernel
theorem dX8_needFormula_18 : decode cX8_needFormula 18 = .ok (.invokespecial 315, 3) := by decide +kernel
theorem dX8_needFormula_21 : decode cX8_needFormula 21 = .ok (.athrow, 1) := by decide +kernel
theorem dX8_needFormula_22 : decode cX8_needFormula 22 = .ok (.return_, 1) := by decide +kernel
theorem dX8_needClosed_0 : decode cX8_needClosed 0 = .ok (.aload_n 0, 1) := by decide +kernel
theorem dX8_needClosed_1 : decode cX8_needClosed 1 = .ok (.iload_n 1, 1) := by decide +kernel
theorem dX8_needClosed_2 : decode cX8_needClosed 2 = .ok (.invokevirtual 235, 3) := by decide +kernel
theorem dX8_needClosed_5 : decode cX8_needClosed 5 = .ok (.aload_n 0, 1) := by decide +kernel
theorem dX8_needClosed_6 : decode cX8_needClosed 6 = .ok (.getfield 28, 3) := by decide +kernel
theorem dX8_needClosed_9 : decode cX8_needClosed 9 = .ok (.iload_n 1, 1) := by decide +kernel
theorem dX8_needClosed_10 : decode cX8_needClosed 10 = .ok (.invokevirtual 249, 3) := by decide +kernel
theorem dX8_needClosed_13 : decode cX8_needClosed 13 = .ok (.ifCond .eq 14, 3) := by decide +kernel
theorem dX8_needClosed_16 : decode cX8_needClosed 16 = .ok (.new 82, 3) := by decide +kernel
theorem dX8_needClosed_19 : decode cX8_needClosed 19 = .ok (.dup, 1) := by decide +kernel
theorem dX8_needClosed_20 : decode cX8_needClosed 20 = .ok (.ldc_w 333, 3) := by decide +kernel
theorem dX8_needClosed_23 : decode cX8_needClosed 23 = .ok (.invokespecial 86, 3) := by decide +kernel
theorem dX8_needClosed_26 : decode cX8_needClosed 26 = .ok (.athrow, 1) := by decide +kernel
theorem dX8_needClosed_27 : decode cX8_needClosed 27 = .ok (.return_, 1) := by decide +kernel
theorem dX8_needDepth_0 : decode cX8_needDepth 0 = .ok (.iload_n 0, 1) := by decide +kernel
theorem dX8_needDepth_1 : decode cX8_needDepth 1 = .ok (.iconst 5, 1) := by decide +kernel
theorem dX8_needDepth_2 : decode cX8_needDepth 2 = .ok (.if_icmp .le 14, 3) := by decide +kernel
theorem dX8_needDepth_5 : decode cX8_needDepth 5 = .ok (.new 82, 3) := by decide +kernel
theorem dX8_needDepth_8 : decode cX8_needDepth 8 = .ok (.dup, 1) := by decide +kernel
theorem dX8_needDepth_9 : decode cX8_needDepth 9 = .ok (.ldc_w 335, 3) := by decide +kernel
theorem dX8_needDepth_12 : decode cX8_needDepth 12 = .ok (.invokespecial 86, 3) := by decide +kernel
theorem dX8_needDepth_15 : decode cX8_needDepth 15 = .ok (.athrow, 1) := by decide +kernel
theorem dX8_needDepth_16 : decode cX8_needDepth 16 = .ok (.return_, 1) := by decide +kernel
theorem dX8_needRoomForFormula_0 : decode cX8_needRoomForFormula 0 = .ok (.aload_n 0, 1) := by decide +kernel
theorem dX8_needRoomForFormula_1 : decode cX8_needRoomForFormula 1 = .ok (.getfield 28, 3) := by decide +kernel
theorem dX8_needRoomForFormula_4 : decode cX8_needRoomForFormula 4 = .ok (.invokevirtual 297, 3) := by decide +kernel
theorem dX8_needRoomForFormula_7 : decode cX8_needRoomForFormula 7 = .ok (.bipush 16, 2) := by decide +kernel
theorem dX8_needRoomForFormula_9 : decode cX8_needRoomForFormula 9 = .ok (.if_icmp .lt 14, 3) := by decide +kernel
theorem dX8_needRoomForFormula_12 : decode cX8_needRoomForFormula 12 = .ok (.new 64, 3) := by decide +kernel
theorem dX8_needRoomForFormula_15 : decode cX8_needRoomForFormula 15 = .ok (.dup, 1) := by decide +kernel
theorem dX8_needRoomForFormula_16 : decode cX8_needRoomForFormula 16 = .ok (.ldc_w 337, 3) := by decide +kernel
theorem dX8_needRoomForFormula_19 : decode cX8_needRoomForFormula 19 = .ok (.invokespecial 68, 3) := by decide +kernel
theorem dX8_needRoomForFormula_22 : decode cX8_needRoomForFormula 22 = .ok (.athrow, 1) := by decide +kernel
theorem dX8_needRoomForFormula_23 : decode cX8_needRoomForFormula 23 = .ok (.return_, 1) := by decide +kernel
theorem dX8_contains_0 : decode cX8_contains 0 = .ok (.iload_n 1, 1) := by decide +kernel
theorem dX8_contains_1 : decode cX8_contains 1 = .ok (.ifCond .lt 21, 3) := by decide +kernel
theorem dX8_contains_4 : decode cX8_contains 4 = .ok (.iload_n 1, 1) := by decide +kernel
theorem dX8_contains_5 : decode cX8_contains 5 = .ok (.bipush 32, 2) := by decide +kernel
theorem dX8_contains_7 : decode cX8_contains 7 = .ok (.if_icmp .ge 15, 3) := by decide +kernel
theorem dX8_contains_10 : decode cX8_contains 10 = .ok (.iload_n 0, 1) := by decide +kernel
theorem dX8_contains_11 : decode cX8_contains 11 = .ok (.iload_n 1, 1) := by decide +kernel
theorem dX8_contains_12 : decode cX8_contains 12 = .ok (.iushr, 1) := by decide +kernel
theorem dX8_contains_13 : decode cX8_contains 13 = .ok (.iconst 1, 1) := by decide +kernel
theorem dX8_contains_14 : decode cX8_contains 14 = .ok (.iand, 1) := by decide +kernel
theorem dX8_contains_15 : decode cX8_contains 15 = .ok (.ifCond .eq 7, 3) := by decide +kernel
theorem dX8_contains_18 : decode cX8_contains 18 = .ok (.iconst 1, 1) := by decide +kernel
theorem dX8_contains_19 : decode cX8_contains 19 = .ok (.goto 4, 3) := by decide +kernel
theorem dX8_contains_22 : decode cX8_contains 22 = .ok (.iconst 0, 1) := by decide +kernel
theorem dX8_contains_23 : decode cX8_contains 23 = .ok (.ireturn, 1) := by decide +kernel
theorem dX8_isPart_0 : decode cX8_isPart 0 = .ok (.iload_n 0, 1) := by decide +kernel
theorem dX8_isPart_1 : decode cX8_isPart 1 = .ok (.iload_n 1, 1) := by decide +kernel
theorem dX8_isPart_2 : decode cX8_isPart 2 = .ok (.iconst (-1), 1) := by decide +kernel
theorem dX8_isPart_3 : decode cX8_isPart 3 = .ok (.ixor, 1) := by decide +kernel
theorem dX8_isPart_4 : decode cX8_isPart 4 = .ok (.iand, 1) := by decide +kernel
theorem dX8_isPart_5 : decode cX8_isPart 5 = .ok (.ifCond .ne 7, 3) := by decide +kernel
theorem dX8_isPart_8 : decode cX8_isPart 8 = .ok (.iconst 1, 1) := by decide +kernel
theorem dX8_isPart_9 : decode cX8_isPart 9 = .ok (.goto 4, 3) := by decide +kernel
theorem dX8_isPart_12 : decode cX8_isPart 12 = .ok (.iconst 0, 1) := by decide +kernel
theorem dX8_isPart_13 : decode cX8_isPart 13 = .ok (.ireturn, 1) := by decide +kernel
theorem dX8_isLetter_0 : decode cX8_isLetter 0 = .ok (.iload_n 0, 1) := by decide +kernel
theorem dX8_isLetter_1 : decode cX8_isLetter 1 = .ok (.bipush 100, 2) := by decide +kernel
theorem dX8_isLetter_3 : decode cX8_isLetter 3 = .ok (.if_icmp .lt 13, 3) := by decide +kernel
theorem dX8_isLetter_6 : decode cX8_isLetter 6 = .ok (.iload_n 0, 1) := by decide +kernel
theorem dX8_isLetter_7 : decode cX8_isLetter 7 = .ok (.bipush 104, 2) := by decide +kernel
theorem dX8_isLetter_9 : decode cX8_isLetter 9 = .ok (.if_icmp .ge 7, 3) := by decide +kernel
theorem dX8_isLetter_12 : decode cX8_isLetter 12 = .ok (.iconst 1, 1) := by decide +kernel
theorem dX8_isLetter_13 : decode cX8_isLetter 13 = .ok (.goto 4, 3) := by decide +kernel
theorem dX8_isLetter_16 : decode cX8_isLetter 16 = .ok (.iconst 0, 1) := by decide +kernel
theorem dX8_isLetter_17 : decode cX8_isLetter 17 = .ok (.ireturn, 1) := by decide +kernel
theorem dX8_letterOf_0 : decode cX8_letterOf 0 = .ok (.iload_n 0, 1) := by decide +kernel
theorem dX8_letterOf_1 : decode cX8_letterOf 1 = .ok (.invokestatic 325, 3) := by decide +kernel
theorem dX8_letterOf_4 : decode cX8_letterOf 4 = .ok (.ifCond .eq 12, 3) := by decide +kernel
theorem dX8_letterOf_7 : decode cX8_letterOf 7 = .ok (.iconst 1, 1) := by decide +kernel
theorem dX8_letterOf_8 : decode cX8_letterOf 8 = .ok (.iload_n 0, 1) := by decide +kernel
theorem dX8_letterOf_9 : decode cX8_letterOf 9 = .ok (.bipush 100, 2) := by decide +kernel
theorem dX8_letterOf_11 : decode cX8_letterOf 11 = .ok (.isub, 1) := by decide +kernel
theorem dX8_letterOf_12 : decode cX8_letterOf 12 = .ok (.ishl, 1) := by decide +kernel
theorem dX8_letterOf_13 : decode cX8_letterOf 13 = .ok (.goto 4, 3) := by decide +kernel
theorem dX8_letterOf_16 : decode cX8_letterOf 16 = .ok (.iconst 0, 1) := by decide +kernel
theorem dX8_letterOf_17 : decode cX8_letterOf 17 = .ok (.ireturn, 1) := by decide +kernel
theorem dX8_at_0 : decode cX8_at 0 = .ok (.iload_n 1, 1) := by decide +kernel
theorem dX8_at_1 : decode cX8_at 1 = .ok (.ifCond .lt 15, 3) := by decide +kernel
theorem dX8_at_4 : decode cX8_at 4 = .ok (.iload_n 1, 1) := by decide +kernel
theorem dX8_at_5 : decode cX8_at 5 = .ok (.aload_n 0, 1) := by decide +kernel
theorem dX8_at_6 : decode cX8_at 6 = .ok (.arraylength, 1) := by decide +kernel
theorem dX8_at_7 : decode cX8_at 7 = .ok (.if_icmp .ge 9, 3) := by decide +kernel
theorem dX8_at_10 : decode cX8_at 10 = .ok (.aload_n 0, 1) := by decide +kernel
theorem dX8_at_11 : decode cX8_at 11 = .ok (.iload_n 1, 1) := by decide +kernel
theorem dX8_at_12 : decode cX8_at 12 = .ok (.iaload, 1) := by decide +kernel
theorem dX8_at_13 : decode cX8_at 13 = .ok (.goto 4, 3) := by decide +kernel
theorem dX8_at_16 : decode cX8_at 16 = .ok (.iconst 0, 1) := by decide +kernel
theorem dX8_at_17 : decode cX8_at 17 = .ok (.ireturn, 1) := by decide +kernel
theorem dX8_put_0 : decode cX8_put 0 = .ok (.iload_n 1, 1) := by decide +kernel
theorem dX8_put_1 : decode cX8_put 1 = .ok (.ifCond .lt 13, 3) := by decide +kernel
theorem dX8_put_4 : decode cX8_put 4 = .ok (.iload_n 1, 1) := by decide +kernel
theorem dX8_put_5 : decode cX8_put 5 = .ok (.aload_n 0, 1) := by decide +kernel
theorem dX8_put_6 : decode cX8_put 6 = .ok (.arraylength, 1) := by decide +kernel
theorem dX8_put_7 : decode cX8_put 7 = .ok (.if_icmp .ge 7, 3) := by decide +kernel
theorem dX8_put_10 : decode cX8_put 10 = .ok (.aload_n 0, 1) := by decide +kernel
theorem dX8_put_11 : decode cX8_put 11 = .ok (.iload_n 1, 1) := by decide +kernel
theorem dX8_put_12 : decode cX8_put 12 = .ok (.iload_n 2, 1) := by decide +kernel
theorem dX8_put_13 : decode cX8_put 13 = .ok (.iastore, 1) := by decide +kernel
theorem dX8_put_14 : decode cX8_put 14 = .ok (.return_, 1) := by decide +kernel
end
section
theorem dJ6_valueOf_2dffe_0 : decode cJ6_valueOf_2dffe 0 = .ok (.iload_n 0, 1) := by decide +kernel
theorem dJ6_valueOf_2dffe_1 : decode cJ6_valueOf_2dffe 1 = .ok (.bipush (-128), 2) := by decide +kernel
theorem dJ6_valueOf_2dffe_3 : decode cJ6_valueOf_2dffe 3 = .ok (.if_icmp .lt 20, 3) := by decide +kernel
theorem dJ6_valueOf_2dffe_6 : decode cJ6_valueOf_2dffe 6 = .ok (.iload_n 0, 1) := by decide +kernel
theorem dJ6_valueOf_2dffe_7 : decode cJ6_valueOf_2dffe 7 = .ok (.getstatic 191, 3) := by decide +kernel
theorem dJ6_valueOf_2dffe_10 : decode cJ6_valueOf_2dffe 10 = .ok (.if_icmp .gt 13, 3) := by decide +kernel
theorem dJ6_valueOf_2dffe_13 : decode cJ6_valueOf_2dffe 13 = .ok (.getstatic 195, 3) := by decide +kernel
theorem dJ6_valueOf_2dffe_16 : decode cJ6_valueOf_2dffe 16 = .ok (.iload_n 0, 1) := by decide +kernel
theorem dJ6_valueOf_2dffe_17 : decode cJ6_valueOf_2dffe 17 = .ok (.sipush 128, 3) := by decide +kernel
theorem dJ6_valueOf_2dffe_20 : decode cJ6_valueOf_2dffe 20 = .ok (.iadd, 1) := by decide +kernel
theorem dJ6_valueOf_2dffe_21 : decode cJ6_valueOf_2dffe 21 = .ok (.aaload, 1) := by decide +kernel
theorem dJ6_valueOf_2dffe_22 : decode cJ6_valueOf_2dffe 22 = .ok (.areturn, 1) := by decide +kernel
theorem dJ6_valueOf_2dffe_23 : decode cJ6_valueOf_2dffe 23 = .ok (.new 1, 3) := by decide +kernel
theorem dJ6_valueOf_2dffe_26 : decode cJ6_valueOf_2dffe 26 = .ok (.dup, 1) := by decide +kernel
theorem dJ6_valueOf_2dffe_27 : decode cJ6_valueOf_2dffe 27 = .ok (.iload_n 0, 1) := by decide +kernel
theorem dJ6_valueOf_2dffe_28 : decode cJ6_valueOf_2dffe 28 = .ok (.invokespecial 199, 3) := by decide +kernel
theorem dJ6_valueOf_2dffe_31 : decode cJ6_valueOf_2dffe 31 = .ok (.areturn, 1) := by decide +kernel
theorem dJ6_init_d00df_0 : decode cJ6_init_d00df 0 = .ok (.aload_n 0, 1) := by decide +kernel
theorem dJ6_init_d00df_1 : decode cJ6_init_d00df 1 = .ok (.invokespecial 202, 3) := by decide +kernel
theorem dJ6_init_d00df_4 : decode cJ6_init_d00df 4 = .ok (.aload_n 0, 1) := by decide +kernel
theorem dJ6_init_d00df_5 : decode cJ6_init_d00df 5 = .ok (.iload_n 1, 1) := by decide +kernel
theorem dJ6_init_d00df_6 : decode cJ6_init_d00df 6 = .ok (.putfield 205, 3) := by decide +kernel
theorem dJ6_init_d00df_9 : decode cJ6_init_d00df 9 = .ok (.return_, 1) := by decide +kernel
theorem dJ6_intValue_8abf5_0 : decode cJ6_intValue_8abf5 0 = .ok (.aload_n 0, 1) := by decide +kernel
theorem dJ6_intValue_8abf5_1 : decode cJ6_intValue_8abf5 1 = .ok (.getfield 205, 3) := by decide +kernel
theorem dJ6_intValue_8abf5_4 : decode cJ6_intValue_8abf5 4 = .ok (.ireturn, 1) := by decide +kernel
theorem dJ6_numberOfTrailingZeros_0f7a4_0 : decode cJ6_numberOfTrailingZeros_0f7a4 0 = .ok (.iload_n 0, 1) := by decide +kernel
theorem dJ6_numberOfTrailingZeros_0f7a4_1 : decode cJ6_numberOfTrailingZeros_0f7a4 1 = .ok (.iconst (-1), 1) := by decide +kernel
theorem dJ6_numberOfTrailingZeros_0f7a4_2 : decode cJ6_numberOfTrailingZeros_0f7a4 2 = .ok (.ixor, 1) := by decide +kernel
theorem dJ6_numberOfTrailingZeros_0f7a4_3 : decode cJ6_numberOfTrailingZeros_0f7a4 3 = .ok (.iload_n 0, 1) := by decide +kernel
theorem dJ6_numberOfTrailingZeros_0f7a4_4 : decode cJ6_numberOfTrailingZeros_0f7a4 4 = .ok (.iconst 1, 1) := by decide +kernel
theorem dJ6_numberOfTrailingZeros_0f7a4_5 : decode cJ6_numberOfTrailingZeros_0f7a4 5 = .ok (.isub, 1) := by decide +kernel
theorem dJ6_numberOfTrailingZeros_0f7a4_6 : decode cJ6_numberOfTrailingZeros_0f7a4 6 = .ok (.iand, 1) := by decide +kernel
theorem dJ6_numberOfTrailingZeros_0f7a4_7 : decode cJ6_numberOfTrailingZeros_0f7a4 7 = .ok (.istore_n 0, 1) := by decide +kernel
theorem dJ6_numberOfTrailingZeros_0f7a4_8 : decode cJ6_numberOfTrailingZeros_0f7a4 8 = .ok (.iload_n 0, 1) := by decide +kernel
theorem dJ6_numberOfTrailingZeros_0f7a4_9 : decode cJ6_numberOfTrailingZeros_0f7a4 9 = .ok (.ifCond .gt 8, 3) := by decide +kernel
theorem dJ6_numberOfTrailingZeros_0f7a4_12 : decode cJ6_numberOfTrailingZeros_0f7a4 12 = .ok (.iload_n 0, 1) := by decide +kernel
theorem dJ6_numberOfTrailingZeros_0f7a4_13 : decode cJ6_numberOfTrailingZeros_0f7a4 13 = .ok (.bipush 32, 2) := by decide +kernel
theorem dJ6_numberOfTrailingZeros_0f7a4_15 : decode cJ6_numberOfTrailingZeros_0f7a4 15 = .ok (.iand, 1) := by decide +kernel
theorem dJ6_numberOfTrailingZeros_0f7a4_16 : decode cJ6_numberOfTrailingZeros_0f7a4 16 = .ok (.ireturn, 1) := by decide +kernel
theorem dJ6_numberOfTrailingZeros_0f7a4_17 : decode cJ6_numberOfTrailingZeros_0f7a4 17 = .ok (.iconst 1, 1) := by decide +kernel
theorem dJ6_numberOfTrailingZeros_0f7a4_18 : decode cJ6_numberOfTrailingZeros_0f7a4 18 = .ok (.istore_n 1, 1) := by decide +kernel
theorem dJ6_numberOfTrailingZeros_0f7a4_19 : decode cJ6_numberOfTrailingZeros_0f7a4 19 = .ok (.iload_n 0, 1) := by decide +kernel
theorem dJ6_numberOfTrailingZeros_0f7a4_20 : decode cJ6_numberOfTrailingZeros_0f7a4 20 = .ok (.ldc_w 264, 3) := by decide +kernel
theorem dJ6_numberOfTrailingZeros_0f7a4_23 : decode cJ6_numberOfTrailingZeros_0f7a4 23 = .ok (.if_icmp .le 11, 3) := by decide +kernel
theorem dJ6_numberOfTrailingZeros_0f7a4_26 : decode cJ6_numberOfTrailingZeros_0f7a4 26 = .ok (.iinc 1 16, 3) := by decide +kernel
theorem dJ6_numberOfTrailingZeros_0f7a4_29 : decode cJ6_numberOfTrailingZeros_0f7a4 29 = .ok (.iload_n 0, 1) := by decide +kernel
theorem dJ6_numberOfTrailingZeros_0f7a4_30 : decode cJ6_numberOfTrailingZeros_0f7a4 30 = .ok (.bipush 16, 2) := by decide +kernel
theorem dJ6_numberOfTrailingZeros_0f7a4_32 : decode cJ6_numberOfTrailingZeros_0f7a4 32 = .ok (.iushr, 1) := by decide +kernel
theorem dJ6_numberOfTrailingZeros_0f7a4_33 : decode cJ6_numberOfTrailingZeros_0f7a4 33 = .ok (.istore_n 0, 1) := by decide +kernel
theorem dJ6_numberOfTrailingZeros_0f7a4_34 : decode cJ6_numberOfTrailingZeros_0f7a4 34 = .ok (.iload_n 0, 1) := by decide +kernel
theorem dJ6_numberOfTrailingZeros_0f7a4_35 : decode cJ6_numberOfTrailingZeros_0f7a4 35 = .ok (.sipush 256, 3) := by decide +kernel
theorem dJ6_numberOfTrailingZeros_0f7a4_38 : decode cJ6_numberOfTrailingZeros_0f7a4 38 = .ok (.if_icmp .le 11, 3) := by decide +kernel
theorem dJ6_numberOfTrailingZeros_0f7a4_41 : decode cJ6_numberOfTrailingZeros_0f7a4 41 = .ok (.iinc 1 8, 3) := by decide +kernel
theorem dJ6_numberOfTrailingZeros_0f7a4_44 : decode cJ6_numberOfTrailingZeros_0f7a4 44 = .ok (.iload_n 0, 1) := by decide +kernel
theorem dJ6_numberOfTrailingZeros_0f7a4_45 : decode cJ6_numberOfTrailingZeros_0f7a4 45 = .ok (.bipush 8, 2) := by decide +kernel
theorem dJ6_numberOfTrailingZeros_0f7a4_47 : decode cJ6_numberOfTrailingZeros_0f7a4 47 = .ok (.iushr, 1) := by decide +kernel
theorem dJ6_numberOfTrailingZeros_0f7a4_48 : decode cJ6_numberOfTrailingZeros_0f7a4 48 = .ok (.istore_n 0, 1) := by decide +kernel
theorem dJ6_numberOfTrailingZeros_0f7a4_49 : decode cJ6_numberOfTrailingZeros_0f7a4 49 = .ok (.iload_n 0, 1) := by decide +kernel
theorem dJ6_numberOfTrailingZeros_0f7a4_50 : decode cJ6_numberOfTrailingZeros_0f7a4 50 = .ok (.bipush 16, 2) := by decide +kernel
theorem dJ6_numberOfTrailingZeros_0f7a4_52 : decode cJ6_numberOfTrailingZeros_0f7a4 52 = .ok (.if_icmp .le 10, 3) := by decide +kernel
theorem dJ6_numberOfTrailingZeros_0f7a4_55 : decode cJ6_numberOfTrailingZeros_0f7a4 55 = .ok (.iinc 1 4, 3) := by decide +kernel
theorem dJ6_numberOfTrailingZeros_0f7a4_58 : decode cJ6_numberOfTrailingZeros_0f7a4 58 = .ok (.iload_n 0, 1) := by decide +kernel
theorem dJ6_numberOfTrailingZeros_0f7a4_59 : decode cJ6_numberOfTrailingZeros_0f7a4 59 = .ok (.iconst 4, 1) := by decide +kernel
theorem dJ6_numberOfTrailingZeros_0f7a4_60 : decode cJ6_numberOfTrailingZeros_0f7a4 60 = .ok (.iushr, 1) := by decide +kernel
theorem dJ6_numberOfTrailingZeros_0f7a4_61 : decode cJ6_numberOfTrailingZeros_0f7a4 61 = .ok (.istore_n 0, 1) := by decide +kernel
theorem dJ6_numberOfTrailingZeros_0f7a4_62 : decode cJ6_numberOfTrailingZeros_0f7a4 62 = .ok (.iload_n 0, 1) := by decide +kernel
theorem dJ6_numberOfTrailingZeros_0f7a4_63 : decode cJ6_numberOfTrailingZeros_0f7a4 63 = .ok (.iconst 4, 1) := by decide +kernel
theorem dJ6_numberOfTrailingZeros_0f7a4_64 : decode cJ6_numberOfTrailingZeros_0f7a4 64 = .ok (.if_icmp .le 10, 3) := by decide +kernel
theorem dJ6_numberOfTrailingZeros_0f7a4_67 : decode cJ6_numberOfTrailingZeros_0f7a4 67 = .ok (.iinc 1 2, 3) := by decide +kernel
theorem dJ6_numberOfTrailingZeros_0f7a4_70 : decode cJ6_numberOfTrailingZeros_0f7a4 70 = .ok (.iload_n 0, 1) := by decide +kernel
theorem dJ6_numberOfTrailingZeros_0f7a4_71 : decode cJ6_numberOfTrailingZeros_0f7a4 71 = .ok (.iconst 2, 1) := by decide +kernel
theorem dJ6_numberOfTrailingZeros_0f7a4_72 : decode cJ6_numberOfTrailingZeros_0f7a4 72 = .ok (.iushr, 1) := by decide +kernel
theorem dJ6_numberOfTrailingZeros_0f7a4_73 : decode cJ6_numberOfTrailingZeros_0f7a4 73 = .ok (.istore_n 0, 1) := by decide +kernel
theorem dJ6_numberOfTrailingZeros_0f7a4_74 : decode cJ6_numberOfTrailingZeros_0f7a4 74 = .ok (.iload_n 1, 1) := by decide +kernel
theorem dJ6_numberOfTrailingZeros_0f7a4_75 : decode cJ6_numberOfTrailingZeros_0f7a4 75 = .ok (.iload_n 0, 1) := by decide +kernel
theorem dJ6_numberOfTrailingZeros_0f7a4_76 : decode cJ6_numberOfTrailingZeros_0f7a4 76 = .ok (.iconst 1, 1) := by decide +kernel
theorem dJ6_numberOfTrailingZeros_0f7a4_77 : decode cJ6_numberOfTrailingZeros_0f7a4 77 = .ok (.iushr, 1) := by decide +kernel
theorem dJ6_numberOfTrailingZeros_0f7a4_78 : decode cJ6_numberOfTrailingZeros_0f7a4 78 = .ok (.iadd, 1) := by decide +kernel
theorem dJ6_numberOfTrailingZeros_0f7a4_79 : decode cJ6_numberOfTrailingZeros_0f7a4 79 = .ok (.ireturn, 1) := by decide +kernel
theorem dJ6_bitCount_0f7a4_0 : decode cJ6_bitCount_0f7a4 0 = .ok (.iload_n 0, 1) := by decide +kernel
theorem dJ6_bitCount_0f7a4_1 : decode cJ6_bitCount_0f7a4 1 = .ok (.iload_n 0, 1) := by decide +kernel
theorem dJ6_bitCount_0f7a4_2 : decode cJ6_bitCount_0f7a4 2 = .ok (.iconst 1, 1) := by decide +kernel
theorem dJ6_bitCount_0f7a4_3 : decode cJ6_bitCount_0f7a4 3 = .ok (.iushr, 1) := by decide +kernel
theorem dJ6_bitCount_0f7a4_4 : decode cJ6_bitCount_0f7a4 4 = .ok (.ldc_w 265, 3) := by decide +kernel
theorem dJ6_bitCount_0f7a4_7 : decode cJ6_bitCount_0f7a4 7 = .ok (.iand, 1) := by decide +kernel
theorem dJ6_bitCount_0f7a4_8 : decode cJ6_bitCount_0f7a4 8 = .ok (.isub, 1) := by decide +kernel
theorem dJ6_bitCount_0f7a4_9 : decode cJ6_bitCount_0f7a4 9 = .ok (.istore_n 0, 1) := by decide +kernel
theorem dJ6_bitCount_0f7a4_10 : decode cJ6_bitCount_0f7a4 10 = .ok (.iload_n 0, 1) := by decide +kernel
theorem dJ6_bitCount_0f7a4_11 : decode cJ6_bitCount_0f7a4 11 = .ok (.ldc_w 266, 3) := by decide +kernel
theorem dJ6_bitCount_0f7a4_14 : decode cJ6_bitCount_0f7a4 14 = .ok (.iand, 1) := by decide +kernel
theorem dJ6_bitCount_0f7a4_15 : decode cJ6_bitCount_0f7a4 15 = .ok (.iload_n 0, 1) := by decide +kernel
theorem dJ6_bitCount_0f7a4_16 : decode cJ6_bitCount_0f7a4 16 = .ok (.iconst 2, 1) := by decide +kernel
theorem dJ6_bitCount_0f7a4_17 : decode cJ6_bitCount_0f7a4 17 = .ok (.iushr, 1) := by decide +kernel
theorem dJ6_bitCount_0f7a4_18 : decode cJ6_bitCount_0f7a4 18 = .ok (.ldc_w 266, 3) := by decide +kernel
theorem dJ6_bitCount_0f7a4_21 : decode cJ6_bitCount_0f7a4 21 = .ok (.iand, 1) := by decide +kernel
theorem dJ6_bitCount_0f7a4_22 : decode cJ6_bitCount_0f7a4 22 = .ok (.iadd, 1) := by decide +kernel
theorem dJ6_bitCount_0f7a4_23 : decode cJ6_bitCount_0f7a4 23 = .ok (.istore_n 0, 1) := by decide +kernel
theorem dJ6_bitCount_0f7a4_24 : decode cJ6_bitCount_0f7a4 24 = .ok (.iload_n 0, 1) := by decide +kernel
theorem dJ6_bitCount_0f7a4_25 : decode cJ6_bitCount_0f7a4 25 = .ok (.iload_n 0, 1) := by decide +kernel
theorem dJ6_bitCount_0f7a4_26 : decode cJ6_bitCount_0f7a4 26 = .ok (.iconst 4, 1) := by decide +kernel
theorem dJ6_bitCount_0f7a4_27 : decode cJ6_bitCount_0f7a4 27 = .ok (.iushr, 1) := by decide +kernel
theorem dJ6_bitCount_0f7a4_28 : decode cJ6_bitCount_0f7a4 28 = .ok (.iadd, 1) := by decide +kernel
theorem dJ6_bitCount_0f7a4_29 : decode cJ6_bitCount_0f7a4 29 = .ok (.ldc_w 267, 3) := by decide +kernel
theorem dJ6_bitCount_0f7a4_32 : decode cJ6_bitCount_0f7a4 32 = .ok (.iand, 1) := by decide +kernel
theorem dJ6_bitCount_0f7a4_33 : decode cJ6_bitCount_0f7a4 33 = .ok (.istore_n 0, 1) := by decide +kernel
theorem dJ6_bitCount_0f7a4_34 : decode cJ6_bitCount_0f7a4 34 = .ok (.iload_n 0, 1) := by decide +kernel
theorem dJ6_bitCount_0f7a4_35 : decode cJ6_bitCount_0f7a4 35 = .ok (.iload_n 0, 1) := by decide +kernel
theorem dJ6_bitCount_0f7a4_36 : decode cJ6_bitCount_0f7a4 36 = .ok (.bipush 8, 2) := by decide +kernel
theorem dJ6_bitCount_0f7a4_38 : decode cJ6_bitCount_0f7a4 38 = .ok (.iushr, 1) := by decide +kernel
theorem dJ6_bitCount_0f7a4_39 : decode cJ6_bitCount_0f7a4 39 = .ok (.iadd, 1) := by decide +kernel
theorem dJ6_bitCount_0f7a4_40 : decode cJ6_bitCount_0f7a4 40 = .ok (.istore_n 0, 1) := by decide +kernel
theorem dJ6_bitCount_0f7a4_41 : decode cJ6_bitCount_0f7a4 41 = .ok (.iload_n 0, 1) := by decide +kernel
theorem dJ6_bitCount_0f7a4_42 : decode cJ6_bitCount_0f7a4 42 = .ok (.iload_n 0, 1) := by decide +kernel
theorem dJ6_bitCount_0f7a4_43 : decode cJ6_bitCount_0f7a4 43 = .ok (.bipush 16, 2) := by decide +kernel
theorem dJ6_bitCount_0f7a4_45 : decode cJ6_bitCount_0f7a4 45 = .ok (.iushr, 1) := by decide +kernel
theorem dJ6_bitCount_0f7a4_46 : decode cJ6_bitCount_0f7a4 46 = .ok (.iadd, 1) := by decide +kernel
theorem dJ6_bitCount_0f7a4_47 : decode cJ6_bitCount_0f7a4 47 = .ok (.istore_n 0, 1) := by decide +kernel
theorem dJ6_bitCount_0f7a4_48 : decode cJ6_bitCount_0f7a4 48 = .ok (.iload_n 0, 1) := by decide +kernel
theorem dJ6_bitCount_0f7a4_49 : decode cJ6_bitCount_0f7a4 49 = .ok (.bipush 63, 2) := by decide +kernel
theorem dJ6_bitCount_0f7a4_51 : decode cJ6_bitCount_0f7a4 51 = .ok (.iand, 1) := by decide +kernel
theorem dJ6_bitCount_0f7a4_52 : decode cJ6_bitCount_0f7a4 52 = .ok (.ireturn, 1) := by decide +kernel
theorem dJ9_max_7cf53_0 : decode cJ9_max_7cf53 0 = .ok (.iload_n 0, 1) := by decide +kernel
theorem dJ9_max_7cf53_1 : decode cJ9_max_7cf53 1 = .ok (.iload_n 1, 1) := by decide +kernel
theorem dJ9_max_7cf53_2 : decode cJ9_max_7cf53 2 = .ok (.if_icmp .lt 7, 3) := by decide +kernel
theorem dJ9_max_7cf53_5 : decode cJ9_max_7cf53 5 = .ok (.iload_n 0, 1) := by decide +kernel
theorem dJ9_max_7cf53_6 : decode cJ9_max_7cf53 6 = .ok (.goto 4, 3) := by decide +kernel
theorem dJ9_max_7cf53_9 : decode cJ9_max_7cf53 9 = .ok (.iload_n 1, 1) := by decide +kernel
theorem dJ9_max_7cf53_10 : decode cJ9_max_7cf53 10 = .ok (.ireturn, 1) := by decide +kernel
theorem dJ9_min_7cf53_0 : decode cJ9_min_7cf53 0 = .ok (.iload_n 0, 1) := by decide +kernel
theorem dJ9_min_7cf53_1 : decode cJ9_min_7cf53 1 = .ok (.iload_n 1, 1) := by decide +kernel
theorem dJ9_min_7cf53_2 : decode cJ9_min_7cf53 2 = .ok (.if_icmp .gt 7, 3) := by decide +kernel
theorem dJ9_min_7cf53_5 : decode cJ9_min_7cf53 5 = .ok (.iload_n 0, 1) := by decide +kernel
theorem dJ9_min_7cf53_6 : decode cJ9_min_7cf53 6 = .ok (.goto 4, 3) := by decide +kernel
theorem dJ9_min_7cf53_9 : decode cJ9_min_7cf53 9 = .ok (.iload_n 1, 1) := by decide +kernel
theorem dJ9_min_7cf53_10 : decode cJ9_min_7cf53 10 = .ok (.ireturn, 1) := by decide +kernel
theorem dJxd2413_init_da8c8_0 : decode cJxd2413_init_da8c8 0 = .ok (.aload_n 0, 1) := by decide +kernel
theorem dJxd2413_init_da8c8_1 : decode cJxd2413_init_da8c8 1 = .ok (.invokespecial 1, 3) := by decide +kernel
theorem dJxd2413_init_da8c8_4 : decode cJxd2413_init_da8c8 4 = .ok (.return_, 1) := by decide +kernel
theorem dJxa1e45_init_da8c8_0 : decode cJxa1e45_init_da8c8 0 = .ok (.aload_n 0, 1) := by decide +kernel
theorem dJxa1e45_init_da8c8_1 : decode cJxa1e45_init_da8c8 1 = .ok (.invokespecial 1, 3) := by decide +kernel
theorem dJxa1e45_init_da8c8_4 : decode cJxa1e45_init_da8c8 4 = .ok (.return_, 1) := by decide +kernel
theorem dJxc12de_init_da8c8_0 : decode cJxc12de_init_da8c8 0 = .ok (.aload_n 0, 1) := by decide +kernel
theorem dJxc12de_init_da8c8_1 : decode cJxc12de_init_da8c8 1 = .ok (.invokespecial 1, 3) := by decide +kernel
theorem dJxc12de_init_da8c8_4 : decode cJxc12de_init_da8c8 4 = .ok (.aload_n 0, 1) := by decide +kernel
theorem dJxc12de_init_da8c8_5 : decode cJxc12de_init_da8c8 5 = .ok (.iconst 0, 1) := by decide +kernel
theorem dJxc12de_init_da8c8_6 : decode cJxc12de_init_da8c8 6 = .ok (.putfield 7, 3) := by decide +kernel
theorem dJxc12de_init_da8c8_9 : decode cJxc12de_init_da8c8 9 = .ok (.return_, 1) := by decide +kernel
theorem dJx35411_init_45d68_0 : decode cJx35411_init_45d68 0 = .ok (.aload_n 0, 1) := by decide +kernel
theorem dJx35411_init_45d68_1 : decode cJx35411_init_45d68 1 = .ok (.aload_n 1, 1) := by decide +kernel
theorem dJx35411_init_45d68_2 : decode cJx35411_init_45d68 2 = .ok (.putfield 1, 3) := by decide +kernel
theorem dJx35411_init_45d68_5 : decode cJx35411_init_45d68 5 = .ok (.aload_n 0, 1) := by decide +kernel
theorem dJx35411_init_45d68_6 : decode cJx35411_init_45d68 6 = .ok (.invokespecial 7, 3) := by decide +kernel
theorem dJx35411_init_45d68_9 : decode cJx35411_init_45d68 9 = .ok (.aload_n 0, 1) := by decide +kernel
theorem dJx35411_init_45d68_10 : decode cJx35411_init_45d68 10 = .ok (.iconst (-1), 1) := by decide +kernel
theorem dJx35411_init_45d68_11 : decode cJx35411_init_45d68 11 = .ok (.putfield 13, 3) := by decide +kernel
theorem dJx35411_init_45d68_14 : decode cJx35411_init_45d68 14 = .ok (.aload_n 0, 1) := by decide +kernel
theorem dJx35411_init_45d68_15 : decode cJx35411_init_45d68 15 = .ok (.aload_n 0, 1) := by decide +kernel
theorem dJx35411_init_45d68_16 : decode cJx35411_init_45d68 16 = .ok (.getfield 1, 3) := by decide +kernel
theorem dJx35411_init_45d68_19 : decode cJx35411_init_45d68 19 = .ok (.getfield 17, 3) := by decide +kernel
theorem dJx35411_init_45d68_22 : decode cJx35411_init_45d68 22 = .ok (.putfield 22, 3) := by decide +kernel
theorem dJx35411_init_45d68_25 : decode cJx35411_init_45d68 25 = .ok (.return_, 1) := by decide +kernel
theorem dJx35411_hasNext_aae02_0 : decode cJx35411_hasNext_aae02 0 = .ok (.aload_n 0, 1) := by decide +kernel
theorem dJx35411_hasNext_aae02_1 : decode cJx35411_hasNext_aae02 1 = .ok (.getfield 25, 3) := by decide +kernel
theorem dJx35411_hasNext_aae02_4 : decode cJx35411_hasNext_aae02 4 = .ok (.aload_n 0, 1) := by decide +kernel
theorem dJx35411_hasNext_aae02_5 : decode cJx35411_hasNext_aae02 5 = .ok (.getfield 1, 3) := by decide +kernel
theorem dJx35411_hasNext_aae02_8 : decode cJx35411_hasNext_aae02 8 = .ok (.getfield 28, 3) := by decide +kernel
theorem dJx35411_hasNext_aae02_11 : decode cJx35411_hasNext_aae02 11 = .ok (.if_icmp .eq 7, 3) := by decide +kernel
theorem dJx35411_hasNext_aae02_14 : decode cJx35411_hasNext_aae02 14 = .ok (.iconst 1, 1) := by decide +kernel
theorem dJx35411_hasNext_aae02_15 : decode cJx35411_hasNext_aae02 15 = .ok (.goto 4, 3) := by decide +kernel
theorem dJx35411_hasNext_aae02_18 : decode cJx35411_hasNext_aae02 18 = .ok (.iconst 0, 1) := by decide +kernel
theorem dJx35411_hasNext_aae02_19 : decode cJx35411_hasNext_aae02 19 = .ok (.ireturn, 1) := by decide +kernel
theorem dJx35411_next_0502b_0 : decode cJx35411_next_0502b 0 = .ok (.aload_n 0, 1) := by decide +kernel
theorem dJx35411_next_0502b_1 : decode cJx35411_next_0502b 1 = .ok (.invokevirtual 31, 3) := by decide +kernel
theorem dJx35411_next_0502b_4 : decode cJx35411_next_0502b 4 = .ok (.aload_n 0, 1) := by decide +kernel
theorem dJx35411_next_0502b_5 : decode cJx35411_next_0502b 5 = .ok (.getfield 25, 3) := by decide +kernel
theorem dJx35411_next_0502b_8 : decode cJx35411_next_0502b 8 = .ok (.istore_n 1, 1) := by decide +kernel
theorem dJx35411_next_0502b_9 : decode cJx35411_next_0502b 9 = .ok (.iload_n 1, 1) := by decide +kernel
theorem dJx35411_next_0502b_10 : decode cJx35411_next_0502b 10 = .ok (.aload_n 0, 1) := by decide +kernel
theorem dJx35411_next_0502b_11 : decode cJx35411_next_0502b 11 = .ok (.getfield 1, 3) := by decide +kernel
theorem dJx35411_next_0502b_14 : decode cJx35411_next_0502b 14 = .ok (.getfield 28, 3) := by decide +kernel
theorem dJx35411_next_0502b_17 : decode cJx35411_next_0502b 17 = .ok (.if_icmp .lt 11, 3) := by decide +kernel
theorem dJx35411_next_0502b_20 : decode cJx35411_next_0502b 20 = .ok (.new 34, 3) := by decide +kernel
theorem dJx35411_next_0502b_23 : decode cJx35411_next_0502b 23 = .ok (.dup, 1) := by decide +kernel
theorem dJx35411_next_0502b_24 : decode cJx35411_next_0502b 24 = .ok (.invokespecial 36, 3) := by decide +kernel
theorem dJx35411_next_0502b_27 : decode cJx35411_next_0502b 27 = .ok (.athrow, 1) := by decide +kernel
theorem dJx35411_next_0502b_28 : decode cJx35411_next_0502b 28 = .ok (.aload_n 0, 1) := by decide +kernel
theorem dJx35411_next_0502b_29 : decode cJx35411_next_0502b 29 = .ok (.getfield 1, 3) := by decide +kernel
theorem dJx35411_next_0502b_32 : decode cJx35411_next_0502b 32 = .ok (.getfield 37, 3) := by decide +kernel
theorem dJx35411_next_0502b_35 : decode cJx35411_next_0502b 35 = .ok (.astore_n 2, 1) := by decide +kernel
theorem dJx35411_next_0502b_36 : decode cJx35411_next_0502b 36 = .ok (.iload_n 1, 1) := by decide +kernel
theorem dJx35411_next_0502b_37 : decode cJx35411_next_0502b 37 = .ok (.aload_n 2, 1) := by decide +kernel
theorem dJx35411_next_0502b_38 : decode cJx35411_next_0502b 38 = .ok (.arraylength, 1) := by decide +kernel
theorem dJx35411_next_0502b_39 : decode cJx35411_next_0502b 39 = .ok (.if_icmp .lt 11, 3) := by decide +kernel
theorem dJx35411_next_0502b_42 : decode cJx35411_next_0502b 42 = .ok (.new 41, 3) := by decide +kernel
theorem dJx35411_next_0502b_45 : decode cJx35411_next_0502b 45 = .ok (.dup, 1) := by decide +kernel
theorem dJx35411_next_0502b_46 : decode cJx35411_next_0502b 46 = .ok (.invokespecial 43, 3) := by decide +kernel
theorem dJx35411_next_0502b_49 : decode cJx35411_next_0502b 49 = .ok (.athrow, 1) := by decide +kernel
theorem dJx35411_next_0502b_50 : decode cJx35411_next_0502b 50 = .ok (.aload_n 0, 1) := by decide +kernel
theorem dJx35411_next_0502b_51 : decode cJx35411_next_0502b 51 = .ok (.iload_n 1, 1) := by decide +kernel
theorem dJx35411_next_0502b_52 : decode cJx35411_next_0502b 52 = .ok (.iconst 1, 1) := by decide +kernel
theorem dJx35411_next_0502b_53 : decode cJx35411_next_0502b 53 = .ok (.iadd, 1) := by decide +kernel
theorem dJx35411_next_0502b_54 : decode cJx35411_next_0502b 54 = .ok (.putfield 25, 3) := by decide +kernel
theorem dJx35411_next_0502b_57 : decode cJx35411_next_0502b 57 = .ok (.aload_n 2, 1) := by decide +kernel
theorem dJx35411_next_0502b_58 : decode cJx35411_next_0502b 58 = .ok (.aload_n 0, 1) := by decide +kernel
theorem dJx35411_next_0502b_59 : decode cJx35411_next_0502b 59 = .ok (.iload_n 1, 1) := by decide +kernel
theorem dJx35411_next_0502b_60 : decode cJx35411_next_0502b 60 = .ok (.dup_x1, 1) := by decide +kernel
theorem dJx35411_next_0502b_61 : decode cJx35411_next_0502b 61 = .ok (.putfield 13, 3) := by decide +kernel
theorem dJx35411_next_0502b_64 : decode cJx35411_next_0502b 64 = .ok (.aaload, 1) := by decide +kernel
theorem dJx35411_next_0502b_65 : decode cJx35411_next_0502b 65 = .ok (.areturn, 1) := by decide +kernel
theorem dJx35411_checkForComodification_da8c8_0 : decode cJx35411_checkForComodification_da8c8 0 = .ok (.aload_n 0, 1) := by decide +kernel
theorem dJx35411_checkForComodification_da8c8_1 : decode cJx35411_checkForComodification_da8c8 1 = .ok (.getfield 1, 3) := by decide +kernel
theorem dJx35411_checkForComodification_da8c8_4 : decode cJx35411_checkForComodification_da8c8 4 = .ok (.getfield 17, 3) := by decide +kernel
theorem dJx35411_checkForComodification_da8c8_7 : decode cJx35411_checkForComodification_da8c8 7 = .ok (.aload_n 0, 1) := by decide +kernel
theorem dJx35411_checkForComodification_da8c8_8 : decode cJx35411_checkForComodification_da8c8 8 = .ok (.getfield 22, 3) := by decide +kernel
theorem dJx35411_checkForComodification_da8c8_11 : decode cJx35411_checkForComodification_da8c8 11 = .ok (.if_icmp .eq 11, 3) := by decide +kernel
theorem dJx35411_checkForComodification_da8c8_14 : decode cJx35411_checkForComodification_da8c8 14 = .ok (.new 41, 3) := by decide +kernel
theorem dJx35411_checkForComodification_da8c8_17 : decode cJx35411_checkForComodification_da8c8 17 = .ok (.dup, 1) := by decide +kernel
theorem dJx35411_checkForComodification_da8c8_18 : decode cJx35411_checkForComodification_da8c8 18 = .ok (.invokespecial 43, 3) := by decide +kernel
theorem dJx35411_checkForComodification_da8c8_21 : decode cJx35411_checkForComodification_da8c8 21 = .ok (.athrow, 1) := by decide +kernel
theorem dJx35411_checkForComodification_da8c8_22 : decode cJx35411_checkForComodification_da8c8 22 = .ok (.return_, 1) := by decide +kernel
theorem dJx4a65c_init_da8c8_0 : decode cJx4a65c_init_da8c8 0 = .ok (.aload_n 0, 1) := by decide +kernel
theorem dJx4a65c_init_da8c8_1 : decode cJx4a65c_init_da8c8 1 = .ok (.invokespecial 1, 3) := by decide +kernel
theorem dJx4a65c_init_da8c8_4 : decode cJx4a65c_init_da8c8 4 = .ok (.aload_n 0, 1) := by decide +kernel
theorem dJx4a65c_init_da8c8_5 : decode cJx4a65c_init_da8c8 5 = .ok (.getstatic 39, 3) := by decide +kernel
theorem dJx4a65c_init_da8c8_8 : decode cJx4a65c_init_da8c8 8 = .ok (.putfield 9, 3) := by decide +kernel
theorem dJx4a65c_init_da8c8_11 : decode cJx4a65c_init_da8c8 11 = .ok (.return_, 1) := by decide +kernel
theorem dJx4a65c_grow_92f84_0 : decode cJx4a65c_grow_92f84 0 = .ok (.aload_n 0, 1) := by decide +kernel
theorem dJx4a65c_grow_92f84_1 : decode cJx4a65c_grow_92f84 1 = .ok (.getfield 9, 3) := by decide +kernel
theorem dJx4a65c_grow_92f84_4 : decode cJx4a65c_grow_92f84 4 = .ok (.arraylength, 1) := by decide +kernel
theorem dJx4a65c_grow_92f84_5 : decode cJx4a65c_grow_92f84 5 = .ok (.istore_n 2, 1) := by decide +kernel
theorem dJx4a65c_grow_92f84_6 : decode cJx4a65c_grow_92f84 6 = .ok (.iload_n 2, 1) := by decide +kernel
theorem dJx4a65c_grow_92f84_7 : decode cJx4a65c_grow_92f84 7 = .ok (.ifCond .gt 13, 3) := by decide +kernel
theorem dJx4a65c_grow_92f84_10 : decode cJx4a65c_grow_92f84 10 = .ok (.aload_n 0, 1) := by decide +kernel
theorem dJx4a65c_grow_92f84_11 : decode cJx4a65c_grow_92f84 11 = .ok (.getfield 9, 3) := by decide +kernel
theorem dJx4a65c_grow_92f84_14 : decode cJx4a65c_grow_92f84 14 = .ok (.getstatic 39, 3) := by decide +kernel
theorem dJx4a65c_grow_92f84_17 : decode cJx4a65c_grow_92f84 17 = .ok (.if_acmp .eq 28, 3) := by decide +kernel
theorem dJx4a65c_grow_92f84_20 : decode cJx4a65c_grow_92f84 20 = .ok (.iload_n 2, 1) := by decide +kernel
theorem dJx4a65c_grow_92f84_21 : decode cJx4a65c_grow_92f84 21 = .ok (.iload_n 1, 1) := by decide +kernel
theorem dJx4a65c_grow_92f84_22 : decode cJx4a65c_grow_92f84 22 = .ok (.iload_n 2, 1) := by decide +kernel
theorem dJx4a65c_grow_92f84_23 : decode cJx4a65c_grow_92f84 23 = .ok (.isub, 1) := by decide +kernel
theorem dJx4a65c_grow_92f84_24 : decode cJx4a65c_grow_92f84 24 = .ok (.iload_n 2, 1) := by decide +kernel
theorem dJx4a65c_grow_92f84_25 : decode cJx4a65c_grow_92f84 25 = .ok (.iconst 1, 1) := by decide +kernel
theorem dJx4a65c_grow_92f84_26 : decode cJx4a65c_grow_92f84 26 = .ok (.ishr, 1) := by decide +kernel
theorem dJx4a65c_grow_92f84_27 : decode cJx4a65c_grow_92f84 27 = .ok (.invokestatic 73, 3) := by decide +kernel
theorem dJx4a65c_grow_92f84_30 : decode cJx4a65c_grow_92f84 30 = .ok (.istore_n 3, 1) := by decide +kernel
theorem dJx4a65c_grow_92f84_31 : decode cJx4a65c_grow_92f84 31 = .ok (.aload_n 0, 1) := by decide +kernel
theorem dJx4a65c_grow_92f84_32 : decode cJx4a65c_grow_92f84 32 = .ok (.aload_n 0, 1) := by decide +kernel
theorem dJx4a65c_grow_92f84_33 : decode cJx4a65c_grow_92f84 33 = .ok (.getfield 9, 3) := by decide +kernel
theorem dJx4a65c_grow_92f84_36 : decode cJx4a65c_grow_92f84 36 = .ok (.iload_n 3, 1) := by decide +kernel
theorem dJx4a65c_grow_92f84_37 : decode cJx4a65c_grow_92f84 37 = .ok (.invokestatic 66, 3) := by decide +kernel
theorem dJx4a65c_grow_92f84_40 : decode cJx4a65c_grow_92f84 40 = .ok (.dup_x1, 1) := by decide +kernel
theorem dJx4a65c_grow_92f84_41 : decode cJx4a65c_grow_92f84 41 = .ok (.putfield 9, 3) := by decide +kernel
theorem dJx4a65c_grow_92f84_44 : decode cJx4a65c_grow_92f84 44 = .ok (.areturn, 1) := by decide +kernel
theorem dJx4a65c_grow_92f84_45 : decode cJx4a65c_grow_92f84 45 = .ok (.aload_n 0, 1) := by decide +kernel
theorem dJx4a65c_grow_92f84_46 : decode cJx4a65c_grow_92f84 46 = .ok (.bipush 10, 2) := by decide +kernel
theorem dJx4a65c_grow_92f84_48 : decode cJx4a65c_grow_92f84 48 = .ok (.iload_n 1, 1) := by decide +kernel
theorem dJx4a65c_grow_92f84_49 : decode cJx4a65c_grow_92f84 49 = .ok (.invokestatic 79, 3) := by decide +kernel
theorem dJx4a65c_grow_92f84_52 : decode cJx4a65c_grow_92f84 52 = .ok (.anewarray 7, 3) := by decide +kernel
theorem dJx4a65c_grow_92f84_55 : decode cJx4a65c_grow_92f84 55 = .ok (.dup_x1, 1) := by decide +kernel
theorem dJx4a65c_grow_92f84_56 : decode cJx4a65c_grow_92f84 56 = .ok (.putfield 9, 3) := by decide +kernel
theorem dJx4a65c_grow_92f84_59 : decode cJx4a65c_grow_92f84 59 = .ok (.areturn, 1) := by decide +kernel
theorem dJx4a65c_grow_d5877_0 : decode cJx4a65c_grow_d5877 0 = .ok (.aload_n 0, 1) := by decide +kernel
theorem dJx4a65c_grow_d5877_1 : decode cJx4a65c_grow_d5877 1 = .ok (.aload_n 0, 1) := by decide +kernel
theorem dJx4a65c_grow_d5877_2 : decode cJx4a65c_grow_d5877 2 = .ok (.getfield 48, 3) := by decide +kernel
theorem dJx4a65c_grow_d5877_5 : decode cJx4a65c_grow_d5877 5 = .ok (.iconst 1, 1) := by decide +kernel
theorem dJx4a65c_grow_d5877_6 : decode cJx4a65c_grow_d5877 6 = .ok (.iadd, 1) := by decide +kernel
theorem dJx4a65c_grow_d5877_7 : decode cJx4a65c_grow_d5877 7 = .ok (.invokevirtual 69, 3) := by decide +kernel
theorem dJx4a65c_grow_d5877_10 : decode cJx4a65c_grow_d5877 10 = .ok (.areturn, 1) := by decide +kernel
theorem dJx4a65c_size_8abf5_0 : decode cJx4a65c_size_8abf5 0 = .ok (.aload_n 0, 1) := by decide +kernel
theorem dJx4a65c_size_8abf5_1 : decode cJx4a65c_size_8abf5 1 = .ok (.getfield 48, 3) := by decide +kernel
theorem dJx4a65c_size_8abf5_4 : decode cJx4a65c_size_8abf5 4 = .ok (.ireturn, 1) := by decide +kernel
theorem dJx4a65c_isEmpty_aae02_0 : decode cJx4a65c_isEmpty_aae02 0 = .ok (.aload_n 0, 1) := by decide +kernel
theorem dJx4a65c_isEmpty_aae02_1 : decode cJx4a65c_isEmpty_aae02 1 = .ok (.getfield 48, 3) := by decide +kernel
theorem dJx4a65c_isEmpty_aae02_4 : decode cJx4a65c_isEmpty_aae02 4 = .ok (.ifCond .ne 7, 3) := by decide +kernel
theorem dJx4a65c_isEmpty_aae02_7 : decode cJx4a65c_isEmpty_aae02 7 = .ok (.iconst 1, 1) := by decide +kernel
theorem dJx4a65c_isEmpty_aae02_8 : decode cJx4a65c_isEmpty_aae02 8 = .ok (.goto 4, 3) := by decide +kernel
theorem dJx4a65c_isEmpty_aae02_11 : decode cJx4a65c_isEmpty_aae02 11 = .ok (.iconst 0, 1) := by decide +kernel
theorem dJx4a65c_isEmpty_aae02_12 : decode cJx4a65c_isEmpty_aae02 12 = .ok (.ireturn, 1) := by decide +kernel
theorem dJx4a65c_elementData_915e3_0 : decode cJx4a65c_elementData_915e3 0 = .ok (.aload_n 0, 1) := by decide +kernel
theorem dJx4a65c_elementData_915e3_1 : decode cJx4a65c_elementData_915e3 1 = .ok (.getfield 9, 3) := by decide +kernel
theorem dJx4a65c_elementData_915e3_4 : decode cJx4a65c_elementData_915e3 4 = .ok (.iload_n 1, 1) := by decide +kernel
theorem dJx4a65c_elementData_915e3_5 : decode cJx4a65c_elementData_915e3 5 = .ok (.aaload, 1) := by decide +kernel
theorem dJx4a65c_elementData_915e3_6 : decode cJx4a65c_elementData_915e3 6 = .ok (.areturn, 1) := by decide +kernel
theorem dJx4a65c_get_915e3_0 : decode cJx4a65c_get_915e3 0 = .ok (.iload_n 1, 1) := by decide +kernel
theorem dJx4a65c_get_915e3_1 : decode cJx4a65c_get_915e3 1 = .ok (.aload_n 0, 1) := by decide +kernel
theorem dJx4a65c_get_915e3_2 : decode cJx4a65c_get_915e3 2 = .ok (.getfield 48, 3) := by decide +kernel
theorem dJx4a65c_get_915e3_5 : decode cJx4a65c_get_915e3 5 = .ok (.invokestatic 118, 3) := by decide +kernel
theorem dJx4a65c_get_915e3_8 : decode cJx4a65c_get_915e3 8 = .ok (.pop, 1) := by decide +kernel
theorem dJx4a65c_get_915e3_9 : decode cJx4a65c_get_915e3 9 = .ok (.aload_n 0, 1) := by decide +kernel
theorem dJx4a65c_get_915e3_10 : decode cJx4a65c_get_915e3 10 = .ok (.iload_n 1, 1) := by decide +kernel
theorem dJx4a65c_get_915e3_11 : decode cJx4a65c_get_915e3 11 = .ok (.invokevirtual 123, 3) := by decide +kernel
theorem dJx4a65c_get_915e3_14 : decode cJx4a65c_get_915e3 14 = .ok (.areturn, 1) := by decide +kernel
theorem dJx4a65c_set_bcc79_0 : decode cJx4a65c_set_bcc79 0 = .ok (.iload_n 1, 1) := by decide +kernel
theorem dJx4a65c_set_bcc79_1 : decode cJx4a65c_set_bcc79 1 = .ok (.aload_n 0, 1) := by decide +kernel
theorem dJx4a65c_set_bcc79_2 : decode cJx4a65c_set_bcc79 2 = .ok (.getfield 48, 3) := by decide +kernel
theorem dJx4a65c_set_bcc79_5 : decode cJx4a65c_set_bcc79 5 = .ok (.invokestatic 118, 3) := by decide +kernel
theorem dJx4a65c_set_bcc79_8 : decode cJx4a65c_set_bcc79 8 = .ok (.pop, 1) := by decide +kernel
theorem dJx4a65c_set_bcc79_9 : decode cJx4a65c_set_bcc79 9 = .ok (.aload_n 0, 1) := by decide +kernel
theorem dJx4a65c_set_bcc79_10 : decode cJx4a65c_set_bcc79 10 = .ok (.iload_n 1, 1) := by decide +kernel
theorem dJx4a65c_set_bcc79_11 : decode cJx4a65c_set_bcc79 11 = .ok (.invokevirtual 123, 3) := by decide +kernel
theorem dJx4a65c_set_bcc79_14 : decode cJx4a65c_set_bcc79 14 = .ok (.astore_n 3, 1) := by decide +kernel
theorem dJx4a65c_set_bcc79_15 : decode cJx4a65c_set_bcc79 15 = .ok (.aload_n 0, 1) := by decide +kernel
theorem dJx4a65c_set_bcc79_16 : decode cJx4a65c_set_bcc79 16 = .ok (.getfield 9, 3) := by decide +kernel
theorem dJx4a65c_set_bcc79_19 : decode cJx4a65c_set_bcc79 19 = .ok (.iload_n 1, 1) := by decide +kernel
theorem dJx4a65c_set_bcc79_20 : decode cJx4a65c_set_bcc79 20 = .ok (.aload_n 2, 1) := by decide +kernel
theorem dJx4a65c_set_bcc79_21 : decode cJx4a65c_set_bcc79 21 = .ok (.aastore, 1) := by decide +kernel
theorem dJx4a65c_set_bcc79_22 : decode cJx4a65c_set_bcc79 22 = .ok (.aload_n 3, 1) := by decide +kernel
theorem dJx4a65c_set_bcc79_23 : decode cJx4a65c_set_bcc79 23 = .ok (.areturn, 1) := by decide +kernel
theorem dJx4a65c_add_72be8_0 : decode cJx4a65c_add_72be8 0 = .ok (.iload_n 3, 1) := by decide +kernel
theorem dJx4a65c_add_72be8_1 : decode cJx4a65c_add_72be8 1 = .ok (.aload_n 2, 1) := by decide +kernel
theorem dJx4a65c_add_72be8_2 : decode cJx4a65c_add_72be8 2 = .ok (.arraylength, 1) := by decide +kernel
theorem dJx4a65c_add_72be8_3 : decode cJx4a65c_add_72be8 3 = .ok (.if_icmp .ne 8, 3) := by decide +kernel
theorem dJx4a65c_add_72be8_6 : decode cJx4a65c_add_72be8 6 = .ok (.aload_n 0, 1) := by decide +kernel
theorem dJx4a65c_add_72be8_7 : decode cJx4a65c_add_72be8 7 = .ok (.invokevirtual 129, 3) := by decide +kernel
theorem dJx4a65c_add_72be8_10 : decode cJx4a65c_add_72be8 10 = .ok (.astore_n 2, 1) := by decide +kernel
theorem dJx4a65c_add_72be8_11 : decode cJx4a65c_add_72be8 11 = .ok (.aload_n 2, 1) := by decide +kernel
theorem dJx4a65c_add_72be8_12 : decode cJx4a65c_add_72be8 12 = .ok (.iload_n 3, 1) := by decide +kernel
theorem dJx4a65c_add_72be8_13 : decode cJx4a65c_add_72be8 13 = .ok (.aload_n 1, 1) := by decide +kernel
theorem dJx4a65c_add_72be8_14 : decode cJx4a65c_add_72be8 14 = .ok (.aastore, 1) := by decide +kernel
theorem dJx4a65c_add_72be8_15 : decode cJx4a65c_add_72be8 15 = .ok (.aload_n 0, 1) := by decide +kernel
theorem dJx4a65c_add_72be8_16 : decode cJx4a65c_add_72be8 16 = .ok (.iload_n 3, 1) := by decide +kernel
theorem dJx4a65c_add_72be8_17 : decode cJx4a65c_add_72be8 17 = .ok (.iconst 1, 1) := by decide +kernel
theorem dJx4a65c_add_72be8_18 : decode cJx4a65c_add_72be8 18 = .ok (.iadd, 1) := by decide +kernel
theorem dJx4a65c_add_72be8_19 : decode cJx4a65c_add_72be8 19 = .ok (.putfield 48, 3) := by decide +kernel
theorem dJx4a65c_add_72be8_22 : decode cJx4a65c_add_72be8 22 = .ok (.return_, 1) := by decide +kernel
theorem dJx4a65c_add_9ea2d_0 : decode cJx4a65c_add_9ea2d 0 = .ok (.aload_n 0, 1) := by decide +kernel
theorem dJx4a65c_add_9ea2d_1 : decode cJx4a65c_add_9ea2d 1 = .ok (.dup, 1) := by decide +kernel
theorem dJx4a65c_add_9ea2d_2 : decode cJx4a65c_add_9ea2d 2 = .ok (.getfield 63, 3) := by decide +kernel
theorem dJx4a65c_add_9ea2d_5 : decode cJx4a65c_add_9ea2d 5 = .ok (.iconst 1, 1) := by decide +kernel
theorem dJx4a65c_add_9ea2d_6 : decode cJx4a65c_add_9ea2d 6 = .ok (.iadd, 1) := by decide +kernel
theorem dJx4a65c_add_9ea2d_7 : decode cJx4a65c_add_9ea2d 7 = .ok (.putfield 63, 3) := by decide +kernel
theorem dJx4a65c_add_9ea2d_10 : decode cJx4a65c_add_9ea2d 10 = .ok (.aload_n 0, 1) := by decide +kernel
theorem dJx4a65c_add_9ea2d_11 : decode cJx4a65c_add_9ea2d 11 = .ok (.aload_n 1, 1) := by decide +kernel
theorem dJx4a65c_add_9ea2d_12 : decode cJx4a65c_add_9ea2d 12 = .ok (.aload_n 0, 1) := by decide +kernel
theorem dJx4a65c_add_9ea2d_13 : decode cJx4a65c_add_9ea2d 13 = .ok (.getfield 9, 3) := by decide +kernel
theorem dJx4a65c_add_9ea2d_16 : decode cJx4a65c_add_9ea2d 16 = .ok (.aload_n 0, 1) := by decide +kernel
theorem dJx4a65c_add_9ea2d_17 : decode cJx4a65c_add_9ea2d 17 = .ok (.getfield 48, 3) := by decide +kernel
theorem dJx4a65c_add_9ea2d_20 : decode cJx4a65c_add_9ea2d 20 = .ok (.invokevirtual 131, 3) := by decide +kernel
theorem dJx4a65c_add_9ea2d_23 : decode cJx4a65c_add_9ea2d 23 = .ok (.iconst 1, 1) := by decide +kernel
theorem dJx4a65c_add_9ea2d_24 : decode cJx4a65c_add_9ea2d 24 = .ok (.ireturn, 1) := by decide +kernel
theorem dJx4a65c_remove_915e3_0 : decode cJx4a65c_remove_915e3 0 = .ok (.iload_n 1, 1) := by decide +kernel
theorem dJx4a65c_remove_915e3_1 : decode cJx4a65c_remove_915e3 1 = .ok (.aload_n 0, 1) := by decide +kernel
theorem dJx4a65c_remove_915e3_2 : decode cJx4a65c_remove_915e3 2 = .ok (.getfield 48, 3) := by decide +kernel
theorem dJx4a65c_remove_915e3_5 : decode cJx4a65c_remove_915e3 5 = .ok (.invokestatic 118, 3) := by decide +kernel
theorem dJx4a65c_remove_915e3_8 : decode cJx4a65c_remove_915e3 8 = .ok (.pop, 1) := by decide +kernel
theorem dJx4a65c_remove_915e3_9 : decode cJx4a65c_remove_915e3 9 = .ok (.aload_n 0, 1) := by decide +kernel
theorem dJx4a65c_remove_915e3_10 : decode cJx4a65c_remove_915e3 10 = .ok (.getfield 9, 3) := by decide +kernel
theorem dJx4a65c_remove_915e3_13 : decode cJx4a65c_remove_915e3 13 = .ok (.astore_n 2, 1) := by decide +kernel
theorem dJx4a65c_remove_915e3_14 : decode cJx4a65c_remove_915e3 14 = .ok (.aload_n 2, 1) := by decide +kernel
theorem dJx4a65c_remove_915e3_15 : decode cJx4a65c_remove_915e3 15 = .ok (.iload_n 1, 1) := by decide +kernel
theorem dJx4a65c_remove_915e3_16 : decode cJx4a65c_remove_915e3 16 = .ok (.aaload, 1) := by decide +kernel
theorem dJx4a65c_remove_915e3_17 : decode cJx4a65c_remove_915e3 17 = .ok (.astore_n 3, 1) := by decide +kernel
theorem dJx4a65c_remove_915e3_18 : decode cJx4a65c_remove_915e3 18 = .ok (.aload_n 0, 1) := by decide +kernel
theorem dJx4a65c_remove_915e3_19 : decode cJx4a65c_remove_915e3 19 = .ok (.aload_n 2, 1) := by decide +kernel
theorem dJx4a65c_remove_915e3_20 : decode cJx4a65c_remove_915e3 20 = .ok (.iload_n 1, 1) := by decide +kernel
theorem dJx4a65c_remove_915e3_21 : decode cJx4a65c_remove_915e3 21 = .ok (.invokevirtual 144, 3) := by decide +kernel
theorem dJx4a65c_remove_915e3_24 : decode cJx4a65c_remove_915e3 24 = .ok (.aload_n 3, 1) := by decide +kernel
theorem dJx4a65c_remove_915e3_25 : decode cJx4a65c_remove_915e3 25 = .ok (.areturn, 1) := by decide +kernel
theorem dJx4a65c_fastRemove_b59b0_0 : decode cJx4a65c_fastRemove_b59b0 0 = .ok (.aload_n 0, 1) := by decide +kernel
theorem dJx4a65c_fastRemove_b59b0_1 : decode cJx4a65c_fastRemove_b59b0 1 = .ok (.dup, 1) := by decide +kernel
theorem dJx4a65c_fastRemove_b59b0_2 : decode cJx4a65c_fastRemove_b59b0 2 = .ok (.getfield 63, 3) := by decide +kernel
theorem dJx4a65c_fastRemove_b59b0_5 : decode cJx4a65c_fastRemove_b59b0 5 = .ok (.iconst 1, 1) := by decide +kernel
theorem dJx4a65c_fastRemove_b59b0_6 : decode cJx4a65c_fastRemove_b59b0 6 = .ok (.iadd, 1) := by decide +kernel
theorem dJx4a65c_fastRemove_b59b0_7 : decode cJx4a65c_fastRemove_b59b0 7 = .ok (.putfield 63, 3) := by decide +kernel
theorem dJx4a65c_fastRemove_b59b0_10 : decode cJx4a65c_fastRemove_b59b0 10 = .ok (.aload_n 0, 1) := by decide +kernel
theorem dJx4a65c_fastRemove_b59b0_11 : decode cJx4a65c_fastRemove_b59b0 11 = .ok (.getfield 48, 3) := by decide +kernel
theorem dJx4a65c_fastRemove_b59b0_14 : decode cJx4a65c_fastRemove_b59b0 14 = .ok (.iconst 1, 1) := by decide +kernel
theorem dJx4a65c_fastRemove_b59b0_15 : decode cJx4a65c_fastRemove_b59b0 15 = .ok (.isub, 1) := by decide +kernel
theorem dJx4a65c_fastRemove_b59b0_16 : decode cJx4a65c_fastRemove_b59b0 16 = .ok (.dup, 1) := by decide +kernel
theorem dJx4a65c_fastRemove_b59b0_17 : decode cJx4a65c_fastRemove_b59b0 17 = .ok (.istore_n 3, 1) := by decide +kernel
theorem dJx4a65c_fastRemove_b59b0_18 : decode cJx4a65c_fastRemove_b59b0 18 = .ok (.iload_n 2, 1) := by decide +kernel
theorem dJx4a65c_fastRemove_b59b0_19 : decode cJx4a65c_fastRemove_b59b0 19 = .ok (.if_icmp .le 15, 3) := by decide +kernel
theorem dJx4a65c_fastRemove_b59b0_22 : decode cJx4a65c_fastRemove_b59b0 22 = .ok (.aload_n 1, 1) := by decide +kernel
theorem dJx4a65c_fastRemove_b59b0_23 : decode cJx4a65c_fastRemove_b59b0 23 = .ok (.iload_n 2, 1) := by decide +kernel
theorem dJx4a65c_fastRemove_b59b0_24 : decode cJx4a65c_fastRemove_b59b0 24 = .ok (.iconst 1, 1) := by decide +kernel
theorem dJx4a65c_fastRemove_b59b0_25 : decode cJx4a65c_fastRemove_b59b0 25 = .ok (.iadd, 1) := by decide +kernel
theorem dJx4a65c_fastRemove_b59b0_26 : decode cJx4a65c_fastRemove_b59b0 26 = .ok (.aload_n 1, 1) := by decide +kernel
theorem dJx4a65c_fastRemove_b59b0_27 : decode cJx4a65c_fastRemove_b59b0 27 = .ok (.iload_n 2, 1) := by decide +kernel
theorem dJx4a65c_fastRemove_b59b0_28 : decode cJx4a65c_fastRemove_b59b0 28 = .ok (.iload_n 3, 1) := by decide +kernel
theorem dJx4a65c_fastRemove_b59b0_29 : decode cJx4a65c_fastRemove_b59b0 29 = .ok (.iload_n 2, 1) := by decide +kernel
theorem dJx4a65c_fastRemove_b59b0_30 : decode cJx4a65c_fastRemove_b59b0 30 = .ok (.isub, 1) := by decide +kernel
theorem dJx4a65c_fastRemove_b59b0_31 : decode cJx4a65c_fastRemove_b59b0 31 = .ok (.invokestatic 112, 3) := by decide +kernel
theorem dJx4a65c_fastRemove_b59b0_34 : decode cJx4a65c_fastRemove_b59b0 34 = .ok (.aload_n 1, 1) := by decide +kernel
theorem dJx4a65c_fastRemove_b59b0_35 : decode cJx4a65c_fastRemove_b59b0 35 = .ok (.aload_n 0, 1) := by decide +kernel
theorem dJx4a65c_fastRemove_b59b0_36 : decode cJx4a65c_fastRemove_b59b0 36 = .ok (.iload_n 3, 1) := by decide +kernel
theorem dJx4a65c_fastRemove_b59b0_37 : decode cJx4a65c_fastRemove_b59b0 37 = .ok (.dup_x1, 1) := by decide +kernel
theorem dJx4a65c_fastRemove_b59b0_38 : decode cJx4a65c_fastRemove_b59b0 38 = .ok (.putfield 48, 3) := by decide +kernel
theorem dJx4a65c_fastRemove_b59b0_41 : decode cJx4a65c_fastRemove_b59b0 41 = .ok (.aconst_null, 1) := by decide +kernel
theorem dJx4a65c_fastRemove_b59b0_42 : decode cJx4a65c_fastRemove_b59b0 42 = .ok (.aastore, 1) := by decide +kernel
theorem dJx4a65c_fastRemove_b59b0_43 : decode cJx4a65c_fastRemove_b59b0 43 = .ok (.return_, 1) := by decide +kernel
theorem dJx4a65c_clear_da8c8_0 : decode cJx4a65c_clear_da8c8 0 = .ok (.aload_n 0, 1) := by decide +kernel
theorem dJx4a65c_clear_da8c8_1 : decode cJx4a65c_clear_da8c8 1 = .ok (.dup, 1) := by decide +kernel
theorem dJx4a65c_clear_da8c8_2 : decode cJx4a65c_clear_da8c8 2 = .ok (.getfield 63, 3) := by decide +kernel
theorem dJx4a65c_clear_da8c8_5 : decode cJx4a65c_clear_da8c8 5 = .ok (.iconst 1, 1) := by decide +kernel
theorem dJx4a65c_clear_da8c8_6 : decode cJx4a65c_clear_da8c8 6 = .ok (.iadd, 1) := by decide +kernel
theorem dJx4a65c_clear_da8c8_7 : decode cJx4a65c_clear_da8c8 7 = .ok (.putfield 63, 3) := by decide +kernel
theorem dJx4a65c_clear_da8c8_10 : decode cJx4a65c_clear_da8c8 10 = .ok (.aload_n 0, 1) := by decide +kernel
theorem dJx4a65c_clear_da8c8_11 : decode cJx4a65c_clear_da8c8 11 = .ok (.getfield 9, 3) := by decide +kernel
theorem dJx4a65c_clear_da8c8_14 : decode cJx4a65c_clear_da8c8 14 = .ok (.astore_n 1, 1) := by decide +kernel
theorem dJx4a65c_clear_da8c8_15 : decode cJx4a65c_clear_da8c8 15 = .ok (.aload_n 0, 1) := by decide +kernel
theorem dJx4a65c_clear_da8c8_16 : decode cJx4a65c_clear_da8c8 16 = .ok (.getfield 48, 3) := by decide +kernel
theorem dJx4a65c_clear_da8c8_19 : decode cJx4a65c_clear_da8c8 19 = .ok (.istore_n 2, 1) := by decide +kernel
theorem dJx4a65c_clear_da8c8_20 : decode cJx4a65c_clear_da8c8 20 = .ok (.aload_n 0, 1) := by decide +kernel
theorem dJx4a65c_clear_da8c8_21 : decode cJx4a65c_clear_da8c8 21 = .ok (.iconst 0, 1) := by decide +kernel
theorem dJx4a65c_clear_da8c8_22 : decode cJx4a65c_clear_da8c8 22 = .ok (.dup_x1, 1) := by decide +kernel
theorem dJx4a65c_clear_da8c8_23 : decode cJx4a65c_clear_da8c8 23 = .ok (.putfield 48, 3) := by decide +kernel
theorem dJx4a65c_clear_da8c8_26 : decode cJx4a65c_clear_da8c8 26 = .ok (.istore_n 3, 1) := by decide +kernel
theorem dJx4a65c_clear_da8c8_27 : decode cJx4a65c_clear_da8c8 27 = .ok (.iload_n 3, 1) := by decide +kernel
theorem dJx4a65c_clear_da8c8_28 : decode cJx4a65c_clear_da8c8 28 = .ok (.iload_n 2, 1) := by decide +kernel
theorem dJx4a65c_clear_da8c8_29 : decode cJx4a65c_clear_da8c8 29 = .ok (.if_icmp .ge 13, 3) := by decide +kernel
theorem dJx4a65c_clear_da8c8_32 : decode cJx4a65c_clear_da8c8 32 = .ok (.aload_n 1, 1) := by decide +kernel
theorem dJx4a65c_clear_da8c8_33 : decode cJx4a65c_clear_da8c8 33 = .ok (.iload_n 3, 1) := by decide +kernel
theorem dJx4a65c_clear_da8c8_34 : decode cJx4a65c_clear_da8c8 34 = .ok (.aconst_null, 1) := by decide +kernel
theorem dJx4a65c_clear_da8c8_35 : decode cJx4a65c_clear_da8c8 35 = .ok (.aastore, 1) := by decide +kernel
theorem dJx4a65c_clear_da8c8_36 : decode cJx4a65c_clear_da8c8 36 = .ok (.iinc 3 1, 3) := by decide +kernel
theorem dJx4a65c_clear_da8c8_39 : decode cJx4a65c_clear_da8c8 39 = .ok (.goto (-12), 3) := by decide +kernel
theorem dJx4a65c_clear_da8c8_42 : decode cJx4a65c_clear_da8c8 42 = .ok (.return_, 1) := by decide +kernel
theorem dJx4a65c_iterator_32c93_0 : decode cJx4a65c_iterator_32c93 0 = .ok (.new 267, 3) := by decide +kernel
theorem dJx4a65c_iterator_32c93_3 : decode cJx4a65c_iterator_32c93 3 = .ok (.dup, 1) := by decide +kernel
theorem dJx4a65c_iterator_32c93_4 : decode cJx4a65c_iterator_32c93 4 = .ok (.aload_n 0, 1) := by decide +kernel
theorem dJx4a65c_iterator_32c93_5 : decode cJx4a65c_iterator_32c93 5 = .ok (.invokespecial 269, 3) := by decide +kernel
theorem dJx4a65c_iterator_32c93_8 : decode cJx4a65c_iterator_32c93 8 = .ok (.areturn, 1) := by decide +kernel
theorem dJ7_copyOf_1904c_0 : decode cJ7_copyOf_1904c 0 = .ok (.aload_n 0, 1) := by decide +kernel
theorem dJ7_copyOf_1904c_1 : decode cJ7_copyOf_1904c 1 = .ok (.iload_n 1, 1) := by decide +kernel
theorem dJ7_copyOf_1904c_2 : decode cJ7_copyOf_1904c 2 = .ok (.aload_n 0, 1) := by decide +kernel
theorem dJ7_copyOf_1904c_3 : decode cJ7_copyOf_1904c 3 = .ok (.invokevirtual 86, 3) := by decide +kernel
theorem dJ7_copyOf_1904c_6 : decode cJ7_copyOf_1904c 6 = .ok (.invokestatic 300, 3) := by decide +kernel
theorem dJ7_copyOf_1904c_9 : decode cJ7_copyOf_1904c 9 = .ok (.areturn, 1) := by decide +kernel
theorem dJ7_copyOf_6403c_0 : decode cJ7_copyOf_6403c 0 = .ok (.aload_n 2, 1) := by decide +kernel
theorem dJ7_copyOf_6403c_1 : decode cJ7_copyOf_6403c 1 = .ok (.ldc 110, 2) := by decide +kernel
theorem dJ7_copyOf_6403c_3 : decode cJ7_copyOf_6403c 3 = .ok (.if_acmp .ne 10, 3) := by decide +kernel
theorem dJ7_copyOf_6403c_6 : decode cJ7_copyOf_6403c 6 = .ok (.iload_n 1, 1) := by decide +kernel
theorem dJ7_copyOf_6403c_7 : decode cJ7_copyOf_6403c 7 = .ok (.anewarray 2, 3) := by decide +kernel
theorem dJ7_copyOf_6403c_10 : decode cJ7_copyOf_6403c 10 = .ok (.goto 14, 3) := by decide +kernel
theorem dJ7_copyOf_6403c_13 : decode cJ7_copyOf_6403c 13 = .ok (.aload_n 2, 1) := by decide +kernel
theorem dJ7_copyOf_6403c_14 : decode cJ7_copyOf_6403c 14 = .ok (.invokevirtual 90, 3) := by decide +kernel
theorem dJ7_copyOf_6403c_17 : decode cJ7_copyOf_6403c 17 = .ok (.iload_n 1, 1) := by decide +kernel
theorem dJ7_copyOf_6403c_18 : decode cJ7_copyOf_6403c 18 = .ok (.invokestatic 95, 3) := by decide +kernel
theorem dJ7_copyOf_6403c_21 : decode cJ7_copyOf_6403c 21 = .ok (.checkcast 110, 3) := by decide +kernel
theorem dJ7_copyOf_6403c_24 : decode cJ7_copyOf_6403c 24 = .ok (.astore_n 3, 1) := by decide +kernel
theorem dJ7_copyOf_6403c_25 : decode cJ7_copyOf_6403c 25 = .ok (.aload_n 0, 1) := by decide +kernel
theorem dJ7_copyOf_6403c_26 : decode cJ7_copyOf_6403c 26 = .ok (.iconst 0, 1) := by decide +kernel
theorem dJ7_copyOf_6403c_27 : decode cJ7_copyOf_6403c 27 = .ok (.aload_n 3, 1) := by decide +kernel
theorem dJ7_copyOf_6403c_28 : decode cJ7_copyOf_6403c 28 = .ok (.iconst 0, 1) := by decide +kernel
theorem dJ7_copyOf_6403c_29 : decode cJ7_copyOf_6403c 29 = .ok (.aload_n 0, 1) := by decide +kernel
theorem dJ7_copyOf_6403c_30 : decode cJ7_copyOf_6403c 30 = .ok (.arraylength, 1) := by decide +kernel
theorem dJ7_copyOf_6403c_31 : decode cJ7_copyOf_6403c 31 = .ok (.iload_n 1, 1) := by decide +kernel
theorem dJ7_copyOf_6403c_32 : decode cJ7_copyOf_6403c 32 = .ok (.invokestatic 304, 3) := by decide +kernel
theorem dJ7_copyOf_6403c_35 : decode cJ7_copyOf_6403c 35 = .ok (.invokestatic 150, 3) := by decide +kernel
theorem dJ7_copyOf_6403c_38 : decode cJ7_copyOf_6403c 38 = .ok (.aload_n 3, 1) := by decide +kernel
theorem dJ7_copyOf_6403c_39 : decode cJ7_copyOf_6403c 39 = .ok (.areturn, 1) := by decide +kernel
theorem dJ15_checkIndex_7cf53_0 : decode cJ15_checkIndex_7cf53 0 = .ok (.iload_n 0, 1) := by decide +kernel
theorem dJ15_checkIndex_7cf53_1 : decode cJ15_checkIndex_7cf53 1 = .ok (.iload_n 1, 1) := by decide +kernel
theorem dJ15_checkIndex_7cf53_2 : decode cJ15_checkIndex_7cf53 2 = .ok (.aconst_null, 1) := by decide +kernel
theorem dJ15_checkIndex_7cf53_3 : decode cJ15_checkIndex_7cf53 3 = .ok (.invokestatic 105, 3) := by decide +kernel
theorem dJ15_checkIndex_7cf53_6 : decode cJ15_checkIndex_7cf53 6 = .ok (.ireturn, 1) := by decide +kernel
theorem dJ8_newLength_cabcc_0 : decode cJ8_newLength_cabcc 0 = .ok (.iload_n 0, 1) := by decide +kernel
theorem dJ8_newLength_cabcc_1 : decode cJ8_newLength_cabcc 1 = .ok (.iload_n 1, 1) := by decide +kernel
theorem dJ8_newLength_cabcc_2 : decode cJ8_newLength_cabcc 2 = .ok (.iload_n 2, 1) := by decide +kernel
theorem dJ8_newLength_cabcc_3 : decode cJ8_newLength_cabcc 3 = .ok (.invokestatic 194, 3) := by decide +kernel
theorem dJ8_newLength_cabcc_6 : decode cJ8_newLength_cabcc 6 = .ok (.iadd, 1) := by decide +kernel
theorem dJ8_newLength_cabcc_7 : decode cJ8_newLength_cabcc 7 = .ok (.istore_n 3, 1) := by decide +kernel
theorem dJ8_newLength_cabcc_8 : decode cJ8_newLength_cabcc 8 = .ok (.iconst 0, 1) := by decide +kernel
theorem dJ8_newLength_cabcc_9 : decode cJ8_newLength_cabcc 9 = .ok (.iload_n 3, 1) := by decide +kernel
theorem dJ8_newLength_cabcc_10 : decode cJ8_newLength_cabcc 10 = .ok (.if_icmp .ge 11, 3) := by decide +kernel
theorem dJ8_newLength_cabcc_13 : decode cJ8_newLength_cabcc 13 = .ok (.iload_n 3, 1) := by decide +kernel
theorem dJ8_newLength_cabcc_14 : decode cJ8_newLength_cabcc 14 = .ok (.ldc 200, 2) := by decide +kernel
theorem dJ8_newLength_cabcc_16 : decode cJ8_newLength_cabcc 16 = .ok (.if_icmp .gt 5, 3) := by decide +kernel
theorem dJ8_newLength_cabcc_19 : decode cJ8_newLength_cabcc 19 = .ok (.iload_n 3, 1) := by decide +kernel
theorem dJ8_newLength_cabcc_20 : decode cJ8_newLength_cabcc 20 = .ok (.ireturn, 1) := by decide +kernel
theorem dJ8_newLength_cabcc_21 : decode cJ8_newLength_cabcc 21 = .ok (.iload_n 0, 1) := by decide +kernel
theorem dJ8_newLength_cabcc_22 : decode cJ8_newLength_cabcc 22 = .ok (.iload_n 1, 1) := by decide +kernel
theorem dJ8_newLength_cabcc_23 : decode cJ8_newLength_cabcc 23 = .ok (.invokestatic 201, 3) := by decide +kernel
theorem dJ8_newLength_cabcc_26 : decode cJ8_newLength_cabcc 26 = .ok (.ireturn, 1) := by decide +kernel
theorem dJ8_hugeLength_7cf53_0 : decode cJ8_hugeLength_7cf53 0 = .ok (.iload_n 0, 1) := by decide +kernel
theorem dJ8_hugeLength_7cf53_1 : decode cJ8_hugeLength_7cf53 1 = .ok (.iload_n 1, 1) := by decide +kernel
theorem dJ8_hugeLength_7cf53_2 : decode cJ8_hugeLength_7cf53 2 = .ok (.iadd, 1) := by decide +kernel
theorem dJ8_hugeLength_7cf53_3 : decode cJ8_hugeLength_7cf53 3 = .ok (.istore_n 2, 1) := by decide +kernel
theorem dJ8_hugeLength_7cf53_4 : decode cJ8_hugeLength_7cf53 4 = .ok (.iload_n 2, 1) := by decide +kernel
theorem dJ8_hugeLength_7cf53_5 : decode cJ8_hugeLength_7cf53 5 = .ok (.ifCond .ge 44, 3) := by decide +kernel
theorem dJ8_hugeLength_7cf53_8 : decode cJ8_hugeLength_7cf53 8 = .ok (.new 204, 3) := by decide +kernel
theorem dJ8_hugeLength_7cf53_11 : decode cJ8_hugeLength_7cf53 11 = .ok (.dup, 1) := by decide +kernel
theorem dJ8_hugeLength_7cf53_12 : decode cJ8_hugeLength_7cf53 12 = .ok (.new 89, 3) := by decide +kernel
theorem dJ8_hugeLength_7cf53_15 : decode cJ8_hugeLength_7cf53 15 = .ok (.dup, 1) := by decide +kernel
theorem dJ8_hugeLength_7cf53_16 : decode cJ8_hugeLength_7cf53 16 = .ok (.invokespecial 91, 3) := by decide +kernel
theorem dJ8_hugeLength_7cf53_19 : decode cJ8_hugeLength_7cf53 19 = .ok (.ldc 206, 2) := by decide +kernel
theorem dJ8_hugeLength_7cf53_21 : decode cJ8_hugeLength_7cf53 21 = .ok (.invokevirtual 94, 3) := by decide +kernel
theorem dJ8_hugeLength_7cf53_24 : decode cJ8_hugeLength_7cf53 24 = .ok (.iload_n 0, 1) := by decide +kernel
theorem dJ8_hugeLength_7cf53_25 : decode cJ8_hugeLength_7cf53 25 = .ok (.invokevirtual 98, 3) := by decide +kernel
theorem dJ8_hugeLength_7cf53_28 : decode cJ8_hugeLength_7cf53 28 = .ok (.ldc 208, 2) := by decide +kernel
theorem dJ8_hugeLength_7cf53_30 : decode cJ8_hugeLength_7cf53 30 = .ok (.invokevirtual 94, 3) := by decide +kernel
theorem dJ8_hugeLength_7cf53_33 : decode cJ8_hugeLength_7cf53 33 = .ok (.iload_n 1, 1) := by decide +kernel
theorem dJ8_hugeLength_7cf53_34 : decode cJ8_hugeLength_7cf53 34 = .ok (.invokevirtual 98, 3) := by decide +kernel
theorem dJ8_hugeLength_7cf53_37 : decode cJ8_hugeLength_7cf53 37 = .ok (.ldc 210, 2) := by decide +kernel
theorem dJ8_hugeLength_7cf53_39 : decode cJ8_hugeLength_7cf53 39 = .ok (.invokevirtual 94, 3) := by decide +kernel
theorem dJ8_hugeLength_7cf53_42 : decode cJ8_hugeLength_7cf53 42 = .ok (.invokevirtual 101, 3) := by decide +kernel
theorem dJ8_hugeLength_7cf53_45 : decode cJ8_hugeLength_7cf53 45 = .ok (.invokespecial 212, 3) := by decide +kernel
theorem dJ8_hugeLength_7cf53_48 : decode cJ8_hugeLength_7cf53 48 = .ok (.athrow, 1) := by decide +kernel
theorem dJ8_hugeLength_7cf53_49 : decode cJ8_hugeLength_7cf53 49 = .ok (.iload_n 2, 1) := by decide +kernel
theorem dJ8_hugeLength_7cf53_50 : decode cJ8_hugeLength_7cf53 50 = .ok (.ldc 200, 2) := by decide +kernel
theorem dJ8_hugeLength_7cf53_52 : decode cJ8_hugeLength_7cf53 52 = .ok (.if_icmp .gt 6, 3) := by decide +kernel
theorem dJ8_hugeLength_7cf53_55 : decode cJ8_hugeLength_7cf53 55 = .ok (.ldc 200, 2) := by decide +kernel
theorem dJ8_hugeLength_7cf53_57 : decode cJ8_hugeLength_7cf53 57 = .ok (.ireturn, 1) := by decide +kernel
theorem dJ8_hugeLength_7cf53_58 : decode cJ8_hugeLength_7cf53 58 = .ok (.iload_n 2, 1) := by decide +kernel
theorem dJ8_hugeLength_7cf53_59 : decode cJ8_hugeLength_7cf53 59 = .ok (.ireturn, 1) := by decide +kernel
theorem dJ3_checkIndex_8e157_0 : decode cJ3_checkIndex_8e157 0 = .ok (.iload_n 0, 1) := by decide +kernel
theorem dJ3_checkIndex_8e157_1 : decode cJ3_checkIndex_8e157 1 = .ok (.ifCond .lt 8, 3) := by decide +kernel
theorem dJ3_checkIndex_8e157_4 : decode cJ3_checkIndex_8e157 4 = .ok (.iload_n 0, 1) := by decide +kernel
theorem dJ3_checkIndex_8e157_5 : decode cJ3_checkIndex_8e157 5 = .ok (.iload_n 1, 1) := by decide +kernel
theorem dJ3_checkIndex_8e157_6 : decode cJ3_checkIndex_8e157 6 = .ok (.if_icmp .lt 10, 3) := by decide +kernel
theorem dJ3_checkIndex_8e157_9 : decode cJ3_checkIndex_8e157 9 = .ok (.aload_n 2, 1) := by decide +kernel
theorem dJ3_checkIndex_8e157_10 : decode cJ3_checkIndex_8e157 10 = .ok (.iload_n 0, 1) := by decide +kernel
theorem dJ3_checkIndex_8e157_11 : decode cJ3_checkIndex_8e157 11 = .ok (.iload_n 1, 1) := by decide +kernel
theorem dJ3_checkIndex_8e157_12 : decode cJ3_checkIndex_8e157 12 = .ok (.invokestatic 95, 3) := by decide +kernel
theorem dJ3_checkIndex_8e157_15 : decode cJ3_checkIndex_8e157 15 = .ok (.athrow, 1) := by decide +kernel
theorem dJ3_checkIndex_8e157_16 : decode cJ3_checkIndex_8e157 16 = .ok (.iload_n 0, 1) := by decide +kernel
theorem dJ3_checkIndex_8e157_17 : decode cJ3_checkIndex_8e157 17 = .ok (.ireturn, 1) := by decide +kernel
theorem dX9_init_0 : decode cX9_init 0 = .ok (.aload_n 0, 1) := by decide +kernel
theorem dX9_init_1 : decode cX9_init 1 = .ok (.invokespecial 1, 3) := by decide +kernel
theorem dX9_init_4 : decode cX9_init 4 = .ok (.aload_n 0, 1) := by decide +kernel
theorem dX9_init_5 : decode cX9_init 5 = .ok (.iconst 1, 1) := by decide +kernel
theorem dX9_init_6 : decode cX9_init 6 = .ok (.putfield 7, 3) := by decide +kernel
theorem dX9_init_9 : decode cX9_init 9 = .ok (.aload_n 0, 1) := by decide +kernel
theorem dX9_init_10 : decode cX9_init 10 = .ok (.iload_n 1, 1) := by decide +kernel
theorem dX9_init_11 : decode cX9_init 11 = .ok (.putfield 13, 3) := by decide +kernel
theorem dX9_init_14 : decode cX9_init 14 = .ok (.aload_n 0, 1) := by decide +kernel
theorem dX9_init_15 : decode cX9_init 15 = .ok (.iload_n 2, 1) := by decide +kernel
theorem dX9_init_16 : decode cX9_init 16 = .ok (.putfield 17, 3) := by decide +kernel
theorem dX9_init_19 : decode cX9_init 19 = .ok (.aload_n 0, 1) := by decide +kernel
theorem dX9_init_20 : decode cX9_init 20 = .ok (.iload_n 3, 1) := by decide +kernel
theorem dX9_init_21 : decode cX9_init 21 = .ok (.putfield 20, 3) := by decide +kernel
theorem dX9_init_24 : decode cX9_init 24 = .ok (.aload_n 0, 1) := by decide +kernel
theorem dX9_init_25 : decode cX9_init 25 = .ok (.iload 4, 2) := by decide +kernel
theorem dX9_init_27 : decode cX9_init 27 = .ok (.putfield 23, 3) := by decide +kernel
theorem dX9_init_30 : decode cX9_init 30 = .ok (.aload_n 0, 1) := by decide +kernel
theorem dX9_init_31 : decode cX9_init 31 = .ok (.iload 5, 2) := by decide +kernel
theorem dX9_init_33 : decode cX9_init 33 = .ok (.putfield 26, 3) := by decide +kernel
theorem dX9_init_36 : decode cX9_init 36 = .ok (.return_, 1) := by decide +kernel
theorem dX10_init_0 : decode cX10_init 0 = .ok (.aload_n 0, 1) := by decide +kernel
theorem dX10_init_1 : decode cX10_init 1 = .ok (.invokespecial 3, 3) := by decide +kernel
theorem dX10_init_4 : decode cX10_init 4 = .ok (.aload_n 0, 1) := by decide +kernel
theorem dX10_init_5 : decode cX10_init 5 = .ok (.new 9, 3) := by decide +kernel
theorem dX10_init_8 : decode cX10_init 8 = .ok (.dup, 1) := by decide +kernel
theorem dX10_init_9 : decode cX10_init 9 = .ok (.invokespecial 11, 3) := by decide +kernel
theorem dX10_init_12 : decode cX10_init 12 = .ok (.putfield 12, 3) := by decide +kernel
theorem dX10_init_15 : decode cX10_init 15 = .ok (.aload_n 0, 1) := by decide +kernel
theorem dX10_init_16 : decode cX10_init 16 = .ok (.iconst (-1), 1) := by decide +kernel
theorem dX10_init_17 : decode cX10_init 17 = .ok (.putfield 18, 3) := by decide +kernel
theorem dX10_init_20 : decode cX10_init 20 = .ok (.return_, 1) := by decide +kernel
end
section
/-! The class's world: 33 cells at addresses that never change; what they hold is a function of cell and place. -/
-- words that stay while the tables grow
def gw_st (w : Cond) : Bool := goodWord w || (match w with
  | .methodLinkNest .. => true
  | .fieldLinkNest .. => true
  | .declares _ => true
  | .castable .. => true
  | _ => false)
theorem gw_warm {args a' : Array Value} {s U : State} {w : Cond} (hW : s.WarmedH U.vm) (h : gw_st w = true) (hb : w.before args s = true) : w.before a' U = true := by
  by_cases h1 : goodWord w = true
  · exact word_at hW (good_of_word h1) hb
  · cases w with
    | methodLinkNest a i x h => exact va_Nw.use rfl (va_Nw.warmM hW (va_Nw.of rfl hb))
    | fieldLinkNest a i b n d h => exact va_Nw.use rfl (va_Nw.warmF hW (va_Nw.of rfl hb))
    | declares x => exact va_Nw.use rfl (va_Nw.warmD hW (va_Nw.of rfl hb))
    | castable C T => exact va_Nw.use rfl (va_Nw.warmC hW (va_Nw.of rfl hb))
    | _ => simp [gw_st, h1] at h
def gw_L : List Cond := lw_tbl.filter gw_st
theorem gw_tab (i : Nat) {w : Cond} (h : tables_1[i]? = some w) (hs : gw_st w = true) : w ∈ gw_L := List.mem_filter.mpr ⟨List.mem_append_right _ (List.mem_of_getElem? h), hs⟩
theorem gw_sel (i : Nat) {w : Cond} (h : (k2_sels lw_privs)[i]? = some w) (hs : gw_st w = true) : w ∈ gw_L := List.mem_filter.mpr ⟨List.mem_append_left _ (List.mem_of_getElem? h), hs⟩
theorem gw_all {args a' : Array Value} {s U : State} (hW : s.WarmedH U.vm) (h : ∀ w ∈ gw_L, w.before args s = true) : ∀ w ∈ gw_L, w.before a' U = true := fun w hw => gw_warm hW (List.mem_filter.mp hw).2 (h w hw)
-- the world
abbrev gw_S : Type := Nat → Nat → Int32
def gw_up (σ : gw_S) (k j : Nat) (v : Int32) : gw_S := fun a => if a = k then upd (σ a) j v else σ a
abbrev gw_G : Type := va_G × (Nat → Nat) × ClassId × (Nat → Nat)
/-- the cells: the wood 0; the order 1 with downs 2, images 3; the names 4 with sizes 5, pairs 6, heights 7, trial 8, drafted 9, standards 10; the formulas 11 with kinds 12, firsts 13, seconds 14, letters 15, depths 16, opens 17; valued 18 with likes 19, insides 20, letters 21; forced 22 (23, 24, 25); weak 26 (27, 28, 29); the world 30 with codes 31, letters 32 -/
def gw_W (G : gw_G) (σ : gw_S) : va_W :=
  [(G.2.1 0, .inr (10, [.ref (G.2.1 1), .ref (G.2.1 4), .ref (G.2.1 11), .ref (G.2.1 18), .ref (G.2.1 22), .ref (G.2.1 26), .ref (G.2.1 30)])),
   (G.2.1 1, .inr (6, [.int (σ 1 0), .int (σ 1 1), .int (σ 1 2), .ref (G.2.1 2), .ref (G.2.1 3)])),
   (G.2.1 2, .inl (G.2.2.1, 7, .inl (σ 2))), (G.2.1 3, .inl (G.2.2.1, 7, .inl (σ 3))),
   (G.2.1 4, .inr (5, [.ref (G.2.1 1), .int (σ 4 1), .int (σ 4 2), .ref (G.2.1 5), .ref (G.2.1 6), .ref (G.2.1 7), .ref (G.2.1 8), .ref (G.2.1 9), .ref (G.2.1 10)])),
   (G.2.1 5, .inl (G.2.2.1, 12, .inl (σ 5))), (G.2.1 6, .inl (G.2.2.1, 48, .inl (σ 6))), (G.2.1 7, .inl (G.2.2.1, 12, .inl (σ 7))), (G.2.1 8, .inl (G.2.2.1, 12, .inl (σ 8))), (G.2.1 9, .inl (G.2.2.1, 4, .inl (σ 9))), (G.2.1 10, .inl (G.2.2.1, 16, .inl (σ 10))),
   (G.2.1 11, .inr (4, [.int (σ 11 0), .ref (G.2.1 12), .ref (G.2.1 13), .ref (G.2.1 14), .ref (G.2.1 15), .ref (G.2.1 16), .ref (G.2.1 17)])),
   (G.2.1 12, .inl (G.2.2.1, 16, .inl (σ 12))), (G.2.1 13, .inl (G.2.2.1, 16, .inl (σ 13))), (G.2.1 14, .inl (G.2.2.1, 16, .inl (σ 14))), (G.2.1 15, .inl (G.2.2.1, 16, .inl (σ 15))), (G.2.1 16, .inl (G.2.2.1, 16, .inl (σ 16))), (G.2.1 17, .inl (G.2.2.1, 16, .inl (σ 17))),
   (G.2.1 18, .inr (7, [.ref (G.2.1 1), .ref (G.2.1 4), .ref (G.2.1 11), .ref (G.2.1 19), .ref (G.2.1 20), .ref (G.2.1 21), .int (σ 18 6)])),
   (G.2.1 19, .inl (G.2.2.1, 144, .inl (σ 19))), (G.2.1 20, .inl (G.2.2.1, 144, .inl (σ 20))), (G.2.1 21, .inl (G.2.2.1, 4, .inl (σ 21))),
   (G.2.1 22, .inr (3, [.ref (G.2.1 1), .ref (G.2.1 4), .ref (G.2.1 11), .ref (G.2.1 23), .ref (G.2.1 24), .ref (G.2.1 25), .int (σ 22 6)])),
   (G.2.1 23, .inl (G.2.2.1, 144, .inl (σ 23))), (G.2.1 24, .inl (G.2.2.1, 144, .inl (σ 24))), (G.2.1 25, .inl (G.2.2.1, 4, .inl (σ 25))),
   (G.2.1 26, .inr (8, [.ref (G.2.1 1), .ref (G.2.1 4), .ref (G.2.1 11), .ref (G.2.1 27), .ref (G.2.1 28), .ref (G.2.1 29), .int (σ 26 6)])),
   (G.2.1 27, .inl (G.2.2.1, 144, .inl (σ 27))), (G.2.1 28, .inl (G.2.2.1, 144, .inl (σ 28))), (G.2.1 29, .inl (G.2.2.1, 4, .inl (σ 29))),
   (G.2.1 30, .inr (9, [.ref (G.2.1 1), .ref (G.2.1 4), .ref (G.2.1 11), .ref (G.2.1 31), .ref (G.2.1 32)])),
   (G.2.1 31, .inl (G.2.2.1, 12, .inl (σ 31))), (G.2.1 32, .inl (G.2.2.1, 4, .inl (σ 32)))]
def gw_P (G : gw_G) (σ : gw_S) (H : Heap) : Prop := va_P G.1 vwCl (gw_W G σ) H
/-- the addresses are apart -/
def gw_I (G : gw_G) : Prop := ∀ i j : Nat, i < 33 → j < 33 → G.2.1 i = G.2.1 j → i = j
/-- what the class's methods may change -/
def gw_A (G : gw_G) (sz : Nat) : Nat → Prop := fun q => (∃ k : Nat, k < 33 ∧ q = G.2.1 k) ∨ sz ≤ q
theorem gw_at (G : gw_G) (σ : gw_S) : ∀ (k : Nat) (q : Nat × va_E), (gw_W G σ)[k]? = some q → k < 33 ∧ q.1 = G.2.1 k := by
  intro k q h
  have hl : k < (gw_W G σ).length := (List.getElem?_eq_some_iff.mp h).1
  have hk : k < 33 := hl
  refine ⟨hk, ?_⟩
  have h2 : ((gw_W G σ).map (fun z => z.1))[k]? = some q.1 := by rw [List.getElem?_map, h]; rfl
  have h3 : ((List.range 33).map G.2.1)[k]? = some (G.2.1 k) := by
    rw [List.getElem?_map, List.getElem?_range hk]; rfl
  have h4 : (gw_W G σ).map (fun z => z.1) = (List.range 33).map G.2.1 := rfl
  rw [h4, h3] at h2
  exact (Option.some.inj h2).symm
theorem gw_D {G : gw_G} (h : gw_I G) (sz : Nat) (σ : gw_S) : va_D (gw_A G sz) (gw_W G σ) := by
  refine ⟨fun i j p q hi hj e => ?_, fun k q hk => ?_⟩
  · obtain ⟨h1, h2⟩ := gw_at G σ i p hi
    obtain ⟨h3, h4⟩ := gw_at G σ j q hj
    exact h i j h1 h3 (by rw [← h2, ← h4]; exact e)
  · obtain ⟨h1, h2⟩ := gw_at G σ k q hk
    exact Or.inl ⟨k, h1, h2⟩
theorem gw_Asub {G : gw_G} {H : Heap} {sz : Nat} (hz : sz ≤ H.size) : ∀ q, gw_A G H.size q → gw_A G sz q := fun _ h => h.elim Or.inl (fun h => Or.inr (Nat.le_trans hz h))
theorem gw_Asz {G : gw_G} {sz : Nat} : ∀ q, sz ≤ q → gw_A G sz q := fun _ h => Or.inr h
/-- which places are rows, and how long they are -/
def gw_ln (k : Nat) : Nat := match k with
  | 2 => 7 | 3 => 7 | 5 => 12 | 6 => 48 | 7 => 12 | 8 => 12 | 9 => 4 | 10 => 16 | 12 => 16 | 13 => 16 | 14 => 16 | 15 => 16 | 16 => 16 | 17 => 16
  | 19 => 144 | 20 => 144 | 21 => 4 | 23 => 144 | 24 => 144 | 25 => 4 | 27 => 144 | 28 => 144 | 29 => 4 | 31 => 12 | 32 => 4 | _ => 0
def gw_row (k : Nat) : Prop := k < 33 ∧ 0 < gw_ln k
theorem gw_rowAt {k : Nat} (h : gw_row k) (G : gw_G) (σ : gw_S) : (gw_W G σ)[k]? = some (G.2.1 k, .inl (G.2.2.1, gw_ln k, .inl (σ k))) := by
  obtain ⟨h1, h2⟩ := h
  match k, h1, h2 with
  | 0, _, h2 => exact absurd h2 (by decide)
  | 1, _, h2 => exact absurd h2 (by decide)
  | 2, _, _ => rfl
  | 3, _, _ => rfl
  | 4, _, h2 => exact absurd h2 (by decide)
  | 5, _, _ => rfl
  | 6, _, _ => rfl
  | 7, _, _ => rfl
  | 8, _, _ => rfl
  | 9, _, _ => rfl
  | 10, _, _ => rfl
  | 11, _, h2 => exact absurd h2 (by decide)
  | 12, _, _ => rfl
  | 13, _, _ => rfl
  | 14, _, _ => rfl
  | 15, _, _ => rfl
  | 16, _, _ => rfl
  | 17, _, _ => rfl
  | 18, _, h2 => exact absurd h2 (by decide)
  | 19, _, _ => rfl
  | 20, _, _ => rfl
  | 21, _, _ => rfl
  | 22, _, h2 => exact absurd h2 (by decide)
  | 23, _, _ => rfl
  | 24, _, _ => rfl
  | 25, _, _ => rfl
  | 26, _, h2 => exact absurd h2 (by decide)
  | 27, _, _ => rfl
  | 28, _, _ => rfl
  | 29, _, _ => rfl
  | 30, _, h2 => exact absurd h2 (by decide)
  | 31, _, _ => rfl
  | 32, _, _ => rfl
  | k + 33, h1, _ => omega
theorem gw_rowSet {k : Nat} (h : gw_row k) (G : gw_G) (σ : gw_S) (j : Nat) (v : Int32) : (gw_W G σ).set k (G.2.1 k, .inl (G.2.2.1, gw_ln k, .inl (upd (σ k) j v))) = gw_W G (gw_up σ k j v) := by
  obtain ⟨h1, h2⟩ := h
  match k, h1, h2 with
  | 0, _, h2 => exact absurd h2 (by decide)
  | 1, _, h2 => exact absurd h2 (by decide)
  | 2, _, _ => rfl
  | 3, _, _ => rfl
  | 4, _, h2 => exact absurd h2 (by decide)
  | 5, _, _ => rfl
  | 6, _, _ => rfl
  | 7, _, _ => rfl
  | 8, _, _ => rfl
  | 9, _, _ => rfl
  | 10, _, _ => rfl
  | 11, _, h2 => exact absurd h2 (by decide)
  | 12, _, _ => rfl
  | 13, _, _ => rfl
  | 14, _, _ => rfl
  | 15, _, _ => rfl
  | 16, _, _ => rfl
  | 17, _, _ => rfl
  | 18, _, h2 => exact absurd h2 (by decide)
  | 19, _, _ => rfl
  | 20, _, _ => rfl
  | 21, _, _ => rfl
  | 22, _, h2 => exact absurd h2 (by decide)
  | 23, _, _ => rfl
  | 24, _, _ => rfl
  | 25, _, _ => rfl
  | 26, _, h2 => exact absurd h2 (by decide)
  | 27, _, _ => rfl
  | 28, _, _ => rfl
  | 29, _, _ => rfl
  | 30, _, h2 => exact absurd h2 (by decide)
  | 31, _, _ => rfl
  | 32, _, _ => rfl
  | k + 33, h1, _ => omega
theorem gw_fs_1_0 (G : gw_G) (σ : gw_S) (v : Int32) : (gw_W G σ).set 1 (G.2.1 1, .inr (6, [.int (σ 1 0), .int (σ 1 1), .int (σ 1 2), .ref (G.2.1 2), .ref (G.2.1 3)].set 0 (.int v))) = gw_W G (gw_up σ 1 0 v) := rfl
end
section
/-! Contracts over the world, and a call by each road. -/
def gw_str : List (String × Nat × String) := [("Genericwood", 66, "there are 7 conditions"), ("Genericwood", 313, "there is no such condition"), ("Genericwood", 84, "one is below the other already"), ("Genericwood", 316, "the set has other ones"), ("Genericwood", 318, "it is no last condition"), ("Genericwood", 323, "there would be more than 12 names"), ("Genericwood", 321, "there is no such name"), ("Genericwood", 145, "the other name has no lower number"), ("Genericwood", 159, "the pair is not for this name"), ("Genericwood", 164, "the name has 4 pairs"), ("Genericwood", 170, "there is no pair to take away"), ("Genericwood", 178, "the code is not in 0 to 15"), ("Genericwood", 183, "the condition 0 is not above all"), ("Genericwood", 210, "the conditions fit"), ("Genericwood", 216, "the mixture would have more than 4 pairs"), ("Genericwood", 221, "there is no such kind"), ("Genericwood", 328, "a term is no name that is there, nor a letter"), ("Genericwood", 337, "there are 16 formulas"), ("Genericwood", 331, "there is no such formula"), ("Genericwood", 335, "the depth would be above 5"), ("Genericwood", 252, "there is no such letter"), ("Genericwood", 333, "the formula is not closed"), ("Genericwood", 268, "the formula is so in every world"), ("Genericwood", 281, "the map does not keep the order"), ("Genericwood", 298, "there are no conditions"), ("Genericwood", 300, "there are no names")]
def gw_T (G : gw_G) (U : State) : Prop := gw_I G ∧ va_K G.1 vwCl [(G.2.2.1, .int)] U ∧ ∀ (i : Nat) (q : String × Nat × String), gw_str[i]? = some q → vk_R q.1 q.2.1 q.2.2 (G.2.2.2 i) U
theorem gw_T.warm {G : gw_G} {s U : State} (hW : s.WarmedH U.vm) (h : gw_T G s) : gw_T G U := ⟨h.1, h.2.1.moved hW.alike, fun i q hq => vk_R.warm hW (h.2.2 i q hq)⟩
theorem gw_T.call {G : gw_G} {U : State} {g : JFrame} {mk : MethodId} {a : Array Value} (h : gw_T G U) : gw_T G (U.calling g mk a) := ⟨h.1, va_K.moved (u := U) (U := U.calling g mk a) (Vm.Alike.refl U.vm) h.2.1, fun i q hq => vk_R.same (u := U) (U := U.calling g mk a) rfl (h.2.2 i q hq)⟩
def gw_Z (A : Nat → Prop) (U : State) (H : Heap) : Prop := vx_Zq Bundle.tN "UNASSIGNED_STACK" Bundle.steD A U H ∧ vx_Zq Bundle.tN "SUPPRESSED_SENTINEL" Bundle.listD A U H
theorem gw_Z.call {A : Nat → Prop} {U : State} {H : Heap} {g : JFrame} {mk : MethodId} {a : Array Value} (h : gw_Z A U H) : gw_Z A (U.calling g mk a) H := ⟨vx_Zq.moved (u := U) (U := U.calling g mk a) (Vm.Alike.refl U.vm) h.1, vx_Zq.moved (u := U) (U := U.calling g mk a) (Vm.Alike.refl U.vm) h.2⟩
theorem gw_Z.go {A B : Nat → Prop} {s U : State} {H0 H : Heap} (h : gw_Z A s H0) (hk : ∀ a : Nat, a < H0.size → ¬ A a → H[a]? = H0[a]?) (hAB : ∀ q, B q → A q) (hvm : s.vm.Alike U.vm) : gw_Z B U H := ⟨vx_Zq.moved hvm (vx_Zq.narrow (vx_Zq.kept h.1 hk) hAB), vx_Zq.moved hvm (vx_Zq.narrow (vx_Zq.kept h.2 hk) hAB)⟩
def gw_Pre (G : gw_G) (sz : Nat) (σ : gw_S) (U : State) : Prop := U.heap.size = sz ∧ gw_P G σ U.heap ∧ gw_T G U ∧ gw_Z (gw_A G sz) U U.heap
theorem gw_blind (As : List Value) (G : gw_G) (sz : Nat) (σ : gw_S) : FrameBlind (va_Pc As (gw_Pre G sz σ)) := fun _ _ _ _ q => ⟨q.1, q.2.1, q.2.2.1, q.2.2.2.1.call, q.2.2.2.2.call⟩
theorem gw_pre {G : gw_G} {s : State} {H : Heap} {locs : List Loc} {σ : gw_S} (hP : gw_P G σ H) (hT : gw_T G s) (hZ : gw_Z (gw_A G s.heap.size) s s.heap) (hS : va_S (gw_A G s.heap.size) s.heap H locs) : ∀ U : State, U.heap = H → s.WarmedH U.vm → gw_Pre G H.size σ U := fun U hU hW => by
  subst hU
  exact ⟨rfl, hP, hT.warm hW, hZ.go hS.2.1 (gw_Asub hS.1) hW.alike⟩
/-- a truth value -/
def gw_b (r : Int32) : Prop := narrow .boolean (.int r) = .int r
def gw_QI (G : gw_G) (sz : Nat) (o : Int32 × gw_S) : Array Value → State → Outcome → State → Prop := va_Qi (fun (r : Int32) (u : gw_S) => o = (r, u)) (fun u t => gw_P G u t.heap) (gw_A G sz)
def gw_QZ (G : gw_G) (sz : Nat) (o : Int32 × gw_S) : Array Value → State → Outcome → State → Prop := va_Qi (fun (r : Int32) (u : gw_S) => o = (r, u) ∧ gw_b r) (fun u t => gw_P G u t.heap) (gw_A G sz)
def gw_QV (G : gw_G) (sz : Nat) (o : gw_S) : Array Value → State → Outcome → State → Prop := va_Qv (fun (u : gw_S) => o = u) (fun u t => gw_P G u t.heap) (gw_A G sz)
def gw_xI (G : gw_G) (sz : Nat) (o : (Int32 ⊕ String) × gw_S) : Array Value → State → Outcome → State → Prop := va_Qi (fun (r : Int32) (u : gw_S) => o = (.inl r, u)) (fun u t => gw_P G u t.heap) (gw_A G sz)
def gw_xZ (G : gw_G) (sz : Nat) (o : (Int32 ⊕ String) × gw_S) : Array Value → State → Outcome → State → Prop := va_Qi (fun (r : Int32) (u : gw_S) => o = (.inl r, u) ∧ gw_b r) (fun u t => gw_P G u t.heap) (gw_A G sz)
def gw_xV (G : gw_G) (sz : Nat) (o : (Unit ⊕ String) × gw_S) : Array Value → State → Outcome → State → Prop := va_Qv (fun (u : gw_S) => o = (.inl (), u)) (fun u t => gw_P G u t.heap) (gw_A G sz)
def gw_XC {α : Type} (G : gw_G) (sz : Nat) (o : (α ⊕ String) × gw_S) : String → State → State → Prop := vx_X (fun (_ : gw_S) => True) (fun (E : String) (u : gw_S) (t : State) => o = (.inr E, u) ∧ gw_P G u t.heap) (gw_A G sz)
/-- a method of the class that returns -/
def gw_M (Qc : Nat → Array Value → State → Outcome → State → Prop) (l : Launch) (y : MethodName) (cc : ByteArray) (maxL : Nat) (ret : Option FieldType) (rm : Room) (G : gw_G) (As : List Value) (σ : gw_S) : Prop :=
  ∀ sz : Nat, Met l y (.code y cc maxL ret :: gw_L) rm (va_Pc As (gw_Pre G sz σ)) (Qc sz) 0 0 (gw_A G sz)
/-- .. or throws -/
def gw_N (Qc : Nat → Array Value → State → Outcome → State → Prop) (XC : Nat → String → State → State → Prop) (k : Nat) (l : Launch) (y : MethodName) (cc : ByteArray) (maxL : Nat) (ret : Option FieldType) (rm : Room) (G : gw_G) (As : List Value) (σ : gw_S) : Prop :=
  ∀ sz : Nat, vx_Met l y (.code y cc maxL ret :: gw_L) rm (va_Pc As (gw_Pre G sz σ)) (Qc sz) (XC sz) k (6 * k) (gw_A G sz)
/-- what a walk of such a method has at hand -/
def gw_X (p : Program) (s : State) (m : MethodId) (args : Array Value) (meth : Method) (c : Code) (cc : ByteArray) (nL : Nat) (own : String) (ret : Option FieldType) (G : gw_G) : Prop :=
  p.tables.exec = Jvm.exec ∧ c.code = cc ∧ c.maxLocals = nL ∧ s.vm.findClass own = some m.cls ∧ (∀ w ∈ gw_L, w.before args s = true) ∧ meth.sig.returnType = ret ∧ meth.locks = false ∧ gw_T G s ∧ gw_Z (gw_A G s.heap.size) s s.heap ∧ ∀ x ∈ c.exceptionTable.toList, False
set_option maxHeartbeats 1000000 in
theorem gw_en {Qc : Nat → Array Value → State → Outcome → State → Prop} {l : Launch} {y : MethodName} {cc : ByteArray} {maxL : Nat} {ret : Option FieldType} {rm : Room} {G : gw_G} {As : List Value} {σ : gw_S} {own : String} {lv : List (Nat × Value)} (hy : plainName y.cls = true) (ho : y.cls = own) (hlen : (lg_sl As).length ≤ maxL) (hlv : lv_args 0 As = lv)
    (body : ∀ (p : Program) (e : Env) (s : State) (m : MethodId) (below : List Frame) (meth : Method) (c : Code) (ls : Array Slot), gw_X p s m As.toArray meth c cc maxL own ret G → lv_has ls maxL lv → gw_P G σ s.heap →
      W p l e rm s m As.toArray below meth c s.heap [] 0 0 (MQ below (Qc s.heap.size) As.toArray s 0 0 (gw_A G s.heap.size)) (F0 m 0 ls [])) : gw_M Qc l y cc maxL ret rm G As σ := by
  intro sz
  subst ho
  subst hlv
  refine Met.ofW (cc := cc) (maxL := maxL) (ret := ret) hy rfl ?_
  intro p e s m args below meth c s₁ B hml hv
  obtain ⟨rfl, hsz, hP, hT, hZ⟩ := hv
  subst hsz
  have hts := atoms_spec (ws := .code y cc maxL ret :: gw_L) B.pre
  have hl := lv_entry As (n := maxL) hlen
  have ht : ∀ x ∈ c.exceptionTable.toList, False := by
    obtain ⟨meth9, c9, h1, h2, -, -, -, -, h7, -⟩ := Cond.code_spec B.named (hts _ List.mem_cons_self)
    cases Option.some.inj (h1.symm.trans B.method)
    cases Option.some.inj (h2.symm.trans (Stand.of_body B).code)
    intro x hx
    rw [Array.isEmpty_iff.mp h7] at hx
    cases hx
  rw [lg_entry_eq]
  exact body p e s m below meth c _ ⟨B.exec, B.bytes, hml, findClass_of_methodNamed B.named, fun w hw => hts w (List.mem_cons_of_mem _ hw), B.returns, B.notSynchronized, hT, hZ, ht⟩ hl hP
set_option maxHeartbeats 1000000 in
theorem gw_enx {Qc : Nat → Array Value → State → Outcome → State → Prop} {XC : Nat → String → State → State → Prop} {k : Nat} {l : Launch} {y : MethodName} {cc : ByteArray} {maxL : Nat} {ret : Option FieldType} {rm : Room} {G : gw_G} {As : List Value} {σ : gw_S} {own : String} {lv : List (Nat × Value)} (hy : plainName y.cls = true) (ho : y.cls = own) (hlen : (lg_sl As).length ≤ maxL) (hlv : lv_args 0 As = lv)
    (body : ∀ (p : Program) (e : Env) (s : State) (m : MethodId) (below : List Frame) (meth : Method) (c : Code) (ls : Array Slot), gw_X p s m As.toArray meth c cc maxL own ret G → lv_has ls maxL lv → gw_P G σ s.heap →
      W p l e rm s m As.toArray below meth c s.heap [] 0 0 (vx_MQ below (Qc s.heap.size) (XC s.heap.size) As.toArray s k (6 * k) (gw_A G s.heap.size)) (F0 m 0 ls [])) : gw_N Qc XC k l y cc maxL ret rm G As σ := by
  intro sz
  subst ho
  subst hlv
  refine vx_ofW (cc := cc) (maxL := maxL) (ret := ret) hy rfl ?_
  intro p e s m args below meth c s₁ B hml ht hv
  obtain ⟨rfl, hsz, hP, hT, hZ⟩ := hv
  subst hsz
  have hts := atoms_spec (ws := .code y cc maxL ret :: gw_L) B.pre
  have hl := lv_entry As (n := maxL) hlen
  rw [lg_entry_eq]
  exact body p e s m below meth c _ ⟨B.exec, B.bytes, hml, findClass_of_methodNamed B.named, fun w hw => hts w (List.mem_cons_of_mem _ hw), B.returns, B.notSynchronized, hT, hZ, ht⟩ hl hP
/-- a callee's own words -/
def gw_K (y : MethodName) (bytes : ByteArray) (maxL : Nat) (ret : Option FieldType) (n : Nat) : Prop := Cond.code y bytes maxL ret ∈ gw_L ∧ Cond.initialized y.cls ∈ gw_L ∧ (y.cls ≠ "java/lang/invoke/MethodHandle" ∧ y.cls ≠ "java/lang/invoke/VarHandle") ∧ (parseMethodDescriptor y.desc).map (fun d => d.parameters.length) = some n
theorem gw_sig {d : String} {n : Nat} (h : (parseMethodDescriptor d).map (fun d => d.parameters.length) = some n) : ∀ sig, parseMethodDescriptor d = some sig → n = sig.parameters.length := by
  intro sig h1
  rw [h1] at h
  exact (Option.some.inj h).symm
section GWC
variable {p : Program} {l : Launch} {e : Env} {R : Room} {s : State} {m : MethodId} {args : Array Value} {below : List Frame} {meth : Method} {c : Code} {H : Heap} {locs : List Loc} {cells slots : Nat} {Q : State → Prop}
variable {cc bytes : ByteArray} {nL maxL n index k : Nat} {own C owner host : String} {ret ret0 : Option FieldType} {G : gw_G} {x y : MethodName} {rm : Room} {Qc : Nat → Array Value → State → Outcome → State → Prop} {XC : Nat → String → State → State → Prop} {σ : gw_S} {As rest st0 : List Value} {b pc : Nat} {ls : Array Slot}
theorem gw_fix (X : gw_X p s m args meth c cc nL own ret0 G) : CallFix p m c cc nL s args gw_L own := ⟨X.1, X.2.1, X.2.2.1, X.2.2.2.1, X.2.2.2.2.1⟩
theorem gw_cb (X : gw_X p s m args meth c cc nL own ret0 G) (q : gw_K y bytes maxL ret n) (hl : Cond.methodLink own index y ∈ gw_L) {mc ms : Nat} (hrc : rm.cells = mc) (hrs : rm.slots = ms) (hR : rm.frames + 1 ≤ R.frames ∧ 8 + (maxL + 11) + rm.locals ≤ R.locals) : CallB R s args own index y bytes maxL ret (.code y bytes maxL ret :: gw_L) rm mc ms n :=
  have hts := X.2.2.2.2.1
  ⟨hrc, hrs, hR.1, hR.2, fun w hw a' U hW => (List.mem_cons.mp hw).elim (fun e => by rw [e]; exact gw_all hW hts _ q.1) (fun h => gw_all hW hts _ h), List.mem_cons_self, hts _ q.1, hts _ q.2.1, q.2.2.1, gw_sig q.2.2.2, hts _ hl⟩
theorem gw_rV (X : gw_X p s m args meth c cc nL own ret0 G) (hP : gw_P G σ H) (hS : va_S (gw_A G s.heap.size) s.heap H locs) (hM : gw_M Qc l y bytes maxL ret rm G (.ref b :: As) σ) (q : gw_K y bytes maxL ret n) (hl : Cond.methodLink own index y ∈ gw_L) (hv : Cond.instanceMethod y ∈ gw_L ∧ Cond.selects C y y ∈ gw_L)
    (hr : ∃ cellB : Cell, H[b]? = some cellB ∧ cellB.vm.isStatics = false ∧ s.vm.findClass C = some cellB.cls) (hn : As.length = n) (hst : st0 = As.reverse ++ .ref b :: rest) (hW : (rest.map fun v => v.category).sum ≤ 8) (hls : ls.size = nL) (hc : rm.cells = 0 ∧ rm.slots = 0) (hR : rm.frames + 1 ≤ R.frames ∧ 8 + (maxL + 11) + rm.locals ≤ R.locals) (hf : cells + 0 ≤ R.cells ∧ slots + 0 ≤ R.slots) (hdg : decode cc pc = .ok (.invokevirtual index, 3)) :
    va_Run p l e R s m args below meth c H locs cells slots 0 0 (F0 m pc ls st0) rest (Qc H.size (Value.ref b :: As).toArray) (gw_A G H.size) := by
  have hts := X.2.2.2.2.1
  exact va_runV (gw_fix X) (hM H.size) ⟨gw_cb X q hl hc.1 hc.2 hR, hts _ hv.1, hts _ hv.2⟩ ⟨gw_blind _ G _ σ, hr, fun U hU hWm => ⟨rfl, gw_pre hP X.2.2.2.2.2.2.2.1 X.2.2.2.2.2.2.2.2.1 hS U hU hWm⟩⟩ rfl hn hls hst (lv_room hW) hdg hf
theorem gw_rS (X : gw_X p s m args meth c cc nL own ret0 G) (hP : gw_P G σ H) (hS : va_S (gw_A G s.heap.size) s.heap H locs) (hM : gw_M Qc l y bytes maxL ret rm G As σ) (q : gw_K y bytes maxL ret n) (hl : Cond.methodLink own index y ∈ gw_L) (hv : Cond.static y ∈ gw_L)
    (hn : As.length = n) (hst : st0 = As.reverse ++ rest) (hW : (rest.map fun v => v.category).sum ≤ 8) (hls : ls.size = nL) (hc : rm.cells = 0 ∧ rm.slots = 0) (hR : rm.frames + 1 ≤ R.frames ∧ 8 + (maxL + 11) + rm.locals ≤ R.locals) (hf : cells + 0 ≤ R.cells ∧ slots + 0 ≤ R.slots) (hdg : decode cc pc = .ok (.invokestatic index, 3)) :
    va_Run p l e R s m args below meth c H locs cells slots 0 0 (F0 m pc ls st0) rest (Qc H.size As.toArray) (gw_A G H.size) := by
  have hts := X.2.2.2.2.1
  exact va_runS (gw_fix X) (hM H.size) ⟨gw_cb X q hl hc.1 hc.2 hR, hts _ hv⟩ ⟨gw_blind _ G _ σ, fun U hU hWm => ⟨rfl, gw_pre hP X.2.2.2.2.2.2.2.1 X.2.2.2.2.2.2.2.2.1 hS U hU hWm⟩⟩ rfl hn hls hst (lv_room hW) hdg hf
theorem gw_rN (X : gw_X p s m args meth c cc nL own ret0 G) (hP : gw_P G σ H) (hS : va_S (gw_A G s.heap.size) s.heap H locs) (hM : gw_M Qc l y bytes maxL ret rm G As σ) (q : gw_K y bytes maxL ret n) (hl : Cond.methodLinkNest own index y host ∈ gw_L) (hv : Cond.static y ∈ gw_L)
    (hn : As.length = n) (hst : st0 = As.reverse ++ rest) (hW : (rest.map fun v => v.category).sum ≤ 8) (hls : ls.size = nL) (hc : rm.cells = 0 ∧ rm.slots = 0) (hR : rm.frames + 1 ≤ R.frames ∧ 8 + (maxL + 11) + rm.locals ≤ R.locals) (hf : cells + 0 ≤ R.cells ∧ slots + 0 ≤ R.slots) (hdg : decode cc pc = .ok (.invokestatic index, 3)) :
    va_Run p l e R s m args below meth c H locs cells slots 0 0 (F0 m pc ls st0) rest (Qc H.size As.toArray) (gw_A G H.size) := by
  have hts := X.2.2.2.2.1
  exact va_runSN (host := host) (gw_fix X) (hM H.size) ⟨⟨⟨hc.1, hc.2, hR.1, hR.2, fun w hw a' U hW => (List.mem_cons.mp hw).elim (fun e => by rw [e]; exact gw_all hW hts _ q.1) (fun h => gw_all hW hts _ h), List.mem_cons_self⟩, hts _ q.1, hts _ q.2.1, q.2.2.1, gw_sig q.2.2.2, hts _ hl⟩, hts _ hv, trivial⟩ ⟨gw_blind _ G _ σ, fun U hU hWm => ⟨rfl, gw_pre hP X.2.2.2.2.2.2.2.1 X.2.2.2.2.2.2.2.2.1 hS U hU hWm⟩⟩ rfl hn hls hst (lv_room hW) hdg hf
/-- a call that the receiver's class decides: x is named, y is run; what x stands for is declared in owner -/
theorem gw_rU (X : gw_X p s m args meth c cc nL own ret0 G) (hP : gw_P G σ H) (hS : va_S (gw_A G s.heap.size) s.heap H locs) (hM : gw_M Qc l y bytes maxL ret rm G (.ref b :: As) σ) (q : gw_K y bytes maxL ret n) (hx : (owner ≠ "java/lang/invoke/MethodHandle" ∧ owner ≠ "java/lang/invoke/VarHandle") ∧ (parseMethodDescriptor x.desc).map (fun d => d.parameters.length) = some n) (hl : Cond.methodLink own index x ∈ gw_L) (hv : Cond.sameMethod x.cls owner x.name x.desc ∈ gw_L ∧ Cond.selects C x y ∈ gw_L ∧ Cond.instanceMethod y ∈ gw_L)
    (hd : Cond.declares ⟨owner, x.name, x.desc⟩ ∈ gw_L) (hr : ∃ cellB : Cell, H[b]? = some cellB ∧ cellB.vm.isStatics = false ∧ s.vm.findClass C = some cellB.cls) (hn : As.length = n) (hst : st0 = As.reverse ++ .ref b :: rest) (hW : (rest.map fun v => v.category).sum ≤ 8) (hls : ls.size = nL) (hc : rm.cells = 0 ∧ rm.slots = 0) (hR : rm.frames + 1 ≤ R.frames ∧ 8 + (maxL + 11) + rm.locals ≤ R.locals) (hf : cells + 0 ≤ R.cells ∧ slots + 0 ≤ R.slots) (hdg : decode cc pc = .ok (.invokevirtual index, 3)) :
    va_Run p l e R s m args below meth c H locs cells slots 0 0 (F0 m pc ls st0) rest (Qc H.size (Value.ref b :: As).toArray) (gw_A G H.size) := by
  have hts := X.2.2.2.2.1
  exact va_runU (owner := owner) (x := x) (gw_fix X) (hM H.size) ⟨⟨hc.1, hc.2, hR.1, hR.2, fun w hw a' U hW => (List.mem_cons.mp hw).elim (fun e => by rw [e]; exact gw_all hW hts _ q.1) (fun h => gw_all hW hts _ h), List.mem_cons_self⟩, hts _ q.1, hts _ q.2.1, hx.1, gw_sig hx.2, hts _ hl, hts _ hv.1, va_Decl.abs (va_Nw.of rfl (hts _ hd)), hts _ hv.2.1, hts _ hv.2.2⟩ ⟨gw_blind _ G _ σ, hr, fun U hU hWm => ⟨rfl, gw_pre hP X.2.2.2.2.2.2.2.1 X.2.2.2.2.2.2.2.2.1 hS U hU hWm⟩⟩ rfl hn hls hst (lv_room hW) hdg hf
variable {o : Int32 × gw_S} {ov : gw_S} {a : Array Value}
theorem gw_ci (hr : va_Run p l e R s m args below meth c H locs cells slots 0 0 (F0 m pc ls st0) rest (gw_QI G H.size o a) (gw_A G H.size)) (hS : va_S (gw_A G s.heap.size) s.heap H locs)
    (kk : ∀ (H1 : Heap) (locs1 : List Loc), gw_P G o.2 H1 → va_S (gw_A G s.heap.size) s.heap H1 locs1 → W p l e R s m args below meth c H1 locs1 cells slots Q (F0 m (pc + 3) ls (.int o.1 :: rest))) : W p l e R s m args below meth c H locs cells slots Q (F0 m pc ls st0) := by
  refine va_calli hr hS (fun q _ h => gw_Asub hS.1 q h) (gw_Asub hS.1) (fun r u t H1 locs1 ht hvm hw hB hz hk hS1 => ?_)
  subst hw
  subst ht
  exact kk _ _ hB hS1
theorem gw_cz (hr : va_Run p l e R s m args below meth c H locs cells slots 0 0 (F0 m pc ls st0) rest (gw_QZ G H.size o a) (gw_A G H.size)) (hS : va_S (gw_A G s.heap.size) s.heap H locs)
    (kk : ∀ (H1 : Heap) (locs1 : List Loc), gw_b o.1 → gw_P G o.2 H1 → va_S (gw_A G s.heap.size) s.heap H1 locs1 → W p l e R s m args below meth c H1 locs1 cells slots Q (F0 m (pc + 3) ls (.int o.1 :: rest))) : W p l e R s m args below meth c H locs cells slots Q (F0 m pc ls st0) := by
  refine va_calli hr hS (fun q _ h => gw_Asub hS.1 q h) (gw_Asub hS.1) (fun r u t H1 locs1 ht hvm hw hB hz hk hS1 => ?_)
  obtain ⟨hw, hb⟩ := hw
  subst hw
  subst ht
  exact kk _ _ hb hB hS1
theorem gw_cv (hr : va_Run p l e R s m args below meth c H locs cells slots 0 0 (F0 m pc ls st0) rest (gw_QV G H.size ov a) (gw_A G H.size)) (hS : va_S (gw_A G s.heap.size) s.heap H locs)
    (kk : ∀ (H1 : Heap) (locs1 : List Loc), gw_P G ov H1 → va_S (gw_A G s.heap.size) s.heap H1 locs1 → W p l e R s m args below meth c H1 locs1 cells slots Q (F0 m (pc + 3) ls rest)) : W p l e R s m args below meth c H locs cells slots Q (F0 m pc ls st0) := by
  refine va_callv hr hS (fun q _ h => gw_Asub hS.1 q h) (gw_Asub hS.1) (fun u t H1 locs1 ht hvm hw hB hz hk hS1 => ?_)
  subst hw
  subst ht
  exact kk _ _ hB hS1
-- ends
variable {rt : FieldType} {σ' : gw_S} {v : Int32}
theorem gw_ri (X : gw_X p s m args meth c cc nL own (some .int) G) (hP : gw_P G σ' H) (hS : va_S (gw_A G s.heap.size) s.heap H locs) (h : some (v, σ') = some o) (hdg : decode cc pc = .ok (.ireturn, 1)) : W p l e R s m args below meth c H locs 0 0 (MQ below (gw_QI G s.heap.size o) args s 0 0 (gw_A G s.heap.size)) (F0 m pc ls [.int v]) :=
  W.iret (v := v) X.1 X.2.1 X.2.2.2.2.2.1 (fun t ht _ => ⟨⟨v, σ', rfl, (Option.some.inj h).symm, by subst ht; exact hP⟩, hS.F ht⟩) hS.2.2 hdg X.2.2.2.2.2.2.1
theorem gw_rz (X : gw_X p s m args meth c cc nL own (some .boolean) G) (hP : gw_P G σ' H) (hS : va_S (gw_A G s.heap.size) s.heap H locs) (hb : gw_b v) (h : some (v, σ') = some o) (hdg : decode cc pc = .ok (.ireturn, 1)) : W p l e R s m args below meth c H locs 0 0 (MQ below (gw_QZ G s.heap.size o) args s 0 0 (gw_A G s.heap.size)) (F0 m pc ls [.int v]) :=
  W.zret (v := v) X.1 X.2.1 X.2.2.2.2.2.1 hb (fun t ht _ => ⟨⟨v, σ', rfl, ⟨(Option.some.inj h).symm, hb⟩, by subst ht; exact hP⟩, hS.F ht⟩) hS.2.2 hdg X.2.2.2.2.2.2.1
theorem gw_rv (X : gw_X p s m args meth c cc nL own none G) (hP : gw_P G σ' H) (hS : va_S (gw_A G s.heap.size) s.heap H locs) (h : some σ' = some ov) (hdg : decode cc pc = .ok (.return_, 1)) : W p l e R s m args below meth c H locs 0 0 (MQ below (gw_QV G s.heap.size ov) args s 0 0 (gw_A G s.heap.size)) (F0 m pc ls []) :=
  W.vret X.1 X.2.1 X.2.2.2.2.2.1 (fun t ht _ => ⟨⟨σ', rfl, (Option.some.inj h).symm, by subst ht; exact hP⟩, hS.F ht⟩) hS.2.2 hdg X.2.2.2.2.2.2.1
end GWC
end
section
/-! Calls of methods that may throw, and the throw itself. -/
def gw_bx {β : Type} (o : (Unit ⊕ String) × gw_S) (k : gw_S → Option ((β ⊕ String) × gw_S)) : Option ((β ⊕ String) × gw_S) := match o with
  | (.inl _, u) => k u
  | (.inr E, u) => some (.inr E, u)
def gw_tail (X : String) (names : List String) : List Cond := ((Bundle.ownAtoms "" 0 X names).filter vx_no).filter (fun w => decide (w ≠ .methodLink "" 0 (Bundle.initS X)))
theorem gw_atS {own X : String} {ic : Nat} {names : List String} {P : Cond → Prop} (hd : (vx_atS own ic X names).all (fun w => decide (w ≠ .methodLink "" 0 (Bundle.initS X))) = true) (hl : P (.methodLink own ic (Bundle.initS X))) (hr : ∀ w ∈ gw_tail X names, P w) : ∀ w ∈ vx_atS own ic X names, P w := by
  intro w hw
  by_cases e : w = .methodLink own ic (Bundle.initS X)
  · rw [e]; exact hl
  · refine hr w ?_
    obtain ⟨h1, h2⟩ := List.mem_filter.mp hw
    by_cases e2 : w = .methodLink "" 0 (Bundle.initS X)
    · have h3 := List.all_eq_true.mp hd w hw
      simp [e2] at h3
    · refine List.mem_filter.mpr ⟨List.mem_filter.mpr ⟨?_, h2⟩, by simp [e2]⟩
      unfold Bundle.ownAtoms at h1 ⊢
      simp only [List.mem_append, List.mem_cons, List.not_mem_nil, or_false] at h1 ⊢
      rcases h1 with h1 | h1
      · exact Or.inl h1
      · rcases h1 with h1 | h1
        · exact absurd h1 e
        · exact Or.inr (Or.inr h1)
section GWX
variable {p : Program} {l : Launch} {e : Env} {R : Room} {s : State} {m : MethodId} {args : Array Value} {below : List Frame} {meth : Method} {c : Code} {H : Heap} {locs : List Loc} {cells slots : Nat} {Q : State → Prop}
variable {cc bytes : ByteArray} {nL maxL n index k : Nat} {own C owner host : String} {ret ret0 : Option FieldType} {G : gw_G} {x y : MethodName} {rm : Room} {Qc : Nat → Array Value → State → Outcome → State → Prop} {XC : Nat → String → State → State → Prop} {σ σ' : gw_S} {As rest st0 : List Value} {b pc : Nat} {ls : Array Slot} {a : Array Value}
theorem gw_xV_ (X : gw_X p s m args meth c cc nL own ret0 G) (hP : gw_P G σ H) (hS : va_S (gw_A G s.heap.size) s.heap H locs) (hM : gw_N Qc XC k l y bytes maxL ret rm G (.ref b :: As) σ) (q : gw_K y bytes maxL ret n) (hl : Cond.methodLink own index y ∈ gw_L) (hv : Cond.instanceMethod y ∈ gw_L ∧ Cond.selects C y y ∈ gw_L)
    (hr : ∃ cellB : Cell, H[b]? = some cellB ∧ cellB.vm.isStatics = false ∧ s.vm.findClass C = some cellB.cls) (hn : As.length = n) (hst : st0 = As.reverse ++ .ref b :: rest) (hW : (rest.map fun v => v.category).sum ≤ 8) (hls : ls.size = nL) (hc : rm.cells = k ∧ rm.slots = 6 * k) (hR : rm.frames + 1 ≤ R.frames ∧ 8 + (maxL + 11) + rm.locals ≤ R.locals) (hf : cells + k ≤ R.cells ∧ slots + 6 * k ≤ R.slots) (hdg : decode cc pc = .ok (.invokevirtual index, 3)) :
    vx_Run p l e R s m args below meth c H locs cells slots k (6 * k) (F0 m pc ls st0) rest (Qc H.size (Value.ref b :: As).toArray) (XC H.size) (gw_A G H.size) := by
  have hts := X.2.2.2.2.1
  exact vx_runV (gw_fix X) (hM H.size) ⟨gw_cb X q hl hc.1 hc.2 hR, hts _ hv.1, hts _ hv.2⟩ ⟨gw_blind _ G _ σ, hr, fun U hU hWm => ⟨rfl, gw_pre hP X.2.2.2.2.2.2.2.1 X.2.2.2.2.2.2.2.2.1 hS U hU hWm⟩⟩ rfl hn hls hst (lv_room hW) hdg hf
theorem gw_xS_ (X : gw_X p s m args meth c cc nL own ret0 G) (hP : gw_P G σ H) (hS : va_S (gw_A G s.heap.size) s.heap H locs) (hM : gw_N Qc XC k l y bytes maxL ret rm G As σ) (q : gw_K y bytes maxL ret n) (hl : Cond.methodLink own index y ∈ gw_L) (hv : Cond.static y ∈ gw_L)
    (hn : As.length = n) (hst : st0 = As.reverse ++ rest) (hW : (rest.map fun v => v.category).sum ≤ 8) (hls : ls.size = nL) (hc : rm.cells = k ∧ rm.slots = 6 * k) (hR : rm.frames + 1 ≤ R.frames ∧ 8 + (maxL + 11) + rm.locals ≤ R.locals) (hf : cells + k ≤ R.cells ∧ slots + 6 * k ≤ R.slots) (hdg : decode cc pc = .ok (.invokestatic index, 3)) :
    vx_Run p l e R s m args below meth c H locs cells slots k (6 * k) (F0 m pc ls st0) rest (Qc H.size As.toArray) (XC H.size) (gw_A G H.size) := by
  have hts := X.2.2.2.2.1
  exact vx_runS (gw_fix X) (hM H.size) ⟨gw_cb X q hl hc.1 hc.2 hR, hts _ hv⟩ ⟨gw_blind _ G _ σ, fun U hU hWm => ⟨rfl, gw_pre hP X.2.2.2.2.2.2.2.1 X.2.2.2.2.2.2.2.2.1 hS U hU hWm⟩⟩ rfl hn hls hst (lv_room hW) hdg hf
variable {β : Type} {Xd : String → State → State → Prop} {o1 : (Unit ⊕ String) × gw_S} {oo : (β ⊕ String) × gw_S} {kf : gw_S → Option ((β ⊕ String) × gw_S)} {Qd : Array Value → State → Outcome → State → Prop} {mc ms K N : Nat}
/-- a call of a void method that may throw; what it throws goes on -/
theorem gw_cx (X : gw_X p s m args meth c cc nL own ret0 G) (hh : gw_bx o1 kf = some oo) (hr : vx_Run p l e R s m args below meth c H locs cells slots mc ms (F0 m pc ls st0) rest (gw_xV G H.size o1 a) (gw_XC G H.size o1) (gw_A G H.size)) (hS : va_S (gw_A G s.heap.size) s.heap H locs) (h1 : cells + mc ≤ K) (h2 : slots + ms ≤ N)
    (kk : ∀ (u : gw_S) (H1 : Heap) (locs1 : List Loc), kf u = some oo → gw_P G u H1 → va_S (gw_A G s.heap.size) s.heap H1 locs1 → W p l e R s m args below meth c H1 locs1 (cells + mc) (slots + ms) (vx_MQ below Qd (gw_XC G s.heap.size oo) args s K N (gw_A G s.heap.size)) (F0 m (pc + 3) ls rest)) :
    W p l e R s m args below meth c H locs cells slots (vx_MQ below Qd (gw_XC G s.heap.size oo) args s K N (gw_A G s.heap.size)) (F0 m pc ls st0) := by
  refine vx_callv hr hS (fun q _ h => gw_Asub hS.1 q h) (gw_Asub hS.1) (fun q _ h => gw_Asub hS.1 q h) (fun E ce q9 u t H1 locs1 ht hvm hp hB hz hk hS1 hcell hcv hcl => ?_) (fun u t H1 locs1 ht hvm hw hB hz hk hS1 => ?_)
  · obtain ⟨hB1, hB2⟩ := hB
    subst hB1
    subst ht
    have hq : some (Sum.inr E, u) = some oo := hh
    refine vx_out (fun x hx => (X.2.2.2.2.2.2.2.2.2 x hx).elim) X.2.2.2.2.2.2.1 hcell hcv hcl (fun t2 ht2 _ => ⟨u, trivial, ⟨(Option.some.inj hq).symm, by rw [ht2]; exact hB2⟩, ?_⟩) hS1.2.2 h1 h2
    exact hS1.F ht2
  · subst hw
    subst ht
    exact kk u _ _ hh hB hS1
theorem gw_xri {v : Int32} {o : (Int32 ⊕ String) × gw_S} (X : gw_X p s m args meth c cc nL own (some .int) G) (hP : gw_P G σ' H) (hS : va_S (gw_A G s.heap.size) s.heap H locs) (h1 : cells ≤ K) (h2 : slots ≤ N) (h : some (Sum.inl v, σ') = some o) (hdg : decode cc pc = .ok (.ireturn, 1)) : W p l e R s m args below meth c H locs cells slots (vx_MQ below (gw_xI G s.heap.size o) Xd args s K N (gw_A G s.heap.size)) (F0 m pc ls [.int v]) :=
  W.widen h1 h2 (vx_ret (W.iret (v := v) X.1 X.2.1 X.2.2.2.2.2.1 (fun t ht _ => ⟨⟨v, σ', rfl, (Option.some.inj h).symm, by subst ht; exact hP⟩, hS.F ht⟩) hS.2.2 hdg X.2.2.2.2.2.2.1))
theorem gw_xrz {v : Int32} {o : (Int32 ⊕ String) × gw_S} (X : gw_X p s m args meth c cc nL own (some .boolean) G) (hP : gw_P G σ' H) (hS : va_S (gw_A G s.heap.size) s.heap H locs) (hb : gw_b v) (h1 : cells ≤ K) (h2 : slots ≤ N) (h : some (Sum.inl v, σ') = some o) (hdg : decode cc pc = .ok (.ireturn, 1)) : W p l e R s m args below meth c H locs cells slots (vx_MQ below (gw_xZ G s.heap.size o) Xd args s K N (gw_A G s.heap.size)) (F0 m pc ls [.int v]) :=
  W.widen h1 h2 (vx_ret (W.zret (v := v) X.1 X.2.1 X.2.2.2.2.2.1 hb (fun t ht _ => ⟨⟨v, σ', rfl, ⟨(Option.some.inj h).symm, hb⟩, by subst ht; exact hP⟩, hS.F ht⟩) hS.2.2 hdg X.2.2.2.2.2.2.1))
theorem gw_xrv {o : (Unit ⊕ String) × gw_S} (X : gw_X p s m args meth c cc nL own none G) (hP : gw_P G σ' H) (hS : va_S (gw_A G s.heap.size) s.heap H locs) (h1 : cells ≤ K) (h2 : slots ≤ N) (h : some (Sum.inl (), σ') = some o) (hdg : decode cc pc = .ok (.return_, 1)) : W p l e R s m args below meth c H locs cells slots (vx_MQ below (gw_xV G s.heap.size o) Xd args s K N (gw_A G s.heap.size)) (F0 m pc ls []) :=
  W.widen h1 h2 (vx_ret (W.vret X.1 X.2.1 X.2.2.2.2.2.1 (fun t ht _ => ⟨⟨σ', rfl, (Option.some.inj h).symm, by subst ht; exact hP⟩, hS.F ht⟩) hS.2.2 hdg X.2.2.2.2.2.2.1))
theorem gw_kept {H1 : Heap} (hP : gw_P G σ' H) (hk : ∀ q : Nat, q < H.size → H1[q]? = H[q]?) : gw_P G σ' H1 := fun k q hq => (hP k q hq).kept (hk _ (hP k q hq).lt)
def gw_ex : List String := ["java/lang/RuntimeException", "java/lang/Exception"]
theorem gw_exf : ∀ n ∈ gw_ex, Bundle.fit n = true := by decide +kernel
/-- the words of a throw of that class, at that place -/
def gw_E (own cls : String) (ik ic : Nat) : Prop := Cond.classLink own ik cls ∈ gw_L ∧ Cond.initialized cls ∈ gw_L ∧ (∀ w ∈ vx_atS own ic cls gw_ex, w ∈ gw_L) ∧ (∀ w ∈ Cond.classLink own ik cls :: Cond.initialized cls :: vx_atS own ic cls gw_ex, vx_ot w = true) ∧ Bundle.fit cls = true
/-- throw new E("text") -/
theorem gw_thr {cls text : String} {ik is ic i : Nat} (X : gw_X p s m args meth c cc nL own ret0 G) (hP : gw_P G σ' H) (hS : va_S (gw_A G s.heap.size) s.heap H locs) (hl : l.stackTraces = false) (hq : gw_E own cls ik ic) (hi : gw_str[i]? = some (own, is, text)) (h : some (Sum.inr cls, σ') = some oo) (hls : ls.size = nL)
    (d0 : decode cc pc = .ok (.new ik, 3)) (d3 : decode cc (pc + 3) = .ok (.dup, 1)) (d4 : decode cc (pc + 4) = .ok (.ldc is, 2)) (d6 : decode cc (pc + 6) = .ok (.invokespecial ic, 3)) (d9 : decode cc (pc + 9) = .ok (.athrow, 1))
    (hR : 5 < R.frames ∧ (rest.map fun v => v.category).sum + 82 ≤ R.locals) (hc : cells + 1 ≤ R.cells ∧ slots + 6 ≤ R.slots) (h1 : cells + 1 ≤ K) (h2 : slots + 6 ≤ N) :
    W p l e R s m args below meth c H locs cells slots (vx_MQ below Qd (gw_XC G s.heap.size oo) args s K N (gw_A G s.heap.size)) (F0 m pc ls rest) := by
  have hts := X.2.2.2.2.1
  have hZ := X.2.2.2.2.2.2.2.2.1
  have hT := X.2.2.2.2.2.2.2.1
  refine vx_throwS (names := gw_ex) X.1 X.2.1 hl X.2.2.2.1 hq.2.2.2.2 gw_exf (hts _ hq.1) (hts _ hq.2.1) (hT.2.2 i _ hi) (fun w hw => hts _ (hq.2.2.1 w hw)) hq.2.2.2.1 hZ.1 hZ.2 hS (hls.trans X.2.2.1.symm) d0 d3 d4 d6 d9 (fun x hx => (X.2.2.2.2.2.2.2.2.2 x hx).elim) hR.1 hR.2 hc.1 hc.2 X.2.2.2.2.2.2.1 (fun t _ hz hk => ⟨σ', trivial, ⟨(Option.some.inj h).symm, gw_kept hP hk⟩, ⟨Nat.le_trans hS.1 hz, fun q hq1 hq2 => (hk q (Nat.lt_of_lt_of_le hq1 hS.1)).trans (hS.2.1 q hq1 hq2)⟩⟩) hS.2.2 h1 h2
theorem gw_thrW {cls text : String} {ik is ic i : Nat} (X : gw_X p s m args meth c cc nL own ret0 G) (hP : gw_P G σ' H) (hS : va_S (gw_A G s.heap.size) s.heap H locs) (hl : l.stackTraces = false) (hq : gw_E own cls ik ic) (hi : gw_str[i]? = some (own, is, text)) (h : some (Sum.inr cls, σ') = some oo) (hls : ls.size = nL)
    (d0 : decode cc pc = .ok (.new ik, 3)) (d3 : decode cc (pc + 3) = .ok (.dup, 1)) (d4 : decode cc (pc + 4) = .ok (.ldc_w is, 3)) (d7 : decode cc (pc + 7) = .ok (.invokespecial ic, 3)) (d10 : decode cc (pc + 10) = .ok (.athrow, 1))
    (hR : 5 < R.frames ∧ (rest.map fun v => v.category).sum + 82 ≤ R.locals) (hc : cells + 1 ≤ R.cells ∧ slots + 6 ≤ R.slots) (h1 : cells + 1 ≤ K) (h2 : slots + 6 ≤ N) :
    W p l e R s m args below meth c H locs cells slots (vx_MQ below Qd (gw_XC G s.heap.size oo) args s K N (gw_A G s.heap.size)) (F0 m pc ls rest) := by
  have hts := X.2.2.2.2.1
  have hZ := X.2.2.2.2.2.2.2.2.1
  have hT := X.2.2.2.2.2.2.2.1
  refine vx_throwSW (names := gw_ex) X.1 X.2.1 hl X.2.2.2.1 hq.2.2.2.2 gw_exf (hts _ hq.1) (hts _ hq.2.1) (hT.2.2 i _ hi) (fun w hw => hts _ (hq.2.2.1 w hw)) hq.2.2.2.1 hZ.1 hZ.2 hS (hls.trans X.2.2.1.symm) d0 d3 d4 d7 d10 (fun x hx => (X.2.2.2.2.2.2.2.2.2 x hx).elim) hR.1 hR.2 hc.1 hc.2 X.2.2.2.2.2.2.1 (fun t _ hz hk => ⟨σ', trivial, ⟨(Option.some.inj h).symm, gw_kept hP hk⟩, ⟨Nat.le_trans hS.1 hz, fun q hq1 hq2 => (hk q (Nat.lt_of_lt_of_le hq1 hS.1)).trans (hS.2.1 q hq1 hq2)⟩⟩) hS.2.2 h1 h2
end GWX
end
section
/-! The fields of each class among the words; rows read and written. -/
theorem gw_pl {ws : List Cond} (ps : List Nat) (hp : ws = ps.filterMap (fun i => tables_1[i]?)) (h : ws.all gw_st = true) : ∀ w ∈ ws, w ∈ gw_L := by
  intro w hw
  have h1 := List.all_eq_true.mp h w hw
  rw [hp] at hw
  obtain ⟨i, -, hi⟩ := List.mem_filterMap.mp hw
  exact gw_tab i hi h1
theorem gw_allB {ws : List Cond} (h : ws.all vx_ot = true) : ∀ w ∈ ws, vx_ot w = true := fun w hw => List.all_eq_true.mp h w hw
theorem gx_X0 : ∀ w ∈ u_ws RX0 TX0 7, w ∈ gw_L := gw_pl [173, 174, 175, 176, 177, 178, 179] (by decide +kernel) (by decide +kernel)
theorem gx_X1 : ∀ w ∈ u_ws RX1 TX1 7, w ∈ gw_L := gw_pl [112, 114, 116, 118, 120, 122, 124] (by decide +kernel) (by decide +kernel)
theorem gx_X2 : ∀ w ∈ u_ws RX2 TX2 9, w ∈ gw_L := gw_pl [80, 82, 84, 86, 88, 90, 92, 94, 96] (by decide +kernel) (by decide +kernel)
theorem gx_X3 : ∀ w ∈ u_ws RX3 TX3 5, w ∈ gw_L := gw_pl [53, 55, 57, 59, 61] (by decide +kernel) (by decide +kernel)
theorem gx_X4 : ∀ w ∈ u_ws RX4 TX4 7, w ∈ gw_L := gw_pl [149, 151, 153, 155, 157, 159, 161] (by decide +kernel) (by decide +kernel)
theorem gx_X6 : ∀ w ∈ u_ws RX6 TX6 7, w ∈ gw_L := gw_pl [184, 185, 186, 187, 188, 189, 190] (by decide +kernel) (by decide +kernel)
theorem gx_X7 : ∀ w ∈ u_ws RX7 TX7 5, w ∈ gw_L := gw_pl [203, 205, 207, 209, 211] (by decide +kernel) (by decide +kernel)
theorem gx_X8 : ∀ w ∈ u_ws RX8 TX8 7, w ∈ gw_L := gw_pl [221, 223, 225, 227, 229, 231, 233] (by decide +kernel) (by decide +kernel)
theorem gx_pI : parseFieldDescriptor "I" = some .int := by decide +kernel
theorem gx_mm1 : Cond.static Lib.Math.max.name ∈ gw_L := gw_tab 358 (by decide +kernel) (by decide +kernel)
theorem gx_mm2 : Cond.initialized "java/lang/Math" ∈ gw_L := gw_tab 22 (by decide +kernel) (by decide +kernel)
theorem gx_mm3 : Cond.code Lib.Math.max.name Lib.Math.max.code 2 (some .int) ∈ gw_L := gw_tab 359 (by decide +kernel) (by decide +kernel)
theorem gw_lnlt (k : Nat) : gw_ln k < 2 ^ 31 := by
  unfold gw_ln
  split <;> decide
theorem gw_in {i : Int32} {n : Nat} (hn : n < 2 ^ 31) (h1 : ¬ i < 0) (h2 : ¬ Int32.ofNat n ≤ i) : vp_in i n := by
  obtain ⟨j, hj, rfl⟩ := nI_of h1
  refine vp_in_nI ?_ hn
  rcases Nat.lt_or_ge j n with q | q
  · exact q
  · exact absurd (nI_le q hj) h2
def f_X8_at (k : Nat) (i : Int32) (σ : gw_S) : Option (Int32 × gw_S) := if i < 0 then some (0, σ) else if Int32.ofNat (gw_ln k) ≤ i then some (0, σ) else some (σ k i.toNatClampNeg, σ)
def f_X8_put (k : Nat) (i v : Int32) (σ : gw_S) : Option gw_S := if i < 0 then some σ else if Int32.ofNat (gw_ln k) ≤ i then some σ else some (gw_up σ k i.toNatClampNeg v)
set_option maxHeartbeats 4000000 in
theorem gc_X8_at (l : Launch) (G : gw_G) (k : Nat) (hk : gw_row k) (i : Int32) (σ : gw_S) (o : Int32 × gw_S) (h : f_X8_at k i σ = some o) : gw_M (fun sz => gw_QI G sz o) l yX8_at cX8_at 2 (some .int) { frames := 0, cells := 0, slots := 0, locals := 0 } G [.ref (G.2.1 k), .int i] σ := by
  refine gw_en (own := RX8) (lv := [(0, .ref (G.2.1 k)), (1, .int i)]) (by decide +kernel) rfl (Nat.le_of_ble_eq_true rfl) rfl ?_
  intro p e s m below meth c ls X hl hP
  obtain ⟨hx, hb, hml, hown, hts, -, -, hT, hZ, -⟩ := id X
  have hS : va_S (gw_A G s.heap.size) s.heap s.heap [] := va_S.rf
  unfold f_X8_at at h
  refine lv_iload_n hx hb dX8_at_0 rfl (lv_at hl 1 rfl) ?_
  refine lv_if_lt (tgt := 16) hx hb dX8_at_1 (by decide) (fun c => ?_) (fun c => ?_)
  · have h := (if_pos c).symm.trans h
    refine lv_iconst (v := 0) hx hb dX8_at_16 (by decide) ?_
    exact gw_ri X hP hS h dX8_at_17
  · have h := (if_neg c).symm.trans h
    refine lv_iload_n hx hb dX8_at_4 rfl (lv_at hl 1 rfl) ?_
    refine lv_aload_n hx hb dX8_at_5 rfl (lv_at hl 0 rfl) ?_
    refine va_alen (D := G.1) hx hb hT.2.1 hP k 0 (gw_rowAt hk G σ) rfl rfl dX8_at_6 ?_
    refine lv_icmp_ge (tgt := 16) hx hb dX8_at_7 (by decide) (fun c2 => ?_) (fun c2 => ?_)
    · have h := (if_pos c2).symm.trans h
      refine lv_iconst (v := 0) hx hb dX8_at_16 (by decide) ?_
      exact gw_ri X hP hS h dX8_at_17
    · have h := (if_neg c2).symm.trans h
      refine lv_aload_n hx hb dX8_at_10 rfl (lv_at hl 0 rfl) ?_
      refine lv_iload_n hx hb dX8_at_11 rfl (lv_at hl 1 rfl) ?_
      refine va_iald (D := G.1) hx hb hT.2.1 hP k 0 (gw_rowAt hk G σ) rfl (gw_in (gw_lnlt k) c c2) dX8_at_12 ?_
      refine lv_goto (tgt := 17) hx hb dX8_at_13 (by decide) ?_
      exact gw_ri X hP hS h dX8_at_17
set_option maxHeartbeats 4000000 in
theorem gc_X8_put (l : Launch) (G : gw_G) (k : Nat) (hk : gw_row k) (i v : Int32) (σ : gw_S) (o : gw_S) (h : f_X8_put k i v σ = some o) : gw_M (fun sz => gw_QV G sz o) l yX8_put cX8_put 3 none { frames := 0, cells := 0, slots := 0, locals := 0 } G [.ref (G.2.1 k), .int i, .int v] σ := by
  refine gw_en (own := RX8) (lv := [(0, .ref (G.2.1 k)), (1, .int i), (2, .int v)]) (by decide +kernel) rfl (Nat.le_of_ble_eq_true rfl) rfl ?_
  intro p e s m below meth c ls X hl hP
  obtain ⟨hx, hb, hml, hown, hts, -, -, hT, hZ, -⟩ := id X
  have hS : va_S (gw_A G s.heap.size) s.heap s.heap [] := va_S.rf
  unfold f_X8_put at h
  refine lv_iload_n hx hb dX8_put_0 rfl (lv_at hl 1 rfl) ?_
  refine lv_if_lt (tgt := 14) hx hb dX8_put_1 (by decide) (fun c => ?_) (fun c => ?_)
  · have h := (if_pos c).symm.trans h
    exact gw_rv X hP hS h dX8_put_14
  · have h := (if_neg c).symm.trans h
    refine lv_iload_n hx hb dX8_put_4 rfl (lv_at hl 1 rfl) ?_
    refine lv_aload_n hx hb dX8_put_5 rfl (lv_at hl 0 rfl) ?_
    refine va_alen (D := G.1) hx hb hT.2.1 hP k 0 (gw_rowAt hk G σ) rfl rfl dX8_put_6 ?_
    refine lv_icmp_ge (tgt := 14) hx hb dX8_put_7 (by decide) (fun c2 => ?_) (fun c2 => ?_)
    · have h := (if_pos c2).symm.trans h
      exact gw_rv X hP hS h dX8_put_14
    · have h := (if_neg c2).symm.trans h
      refine lv_aload_n hx hb dX8_put_10 rfl (lv_at hl 0 rfl) ?_
      refine lv_iload_n hx hb dX8_put_11 rfl (lv_at hl 1 rfl) ?_
      refine lv_iload_n hx hb dX8_put_12 rfl (lv_at hl 2 rfl) ?_
      refine va_iast (D := G.1) hx hb hT.2.1 hP (gw_D hT.1 s.heap.size _) hS k 0 (gw_rowAt hk G σ) rfl (gw_in (gw_lnlt k) c c2) dX8_put_13 (fun H locs hP _ hS => ?_)
      rw [gw_rowSet hk] at hP
      exact gw_rv X hP hS h dX8_put_14
end
section
theorem gv_975 : Cond.methodLink RX8 325 yX8_isLetter ∈ gw_L := gw_tab 975 (by decide +kernel) (by decide +kernel)
theorem gv_460 : Cond.static yX8_isLetter ∈ gw_L := gw_tab 460 (by decide +kernel) (by decide +kernel)
theorem gv_461 : Cond.code yX8_isLetter cX8_isLetter 1 (some .boolean) ∈ gw_L := gw_tab 461 (by decide +kernel) (by decide +kernel)
theorem gv_1 : Cond.initialized yX8_isLetter.cls ∈ gw_L := gw_tab 1 (by decide +kernel) (by decide +kernel)
theorem gk_X8_isLetter : gw_K yX8_isLetter cX8_isLetter 1 (some .boolean) 1 := ⟨gv_461, gv_1, by decide +kernel, by decide +kernel⟩
theorem gv_251 : Cond.constant RJ6 265 (1431655765) ∈ gw_L := gw_tab 251 (by decide +kernel) (by decide +kernel)
theorem gv_252 : Cond.constant RJ6 266 (858993459) ∈ gw_L := gw_tab 252 (by decide +kernel) (by decide +kernel)
theorem gv_253 : Cond.constant RJ6 267 (252645135) ∈ gw_L := gw_tab 253 (by decide +kernel) (by decide +kernel)
theorem gv_48 : Cond.fieldLink RX3 18 "Genericwood$Order" "count" "I" ∈ gw_L := gw_tab 48 (by decide +kernel) (by decide +kernel)
theorem gv_49 : Cond.fieldLink RX3 22 "Genericwood$Order" "changes" "I" ∈ gw_L := gw_tab 49 (by decide +kernel) (by decide +kernel)
theorem gv_51 : Cond.fieldLink RX3 9 "Genericwood$Order" "downs" "[I" ∈ gw_L := gw_tab 51 (by decide +kernel) (by decide +kernel)
theorem gv_274 : Cond.methodLinkNest RX3 32 yX8_at "Genericwood" ∈ gw_L := gw_tab 274 (by decide +kernel) (by decide +kernel)
theorem gv_275 : Cond.static yX8_at ∈ gw_L := gw_tab 275 (by decide +kernel) (by decide +kernel)
theorem gv_276 : Cond.code yX8_at cX8_at 2 (some .int) ∈ gw_L := gw_tab 276 (by decide +kernel) (by decide +kernel)
theorem gk_X8_at : gw_K yX8_at cX8_at 2 (some .int) 2 := ⟨gv_276, gv_1, by decide +kernel, by decide +kernel⟩
theorem gv_273 : Cond.code yX3_down cX3_down 2 (some .int) ∈ gw_L := gw_tab 273 (by decide +kernel) (by decide +kernel)
theorem gv_2 : Cond.initialized yX3_down.cls ∈ gw_L := gw_tab 2 (by decide +kernel) (by decide +kernel)
theorem gk_X3_down : gw_K yX3_down cX3_down 2 (some .int) 1 := ⟨gv_273, gv_2, by decide +kernel, by decide +kernel⟩
theorem gv_271 : Cond.instanceMethod yX3_down ∈ gw_L := gw_tab 271 (by decide +kernel) (by decide +kernel)
theorem gv_270 : Cond.methodLink RX3 40 yX3_down ∈ gw_L := gw_tab 270 (by decide +kernel) (by decide +kernel)
theorem gv_272 : Cond.selects RX3 yX3_down yX3_down ∈ gw_L := gw_tab 272 (by decide +kernel) (by decide +kernel)
theorem gv_277 : Cond.methodLinkNest RX3 44 yX8_contains "Genericwood" ∈ gw_L := gw_tab 277 (by decide +kernel) (by decide +kernel)
theorem gv_278 : Cond.static yX8_contains ∈ gw_L := gw_tab 278 (by decide +kernel) (by decide +kernel)
theorem gv_279 : Cond.code yX8_contains cX8_contains 2 (some .boolean) ∈ gw_L := gw_tab 279 (by decide +kernel) (by decide +kernel)
theorem gk_X8_contains : gw_K yX8_contains cX8_contains 2 (some .boolean) 2 := ⟨gv_279, gv_1, by decide +kernel, by decide +kernel⟩
theorem gv_269 : Cond.code yX3_stands cX3_stands 3 (some .boolean) ∈ gw_L := gw_tab 269 (by decide +kernel) (by decide +kernel)
theorem gk_X3_stands : gw_K yX3_stands cX3_stands 3 (some .boolean) 2 := ⟨gv_269, gv_2, by decide +kernel, by decide +kernel⟩
theorem gv_267 : Cond.instanceMethod yX3_stands ∈ gw_L := gw_tab 267 (by decide +kernel) (by decide +kernel)
theorem gv_689 : Cond.methodLink RX3 36 yX3_stands ∈ gw_L := gw_tab 689 (by decide +kernel) (by decide +kernel)
theorem gv_268 : Cond.selects RX3 yX3_stands yX3_stands ∈ gw_L := gw_tab 268 (by decide +kernel) (by decide +kernel)
theorem gv_50 : Cond.fieldLink RX3 29 "Genericwood$Order" "ends" "I" ∈ gw_L := gw_tab 50 (by decide +kernel) (by decide +kernel)
theorem gv_631 : Cond.methodLinkNest RX3 25 yX8_put "Genericwood" ∈ gw_L := gw_tab 631 (by decide +kernel) (by decide +kernel)
theorem gv_403 : Cond.static yX8_put ∈ gw_L := gw_tab 403 (by decide +kernel) (by decide +kernel)
theorem gv_404 : Cond.code yX8_put cX8_put 3 none ∈ gw_L := gw_tab 404 (by decide +kernel) (by decide +kernel)
theorem gk_X8_put : gw_K yX8_put cX8_put 3 none 3 := ⟨gv_404, gv_1, by decide +kernel, by decide +kernel⟩
theorem gv_694 : Cond.methodLink RX3 47 yJ6_bitCount_0f7a4 ∈ gw_L := gw_tab 694 (by decide +kernel) (by decide +kernel)
theorem gv_249 : Cond.static yJ6_bitCount_0f7a4 ∈ gw_L := gw_tab 249 (by decide +kernel) (by decide +kernel)
theorem gv_250 : Cond.code yJ6_bitCount_0f7a4 cJ6_bitCount_0f7a4 1 (some .int) ∈ gw_L := gw_tab 250 (by decide +kernel) (by decide +kernel)
theorem gv_19 : Cond.initialized yJ6_bitCount_0f7a4.cls ∈ gw_L := gw_tab 19 (by decide +kernel) (by decide +kernel)
theorem gk_J6_bitCount_0f7a4 : gw_K yJ6_bitCount_0f7a4 cJ6_bitCount_0f7a4 1 (some .int) 1 := ⟨gv_250, gv_19, by decide +kernel, by decide +kernel⟩
theorem gv_52 : Cond.fieldLink RX3 15 "Genericwood$Order" "images" "[I" ∈ gw_L := gw_tab 52 (by decide +kernel) (by decide +kernel)
theorem gv_505 : Cond.code yX3_image cX3_image 2 (some .int) ∈ gw_L := gw_tab 505 (by decide +kernel) (by decide +kernel)
theorem gk_X3_image : gw_K yX3_image cX3_image 2 (some .int) 1 := ⟨gv_505, gv_2, by decide +kernel, by decide +kernel⟩
theorem gv_503 : Cond.instanceMethod yX3_image ∈ gw_L := gw_tab 503 (by decide +kernel) (by decide +kernel)
theorem gv_1103 : Cond.methodLink RX3 52 yX3_image ∈ gw_L := gw_tab 1103 (by decide +kernel) (by decide +kernel)
theorem gv_504 : Cond.selects RX3 yX3_image yX3_image ∈ gw_L := gw_tab 504 (by decide +kernel) (by decide +kernel)
def f_X8_contains (a0 : Int32) (a1 : Int32) (σ : gw_S) : Option (Int32 × gw_S) := (if a1 < 0 then (some ((0 : Int32), σ)) else (if (32 : Int32) ≤ a1 then (some ((0 : Int32), σ)) else (if (((a0).toUInt32 >>> ((a1).toUInt32 &&& Int32.toUInt32 31)).toInt32 &&& (1 : Int32)) = 0 then (some ((0 : Int32), σ)) else (some ((1 : Int32), σ)))))
set_option maxHeartbeats 4000000 in
set_option maxRecDepth 100000 in
theorem gc_X8_contains (l : Launch) (G : gw_G) (a0 : Int32) (a1 : Int32) (σ : gw_S) (o : (Int32 × gw_S)) (h : f_X8_contains a0 a1 σ = some o) : gw_M (fun sz => gw_QZ G sz o) l yX8_contains cX8_contains 2 (some .boolean) { frames := 0, cells := 0, slots := 0, locals := 0 } G [.int a0, .int a1] σ := by
  refine gw_en (own := RX8) (lv := [(0, .int a0), (1, .int a1)]) (by decide +kernel) rfl (Nat.le_of_ble_eq_true rfl) rfl ?_
  intro p e s m below meth c ls X hl hP
  obtain ⟨hx, hb, hml, hown, hts, -, -, hT, hZ, -⟩ := id X
  have hS : va_S (gw_A G s.heap.size) s.heap s.heap [] := va_S.rf
  unfold f_X8_contains at h
  refine lv_iload_n hx hb dX8_contains_0 rfl (lv_at hl 1 rfl) ?_
  refine lv_if_lt (tgt := 22) hx hb dX8_contains_1 (by decide) (fun c => ?_) (fun c => ?_)
  · have h := (if_pos c).symm.trans h
    refine lv_iconst (v := 0) hx hb dX8_contains_22 (by decide) ?_
    exact gw_rz X hP hS rfl h dX8_contains_23
  · have h := (if_neg c).symm.trans h
    refine lv_iload_n hx hb dX8_contains_4 rfl (lv_at hl 1 rfl) ?_
    refine lv_bipush (v := 32) hx hb dX8_contains_5 (by decide) ?_
    refine lv_icmp_ge (tgt := 22) hx hb dX8_contains_7 (by decide) (fun c => ?_) (fun c => ?_)
    · have h := (if_pos c).symm.trans h
      refine lv_iconst (v := 0) hx hb dX8_contains_22 (by decide) ?_
      exact gw_rz X hP hS rfl h dX8_contains_23
    · have h := (if_neg c).symm.trans h
      refine lv_iload_n hx hb dX8_contains_10 rfl (lv_at hl 0 rfl) ?_
      refine lv_iload_n hx hb dX8_contains_11 rfl (lv_at hl 1 rfl) ?_
      refine lv_iushr hx hb dX8_contains_12 rfl ?_
      refine lv_iconst (v := 1) hx hb dX8_contains_13 (by decide) ?_
      refine lv_iand hx hb dX8_contains_14 ?_
      refine lv_if_eq (tgt := 22) hx hb dX8_contains_15 (by decide) (fun c => ?_) (fun c => ?_)
      · have h := (if_pos c).symm.trans h
        refine lv_iconst (v := 0) hx hb dX8_contains_22 (by decide) ?_
        exact gw_rz X hP hS rfl h dX8_contains_23
      · have h := (if_neg c).symm.trans h
        refine lv_iconst (v := 1) hx hb dX8_contains_18 (by decide) ?_
        refine lv_goto (tgt := 23) hx hb dX8_contains_19 (by decide) ?_
        exact gw_rz X hP hS rfl h dX8_contains_23
def f_X8_isPart (a0 : Int32) (a1 : Int32) (σ : gw_S) : Option (Int32 × gw_S) := (if (a0 &&& (a1 ^^^ (-1 : Int32))) = 0 then (some ((1 : Int32), σ)) else (some ((0 : Int32), σ)))
set_option maxHeartbeats 4000000 in
set_option maxRecDepth 100000 in
theorem gc_X8_isPart (l : Launch) (G : gw_G) (a0 : Int32) (a1 : Int32) (σ : gw_S) (o : (Int32 × gw_S)) (h : f_X8_isPart a0 a1 σ = some o) : gw_M (fun sz => gw_QZ G sz o) l yX8_isPart cX8_isPart 2 (some .boolean) { frames := 0, cells := 0, slots := 0, locals := 0 } G [.int a0, .int a1] σ := by
  refine gw_en (own := RX8) (lv := [(0, .int a0), (1, .int a1)]) (by decide +kernel) rfl (Nat.le_of_ble_eq_true rfl) rfl ?_
  intro p e s m below meth c ls X hl hP
  obtain ⟨hx, hb, hml, hown, hts, -, -, hT, hZ, -⟩ := id X
  have hS : va_S (gw_A G s.heap.size) s.heap s.heap [] := va_S.rf
  unfold f_X8_isPart at h
  refine lv_iload_n hx hb dX8_isPart_0 rfl (lv_at hl 0 rfl) ?_
  refine lv_iload_n hx hb dX8_isPart_1 rfl (lv_at hl 1 rfl) ?_
  refine lv_iconst (v := -1) hx hb dX8_isPart_2 (by decide) ?_
  refine lv_ixor hx hb dX8_isPart_3 ?_
  refine lv_iand hx hb dX8_isPart_4 ?_
  refine lv_if_ne (tgt := 12) hx hb dX8_isPart_5 (by decide) (fun c => ?_) (fun c => ?_)
  · have h := (if_neg c).symm.trans h
    refine lv_iconst (v := 0) hx hb dX8_isPart_12 (by decide) ?_
    exact gw_rz X hP hS rfl h dX8_isPart_13
  · have h := (if_pos c).symm.trans h
    refine lv_iconst (v := 1) hx hb dX8_isPart_8 (by decide) ?_
    refine lv_goto (tgt := 13) hx hb dX8_isPart_9 (by decide) ?_
    exact gw_rz X hP hS rfl h dX8_isPart_13
def f_X8_isLetter (a0 : Int32) (σ : gw_S) : Option (Int32 × gw_S) := (if a0 < (100 : Int32) then (some ((0 : Int32), σ)) else (if (104 : Int32) ≤ a0 then (some ((0 : Int32), σ)) else (some ((1 : Int32), σ))))
set_option maxHeartbeats 4000000 in
set_option maxRecDepth 100000 in
theorem gc_X8_isLetter (l : Launch) (G : gw_G) (a0 : Int32) (σ : gw_S) (o : (Int32 × gw_S)) (h : f_X8_isLetter a0 σ = some o) : gw_M (fun sz => gw_QZ G sz o) l yX8_isLetter cX8_isLetter 1 (some .boolean) { frames := 0, cells := 0, slots := 0, locals := 0 } G [.int a0] σ := by
  refine gw_en (own := RX8) (lv := [(0, .int a0)]) (by decide +kernel) rfl (Nat.le_of_ble_eq_true rfl) rfl ?_
  intro p e s m below meth c ls X hl hP
  obtain ⟨hx, hb, hml, hown, hts, -, -, hT, hZ, -⟩ := id X
  have hS : va_S (gw_A G s.heap.size) s.heap s.heap [] := va_S.rf
  unfold f_X8_isLetter at h
  refine lv_iload_n hx hb dX8_isLetter_0 rfl (lv_at hl 0 rfl) ?_
  refine lv_bipush (v := 100) hx hb dX8_isLetter_1 (by decide) ?_
  refine lv_icmp_lt (tgt := 16) hx hb dX8_isLetter_3 (by decide) (fun c => ?_) (fun c => ?_)
  · have h := (if_pos c).symm.trans h
    refine lv_iconst (v := 0) hx hb dX8_isLetter_16 (by decide) ?_
    exact gw_rz X hP hS rfl h dX8_isLetter_17
  · have h := (if_neg c).symm.trans h
    refine lv_iload_n hx hb dX8_isLetter_6 rfl (lv_at hl 0 rfl) ?_
    refine lv_bipush (v := 104) hx hb dX8_isLetter_7 (by decide) ?_
    refine lv_icmp_ge (tgt := 16) hx hb dX8_isLetter_9 (by decide) (fun c => ?_) (fun c => ?_)
    · have h := (if_pos c).symm.trans h
      refine lv_iconst (v := 0) hx hb dX8_isLetter_16 (by decide) ?_
      exact gw_rz X hP hS rfl h dX8_isLetter_17
    · have h := (if_neg c).symm.trans h
      refine lv_iconst (v := 1) hx hb dX8_isLetter_12 (by decide) ?_
      refine lv_goto (tgt := 17) hx hb dX8_isLetter_13 (by decide) ?_
      exact gw_rz X hP hS rfl h dX8_isLetter_17
def f_X8_letterOf (a0 : Int32) (σ : gw_S) : Option (Int32 × gw_S) := ((f_X8_isLetter a0 σ).bind fun p1 => (if p1.1 = 0 then (some ((0 : Int32), p1.2)) else (some (((1 : Int32) <<< ((a0 - (100 : Int32)) &&& 31)), p1.2))))
set_option maxHeartbeats 4000000 in
set_option maxRecDepth 100000 in
theorem gc_X8_letterOf (l : Launch) (G : gw_G) (a0 : Int32) (σ : gw_S) (o : (Int32 × gw_S)) (h : f_X8_letterOf a0 σ = some o) : gw_M (fun sz => gw_QI G sz o) l yX8_letterOf cX8_letterOf 1 (some .int) { frames := 1, cells := 0, slots := 0, locals := 20 } G [.int a0] σ := by
  refine gw_en (own := RX8) (lv := [(0, .int a0)]) (by decide +kernel) rfl (Nat.le_of_ble_eq_true rfl) rfl ?_
  intro p e s m below meth c ls X hl hP
  obtain ⟨hx, hb, hml, hown, hts, -, -, hT, hZ, -⟩ := id X
  have hS : va_S (gw_A G s.heap.size) s.heap s.heap [] := va_S.rf
  unfold f_X8_letterOf at h
  refine lv_iload_n hx hb dX8_letterOf_0 rfl (lv_at hl 0 rfl) ?_
  obtain ⟨p1, gp1, h⟩ := Option.bind_eq_some_iff.mp h
  refine gw_cz (gw_rS X hP hS (gc_X8_isLetter l G a0 σ _ gp1) gk_X8_isLetter gv_975 gv_460 rfl rfl (Nat.le_of_ble_eq_true rfl) hl.1 ⟨rfl, rfl⟩ ⟨Nat.le_of_ble_eq_true rfl, Nat.le_of_ble_eq_true rfl⟩ ⟨Nat.le_of_ble_eq_true rfl, Nat.le_of_ble_eq_true rfl⟩ dX8_letterOf_1) hS (fun H locs hb_p1 hP hS => ?_)
  refine lv_if_eq (tgt := 16) hx hb dX8_letterOf_4 (by decide) (fun c => ?_) (fun c => ?_)
  · have h := (if_pos c).symm.trans h
    refine lv_iconst (v := 0) hx hb dX8_letterOf_16 (by decide) ?_
    exact gw_ri X hP hS h dX8_letterOf_17
  · have h := (if_neg c).symm.trans h
    refine lv_iconst (v := 1) hx hb dX8_letterOf_7 (by decide) ?_
    refine lv_iload_n hx hb dX8_letterOf_8 rfl (lv_at hl 0 rfl) ?_
    refine lv_bipush (v := 100) hx hb dX8_letterOf_9 (by decide) ?_
    refine lv_isub hx hb dX8_letterOf_11 ?_
    refine lv_ishl hx hb dX8_letterOf_12 ?_
    refine lv_goto (tgt := 17) hx hb dX8_letterOf_13 (by decide) ?_
    exact gw_ri X hP hS h dX8_letterOf_17
def f_J6_bitCount_0f7a4 (a0 : Int32) (σ : gw_S) : Option (Int32 × gw_S) := (some (((((((((a0 - (((a0).toUInt32 >>> (((1 : Int32)).toUInt32 &&& Int32.toUInt32 31)).toInt32 &&& (1431655765 : Int32))) &&& (858993459 : Int32)) + ((((a0 - (((a0).toUInt32 >>> (((1 : Int32)).toUInt32 &&& Int32.toUInt32 31)).toInt32 &&& (1431655765 : Int32)))).toUInt32 >>> (((2 : Int32)).toUInt32 &&& Int32.toUInt32 31)).toInt32 &&& (858993459 : Int32))) + (((((a0 - (((a0).toUInt32 >>> (((1 : Int32)).toUInt32 &&& Int32.toUInt32 31)).toInt32 &&& (1431655765 : Int32))) &&& (858993459 : Int32)) + ((((a0 - (((a0).toUInt32 >>> (((1 : Int32)).toUInt32 &&& Int32.toUInt32 31)).toInt32 &&& (1431655765 : Int32)))).toUInt32 >>> (((2 : Int32)).toUInt32 &&& Int32.toUInt32 31)).toInt32 &&& (858993459 : Int32)))).toUInt32 >>> (((4 : Int32)).toUInt32 &&& Int32.toUInt32 31)).toInt32) &&& (252645135 : Int32)) + (((((((a0 - (((a0).toUInt32 >>> (((1 : Int32)).toUInt32 &&& Int32.toUInt32 31)).toInt32 &&& (1431655765 : Int32))) &&& (858993459 : Int32)) + ((((a0 - (((a0).toUInt32 >>> (((1 : Int32)).toUInt32 &&& Int32.toUInt32 31)).toInt32 &&& (1431655765 : Int32)))).toUInt32 >>> (((2 : Int32)).toUInt32 &&& Int32.toUInt32 31)).toInt32 &&& (858993459 : Int32))) + (((((a0 - (((a0).toUInt32 >>> (((1 : Int32)).toUInt32 &&& Int32.toUInt32 31)).toInt32 &&& (1431655765 : Int32))) &&& (858993459 : Int32)) + ((((a0 - (((a0).toUInt32 >>> (((1 : Int32)).toUInt32 &&& Int32.toUInt32 31)).toInt32 &&& (1431655765 : Int32)))).toUInt32 >>> (((2 : Int32)).toUInt32 &&& Int32.toUInt32 31)).toInt32 &&& (858993459 : Int32)))).toUInt32 >>> (((4 : Int32)).toUInt32 &&& Int32.toUInt32 31)).toInt32) &&& (252645135 : Int32))).toUInt32 >>> (((8 : Int32)).toUInt32 &&& Int32.toUInt32 31)).toInt32) + ((((((((a0 - (((a0).toUInt32 >>> (((1 : Int32)).toUInt32 &&& Int32.toUInt32 31)).toInt32 &&& (1431655765 : Int32))) &&& (858993459 : Int32)) + ((((a0 - (((a0).toUInt32 >>> (((1 : Int32)).toUInt32 &&& Int32.toUInt32 31)).toInt32 &&& (1431655765 : Int32)))).toUInt32 >>> (((2 : Int32)).toUInt32 &&& Int32.toUInt32 31)).toInt32 &&& (858993459 : Int32))) + (((((a0 - (((a0).toUInt32 >>> (((1 : Int32)).toUInt32 &&& Int32.toUInt32 31)).toInt32 &&& (1431655765 : Int32))) &&& (858993459 : Int32)) + ((((a0 - (((a0).toUInt32 >>> (((1 : Int32)).toUInt32 &&& Int32.toUInt32 31)).toInt32 &&& (1431655765 : Int32)))).toUInt32 >>> (((2 : Int32)).toUInt32 &&& Int32.toUInt32 31)).toInt32 &&& (858993459 : Int32)))).toUInt32 >>> (((4 : Int32)).toUInt32 &&& Int32.toUInt32 31)).toInt32) &&& (252645135 : Int32)) + (((((((a0 - (((a0).toUInt32 >>> (((1 : Int32)).toUInt32 &&& Int32.toUInt32 31)).toInt32 &&& (1431655765 : Int32))) &&& (858993459 : Int32)) + ((((a0 - (((a0).toUInt32 >>> (((1 : Int32)).toUInt32 &&& Int32.toUInt32 31)).toInt32 &&& (1431655765 : Int32)))).toUInt32 >>> (((2 : Int32)).toUInt32 &&& Int32.toUInt32 31)).toInt32 &&& (858993459 : Int32))) + (((((a0 - (((a0).toUInt32 >>> (((1 : Int32)).toUInt32 &&& Int32.toUInt32 31)).toInt32 &&& (1431655765 : Int32))) &&& (858993459 : Int32)) + ((((a0 - (((a0).toUInt32 >>> (((1 : Int32)).toUInt32 &&& Int32.toUInt32 31)).toInt32 &&& (1431655765 : Int32)))).toUInt32 >>> (((2 : Int32)).toUInt32 &&& Int32.toUInt32 31)).toInt32 &&& (858993459 : Int32)))).toUInt32 >>> (((4 : Int32)).toUInt32 &&& Int32.toUInt32 31)).toInt32) &&& (252645135 : Int32))).toUInt32 >>> (((8 : Int32)).toUInt32 &&& Int32.toUInt32 31)).toInt32)).toUInt32 >>> (((16 : Int32)).toUInt32 &&& Int32.toUInt32 31)).toInt32) &&& (63 : Int32)), σ))
set_option maxHeartbeats 4000000 in
set_option maxRecDepth 100000 in
theorem gc_J6_bitCount_0f7a4 (l : Launch) (G : gw_G) (a0 : Int32) (σ : gw_S) (o : (Int32 × gw_S)) (h : f_J6_bitCount_0f7a4 a0 σ = some o) : gw_M (fun sz => gw_QI G sz o) l yJ6_bitCount_0f7a4 cJ6_bitCount_0f7a4 1 (some .int) { frames := 0, cells := 0, slots := 0, locals := 0 } G [.int a0] σ := by
  refine gw_en (own := RJ6) (lv := [(0, .int a0)]) (by decide +kernel) rfl (Nat.le_of_ble_eq_true rfl) rfl ?_
  intro p e s m below meth c ls X hl hP
  obtain ⟨hx, hb, hml, hown, hts, -, -, hT, hZ, -⟩ := id X
  have hS : va_S (gw_A G s.heap.size) s.heap s.heap [] := va_S.rf
  unfold f_J6_bitCount_0f7a4 at h
  refine lv_iload_n hx hb dJ6_bitCount_0f7a4_0 rfl (lv_at hl 0 rfl) ?_
  refine lv_iload_n hx hb dJ6_bitCount_0f7a4_1 rfl (lv_at hl 0 rfl) ?_
  refine lv_iconst (v := 1) hx hb dJ6_bitCount_0f7a4_2 (by decide) ?_
  refine lv_iushr hx hb dJ6_bitCount_0f7a4_3 rfl ?_
  refine lv_ldcw (v := 1431655765) hx hb hown (hts _ gv_251) dJ6_bitCount_0f7a4_4 ?_
  refine lv_iand hx hb dJ6_bitCount_0f7a4_7 ?_
  refine lv_isub hx hb dJ6_bitCount_0f7a4_8 ?_
  refine lv_istore_n (lv' := [(0, .int (a0 - (((a0).toUInt32 >>> (((1 : Int32)).toUInt32 &&& Int32.toUInt32 31)).toInt32 &&& (1431655765 : Int32))))]) hx hb dJ6_bitCount_0f7a4_9 rfl hl (by decide) rfl (fun ls hl => ?_)
  refine lv_iload_n hx hb dJ6_bitCount_0f7a4_10 rfl (lv_at hl 0 rfl) ?_
  refine lv_ldcw (v := 858993459) hx hb hown (hts _ gv_252) dJ6_bitCount_0f7a4_11 ?_
  refine lv_iand hx hb dJ6_bitCount_0f7a4_14 ?_
  refine lv_iload_n hx hb dJ6_bitCount_0f7a4_15 rfl (lv_at hl 0 rfl) ?_
  refine lv_iconst (v := 2) hx hb dJ6_bitCount_0f7a4_16 (by decide) ?_
  refine lv_iushr hx hb dJ6_bitCount_0f7a4_17 rfl ?_
  refine lv_ldcw (v := 858993459) hx hb hown (hts _ gv_252) dJ6_bitCount_0f7a4_18 ?_
  refine lv_iand hx hb dJ6_bitCount_0f7a4_21 ?_
  refine lv_iadd hx hb dJ6_bitCount_0f7a4_22 ?_
  refine lv_istore_n (lv' := [(0, .int (((a0 - (((a0).toUInt32 >>> (((1 : Int32)).toUInt32 &&& Int32.toUInt32 31)).toInt32 &&& (1431655765 : Int32))) &&& (858993459 : Int32)) + ((((a0 - (((a0).toUInt32 >>> (((1 : Int32)).toUInt32 &&& Int32.toUInt32 31)).toInt32 &&& (1431655765 : Int32)))).toUInt32 >>> (((2 : Int32)).toUInt32 &&& Int32.toUInt32 31)).toInt32 &&& (858993459 : Int32))))]) hx hb dJ6_bitCount_0f7a4_23 rfl hl (by decide) rfl (fun ls hl => ?_)
  refine lv_iload_n hx hb dJ6_bitCount_0f7a4_24 rfl (lv_at hl 0 rfl) ?_
  refine lv_iload_n hx hb dJ6_bitCount_0f7a4_25 rfl (lv_at hl 0 rfl) ?_
  refine lv_iconst (v := 4) hx hb dJ6_bitCount_0f7a4_26 (by decide) ?_
  refine lv_iushr hx hb dJ6_bitCount_0f7a4_27 rfl ?_
  refine lv_iadd hx hb dJ6_bitCount_0f7a4_28 ?_
  refine lv_ldcw (v := 252645135) hx hb hown (hts _ gv_253) dJ6_bitCount_0f7a4_29 ?_
  refine lv_iand hx hb dJ6_bitCount_0f7a4_32 ?_
  refine lv_istore_n (lv' := [(0, .int (((((a0 - (((a0).toUInt32 >>> (((1 : Int32)).toUInt32 &&& Int32.toUInt32 31)).toInt32 &&& (1431655765 : Int32))) &&& (858993459 : Int32)) + ((((a0 - (((a0).toUInt32 >>> (((1 : Int32)).toUInt32 &&& Int32.toUInt32 31)).toInt32 &&& (1431655765 : Int32)))).toUInt32 >>> (((2 : Int32)).toUInt32 &&& Int32.toUInt32 31)).toInt32 &&& (858993459 : Int32))) + (((((a0 - (((a0).toUInt32 >>> (((1 : Int32)).toUInt32 &&& Int32.toUInt32 31)).toInt32 &&& (1431655765 : Int32))) &&& (858993459 : Int32)) + ((((a0 - (((a0).toUInt32 >>> (((1 : Int32)).toUInt32 &&& Int32.toUInt32 31)).toInt32 &&& (1431655765 : Int32)))).toUInt32 >>> (((2 : Int32)).toUInt32 &&& Int32.toUInt32 31)).toInt32 &&& (858993459 : Int32)))).toUInt32 >>> (((4 : Int32)).toUInt32 &&& Int32.toUInt32 31)).toInt32) &&& (252645135 : Int32)))]) hx hb dJ6_bitCount_0f7a4_33 rfl hl (by decide) rfl (fun ls hl => ?_)
  refine lv_iload_n hx hb dJ6_bitCount_0f7a4_34 rfl (lv_at hl 0 rfl) ?_
  refine lv_iload_n hx hb dJ6_bitCount_0f7a4_35 rfl (lv_at hl 0 rfl) ?_
  refine lv_bipush (v := 8) hx hb dJ6_bitCount_0f7a4_36 (by decide) ?_
  refine lv_iushr hx hb dJ6_bitCount_0f7a4_38 rfl ?_
  refine lv_iadd hx hb dJ6_bitCount_0f7a4_39 ?_
  refine lv_istore_n (lv' := [(0, .int ((((((a0 - (((a0).toUInt32 >>> (((1 : Int32)).toUInt32 &&& Int32.toUInt32 31)).toInt32 &&& (1431655765 : Int32))) &&& (858993459 : Int32)) + ((((a0 - (((a0).toUInt32 >>> (((1 : Int32)).toUInt32 &&& Int32.toUInt32 31)).toInt32 &&& (1431655765 : Int32)))).toUInt32 >>> (((2 : Int32)).toUInt32 &&& Int32.toUInt32 31)).toInt32 &&& (858993459 : Int32))) + (((((a0 - (((a0).toUInt32 >>> (((1 : Int32)).toUInt32 &&& Int32.toUInt32 31)).toInt32 &&& (1431655765 : Int32))) &&& (858993459 : Int32)) + ((((a0 - (((a0).toUInt32 >>> (((1 : Int32)).toUInt32 &&& Int32.toUInt32 31)).toInt32 &&& (1431655765 : Int32)))).toUInt32 >>> (((2 : Int32)).toUInt32 &&& Int32.toUInt32 31)).toInt32 &&& (858993459 : Int32)))).toUInt32 >>> (((4 : Int32)).toUInt32 &&& Int32.toUInt32 31)).toInt32) &&& (252645135 : Int32)) + (((((((a0 - (((a0).toUInt32 >>> (((1 : Int32)).toUInt32 &&& Int32.toUInt32 31)).toInt32 &&& (1431655765 : Int32))) &&& (858993459 : Int32)) + ((((a0 - (((a0).toUInt32 >>> (((1 : Int32)).toUInt32 &&& Int32.toUInt32 31)).toInt32 &&& (1431655765 : Int32)))).toUInt32 >>> (((2 : Int32)).toUInt32 &&& Int32.toUInt32 31)).toInt32 &&& (858993459 : Int32))) + (((((a0 - (((a0).toUInt32 >>> (((1 : Int32)).toUInt32 &&& Int32.toUInt32 31)).toInt32 &&& (1431655765 : Int32))) &&& (858993459 : Int32)) + ((((a0 - (((a0).toUInt32 >>> (((1 : Int32)).toUInt32 &&& Int32.toUInt32 31)).toInt32 &&& (1431655765 : Int32)))).toUInt32 >>> (((2 : Int32)).toUInt32 &&& Int32.toUInt32 31)).toInt32 &&& (858993459 : Int32)))).toUInt32 >>> (((4 : Int32)).toUInt32 &&& Int32.toUInt32 31)).toInt32) &&& (252645135 : Int32))).toUInt32 >>> (((8 : Int32)).toUInt32 &&& Int32.toUInt32 31)).toInt32))]) hx hb dJ6_bitCount_0f7a4_40 rfl hl (by decide) rfl (fun ls hl => ?_)
  refine lv_iload_n hx hb dJ6_bitCount_0f7a4_41 rfl (lv_at hl 0 rfl) ?_
  refine lv_iload_n hx hb dJ6_bitCount_0f7a4_42 rfl (lv_at hl 0 rfl) ?_
  refine lv_bipush (v := 16) hx hb dJ6_bitCount_0f7a4_43 (by decide) ?_
  refine lv_iushr hx hb dJ6_bitCount_0f7a4_45 rfl ?_
  refine lv_iadd hx hb dJ6_bitCount_0f7a4_46 ?_
  refine lv_istore_n (lv' := [(0, .int (((((((a0 - (((a0).toUInt32 >>> (((1 : Int32)).toUInt32 &&& Int32.toUInt32 31)).toInt32 &&& (1431655765 : Int32))) &&& (858993459 : Int32)) + ((((a0 - (((a0).toUInt32 >>> (((1 : Int32)).toUInt32 &&& Int32.toUInt32 31)).toInt32 &&& (1431655765 : Int32)))).toUInt32 >>> (((2 : Int32)).toUInt32 &&& Int32.toUInt32 31)).toInt32 &&& (858993459 : Int32))) + (((((a0 - (((a0).toUInt32 >>> (((1 : Int32)).toUInt32 &&& Int32.toUInt32 31)).toInt32 &&& (1431655765 : Int32))) &&& (858993459 : Int32)) + ((((a0 - (((a0).toUInt32 >>> (((1 : Int32)).toUInt32 &&& Int32.toUInt32 31)).toInt32 &&& (1431655765 : Int32)))).toUInt32 >>> (((2 : Int32)).toUInt32 &&& Int32.toUInt32 31)).toInt32 &&& (858993459 : Int32)))).toUInt32 >>> (((4 : Int32)).toUInt32 &&& Int32.toUInt32 31)).toInt32) &&& (252645135 : Int32)) + (((((((a0 - (((a0).toUInt32 >>> (((1 : Int32)).toUInt32 &&& Int32.toUInt32 31)).toInt32 &&& (1431655765 : Int32))) &&& (858993459 : Int32)) + ((((a0 - (((a0).toUInt32 >>> (((1 : Int32)).toUInt32 &&& Int32.toUInt32 31)).toInt32 &&& (1431655765 : Int32)))).toUInt32 >>> (((2 : Int32)).toUInt32 &&& Int32.toUInt32 31)).toInt32 &&& (858993459 : Int32))) + (((((a0 - (((a0).toUInt32 >>> (((1 : Int32)).toUInt32 &&& Int32.toUInt32 31)).toInt32 &&& (1431655765 : Int32))) &&& (858993459 : Int32)) + ((((a0 - (((a0).toUInt32 >>> (((1 : Int32)).toUInt32 &&& Int32.toUInt32 31)).toInt32 &&& (1431655765 : Int32)))).toUInt32 >>> (((2 : Int32)).toUInt32 &&& Int32.toUInt32 31)).toInt32 &&& (858993459 : Int32)))).toUInt32 >>> (((4 : Int32)).toUInt32 &&& Int32.toUInt32 31)).toInt32) &&& (252645135 : Int32))).toUInt32 >>> (((8 : Int32)).toUInt32 &&& Int32.toUInt32 31)).toInt32) + ((((((((a0 - (((a0).toUInt32 >>> (((1 : Int32)).toUInt32 &&& Int32.toUInt32 31)).toInt32 &&& (1431655765 : Int32))) &&& (858993459 : Int32)) + ((((a0 - (((a0).toUInt32 >>> (((1 : Int32)).toUInt32 &&& Int32.toUInt32 31)).toInt32 &&& (1431655765 : Int32)))).toUInt32 >>> (((2 : Int32)).toUInt32 &&& Int32.toUInt32 31)).toInt32 &&& (858993459 : Int32))) + (((((a0 - (((a0).toUInt32 >>> (((1 : Int32)).toUInt32 &&& Int32.toUInt32 31)).toInt32 &&& (1431655765 : Int32))) &&& (858993459 : Int32)) + ((((a0 - (((a0).toUInt32 >>> (((1 : Int32)).toUInt32 &&& Int32.toUInt32 31)).toInt32 &&& (1431655765 : Int32)))).toUInt32 >>> (((2 : Int32)).toUInt32 &&& Int32.toUInt32 31)).toInt32 &&& (858993459 : Int32)))).toUInt32 >>> (((4 : Int32)).toUInt32 &&& Int32.toUInt32 31)).toInt32) &&& (252645135 : Int32)) + (((((((a0 - (((a0).toUInt32 >>> (((1 : Int32)).toUInt32 &&& Int32.toUInt32 31)).toInt32 &&& (1431655765 : Int32))) &&& (858993459 : Int32)) + ((((a0 - (((a0).toUInt32 >>> (((1 : Int32)).toUInt32 &&& Int32.toUInt32 31)).toInt32 &&& (1431655765 : Int32)))).toUInt32 >>> (((2 : Int32)).toUInt32 &&& Int32.toUInt32 31)).toInt32 &&& (858993459 : Int32))) + (((((a0 - (((a0).toUInt32 >>> (((1 : Int32)).toUInt32 &&& Int32.toUInt32 31)).toInt32 &&& (1431655765 : Int32))) &&& (858993459 : Int32)) + ((((a0 - (((a0).toUInt32 >>> (((1 : Int32)).toUInt32 &&& Int32.toUInt32 31)).toInt32 &&& (1431655765 : Int32)))).toUInt32 >>> (((2 : Int32)).toUInt32 &&& Int32.toUInt32 31)).toInt32 &&& (858993459 : Int32)))).toUInt32 >>> (((4 : Int32)).toUInt32 &&& Int32.toUInt32 31)).toInt32) &&& (252645135 : Int32))).toUInt32 >>> (((8 : Int32)).toUInt32 &&& Int32.toUInt32 31)).toInt32)).toUInt32 >>> (((16 : Int32)).toUInt32 &&& Int32.toUInt32 31)).toInt32))]) hx hb dJ6_bitCount_0f7a4_47 rfl hl (by decide) rfl (fun ls hl => ?_)
  refine lv_iload_n hx hb dJ6_bitCount_0f7a4_48 rfl (lv_at hl 0 rfl) ?_
  refine lv_bipush (v := 63) hx hb dJ6_bitCount_0f7a4_49 (by decide) ?_
  refine lv_iand hx hb dJ6_bitCount_0f7a4_51 ?_
  exact gw_ri X hP hS h dJ6_bitCount_0f7a4_52
def f_X3_size (σ : gw_S) : Option (Int32 × gw_S) := (some ((σ 1 0), σ))
set_option maxHeartbeats 4000000 in
set_option maxRecDepth 100000 in
theorem gc_X3_size (l : Launch) (G : gw_G) (σ : gw_S) (o : (Int32 × gw_S)) (h : f_X3_size σ = some o) : gw_M (fun sz => gw_QI G sz o) l yX3_size cX3_size 1 (some .int) { frames := 0, cells := 0, slots := 0, locals := 0 } G [.ref (G.2.1 1)] σ := by
  refine gw_en (own := RX3) (lv := [(0, .ref (G.2.1 1))]) (by decide +kernel) rfl (Nat.le_of_ble_eq_true rfl) rfl ?_
  intro p e s m below meth c ls X hl hP
  obtain ⟨hx, hb, hml, hown, hts, -, -, hT, hZ, -⟩ := id X
  have hS : va_S (gw_A G s.heap.size) s.heap s.heap [] := va_S.rf
  unfold f_X3_size at h
  refine lv_aload_n hx hb dX3_size_0 rfl (lv_at hl 0 rfl) ?_
  refine va_get (D := G.1) (ci := 6) (v := .int (σ 1 0)) (C := RX3) (T := TX3) (N := 5) hx hb hts gx_X3 hown hT.2.1 hP 1 rfl rfl 0 (by decide) (hts _ gv_48) (fun _ h9 => h9) rfl dX3_size_1 ?_
  exact gw_ri X hP hS h dX3_size_4
def f_X3_changes (σ : gw_S) : Option (Int32 × gw_S) := (some ((σ 1 1), σ))
set_option maxHeartbeats 4000000 in
set_option maxRecDepth 100000 in
theorem gc_X3_changes (l : Launch) (G : gw_G) (σ : gw_S) (o : (Int32 × gw_S)) (h : f_X3_changes σ = some o) : gw_M (fun sz => gw_QI G sz o) l yX3_changes cX3_changes 1 (some .int) { frames := 0, cells := 0, slots := 0, locals := 0 } G [.ref (G.2.1 1)] σ := by
  refine gw_en (own := RX3) (lv := [(0, .ref (G.2.1 1))]) (by decide +kernel) rfl (Nat.le_of_ble_eq_true rfl) rfl ?_
  intro p e s m below meth c ls X hl hP
  obtain ⟨hx, hb, hml, hown, hts, -, -, hT, hZ, -⟩ := id X
  have hS : va_S (gw_A G s.heap.size) s.heap s.heap [] := va_S.rf
  unfold f_X3_changes at h
  refine lv_aload_n hx hb dX3_changes_0 rfl (lv_at hl 0 rfl) ?_
  refine va_get (D := G.1) (ci := 6) (v := .int (σ 1 1)) (C := RX3) (T := TX3) (N := 5) hx hb hts gx_X3 hown hT.2.1 hP 1 rfl rfl 1 (by decide) (hts _ gv_49) (fun _ h9 => h9) rfl dX3_changes_1 ?_
  exact gw_ri X hP hS h dX3_changes_4
def f_X3_knows (a0 : Int32) (σ : gw_S) : Option (Int32 × gw_S) := (if a0 < 0 then (some ((0 : Int32), σ)) else (if (σ 1 0) ≤ a0 then (some ((0 : Int32), σ)) else (some ((1 : Int32), σ))))
set_option maxHeartbeats 4000000 in
set_option maxRecDepth 100000 in
theorem gc_X3_knows (l : Launch) (G : gw_G) (a0 : Int32) (σ : gw_S) (o : (Int32 × gw_S)) (h : f_X3_knows a0 σ = some o) : gw_M (fun sz => gw_QZ G sz o) l yX3_knows cX3_knows 2 (some .boolean) { frames := 0, cells := 0, slots := 0, locals := 0 } G [.ref (G.2.1 1), .int a0] σ := by
  refine gw_en (own := RX3) (lv := [(0, .ref (G.2.1 1)), (1, .int a0)]) (by decide +kernel) rfl (Nat.le_of_ble_eq_true rfl) rfl ?_
  intro p e s m below meth c ls X hl hP
  obtain ⟨hx, hb, hml, hown, hts, -, -, hT, hZ, -⟩ := id X
  have hS : va_S (gw_A G s.heap.size) s.heap s.heap [] := va_S.rf
  unfold f_X3_knows at h
  refine lv_iload_n hx hb dX3_knows_0 rfl (lv_at hl 1 rfl) ?_
  refine lv_if_lt (tgt := 16) hx hb dX3_knows_1 (by decide) (fun c => ?_) (fun c => ?_)
  · have h := (if_pos c).symm.trans h
    refine lv_iconst (v := 0) hx hb dX3_knows_16 (by decide) ?_
    exact gw_rz X hP hS rfl h dX3_knows_17
  · have h := (if_neg c).symm.trans h
    refine lv_iload_n hx hb dX3_knows_4 rfl (lv_at hl 1 rfl) ?_
    refine lv_aload_n hx hb dX3_knows_5 rfl (lv_at hl 0 rfl) ?_
    refine va_get (D := G.1) (ci := 6) (v := .int (σ 1 0)) (C := RX3) (T := TX3) (N := 5) hx hb hts gx_X3 hown hT.2.1 hP 1 rfl rfl 0 (by decide) (hts _ gv_48) (fun _ h9 => h9) rfl dX3_knows_6 ?_
    refine lv_icmp_ge (tgt := 16) hx hb dX3_knows_9 (by decide) (fun c => ?_) (fun c => ?_)
    · have h := (if_pos c).symm.trans h
      refine lv_iconst (v := 0) hx hb dX3_knows_16 (by decide) ?_
      exact gw_rz X hP hS rfl h dX3_knows_17
    · have h := (if_neg c).symm.trans h
      refine lv_iconst (v := 1) hx hb dX3_knows_12 (by decide) ?_
      refine lv_goto (tgt := 17) hx hb dX3_knows_13 (by decide) ?_
      exact gw_rz X hP hS rfl h dX3_knows_17
def f_X3_all (σ : gw_S) : Option (Int32 × gw_S) := (some ((((1 : Int32) <<< ((σ 1 0) &&& 31)) - (1 : Int32)), σ))
set_option maxHeartbeats 4000000 in
set_option maxRecDepth 100000 in
theorem gc_X3_all (l : Launch) (G : gw_G) (σ : gw_S) (o : (Int32 × gw_S)) (h : f_X3_all σ = some o) : gw_M (fun sz => gw_QI G sz o) l yX3_all cX3_all 1 (some .int) { frames := 0, cells := 0, slots := 0, locals := 0 } G [.ref (G.2.1 1)] σ := by
  refine gw_en (own := RX3) (lv := [(0, .ref (G.2.1 1))]) (by decide +kernel) rfl (Nat.le_of_ble_eq_true rfl) rfl ?_
  intro p e s m below meth c ls X hl hP
  obtain ⟨hx, hb, hml, hown, hts, -, -, hT, hZ, -⟩ := id X
  have hS : va_S (gw_A G s.heap.size) s.heap s.heap [] := va_S.rf
  unfold f_X3_all at h
  refine lv_iconst (v := 1) hx hb dX3_all_0 (by decide) ?_
  refine lv_aload_n hx hb dX3_all_1 rfl (lv_at hl 0 rfl) ?_
  refine va_get (D := G.1) (ci := 6) (v := .int (σ 1 0)) (C := RX3) (T := TX3) (N := 5) hx hb hts gx_X3 hown hT.2.1 hP 1 rfl rfl 0 (by decide) (hts _ gv_48) (fun _ h9 => h9) rfl dX3_all_2 ?_
  refine lv_ishl hx hb dX3_all_5 ?_
  refine lv_iconst (v := 1) hx hb dX3_all_6 (by decide) ?_
  refine lv_isub hx hb dX3_all_7 ?_
  exact gw_ri X hP hS h dX3_all_8
def f_X3_down (a0 : Int32) (σ : gw_S) : Option (Int32 × gw_S) := ((f_X8_at 2 a0 σ).bind fun p1 => (some (p1.1, p1.2)))
set_option maxHeartbeats 4000000 in
set_option maxRecDepth 100000 in
theorem gc_X3_down (l : Launch) (G : gw_G) (a0 : Int32) (σ : gw_S) (o : (Int32 × gw_S)) (h : f_X3_down a0 σ = some o) : gw_M (fun sz => gw_QI G sz o) l yX3_down cX3_down 2 (some .int) { frames := 1, cells := 0, slots := 0, locals := 21 } G [.ref (G.2.1 1), .int a0] σ := by
  refine gw_en (own := RX3) (lv := [(0, .ref (G.2.1 1)), (1, .int a0)]) (by decide +kernel) rfl (Nat.le_of_ble_eq_true rfl) rfl ?_
  intro p e s m below meth c ls X hl hP
  obtain ⟨hx, hb, hml, hown, hts, -, -, hT, hZ, -⟩ := id X
  have hS : va_S (gw_A G s.heap.size) s.heap s.heap [] := va_S.rf
  unfold f_X3_down at h
  refine lv_aload_n hx hb dX3_down_0 rfl (lv_at hl 0 rfl) ?_
  refine va_get (D := G.1) (ci := 6) (v := .ref (G.2.1 2)) (C := RX3) (T := TX3) (N := 5) hx hb hts gx_X3 hown hT.2.1 hP 1 rfl rfl 3 (by decide) (hts _ gv_51) (fun _ h9 => h9) rfl dX3_down_1 ?_
  refine lv_iload_n hx hb dX3_down_4 rfl (lv_at hl 1 rfl) ?_
  obtain ⟨p1, gp1, h⟩ := Option.bind_eq_some_iff.mp h
  refine gw_ci (gw_rN (host := "Genericwood") X hP hS (gc_X8_at l G 2 ⟨by decide, by decide⟩ a0 σ _ gp1) gk_X8_at gv_274 gv_275 rfl rfl (Nat.le_of_ble_eq_true rfl) hl.1 ⟨rfl, rfl⟩ ⟨Nat.le_of_ble_eq_true rfl, Nat.le_of_ble_eq_true rfl⟩ ⟨Nat.le_of_ble_eq_true rfl, Nat.le_of_ble_eq_true rfl⟩ dX3_down_5) hS (fun H locs hP hS => ?_)
  exact gw_ri X hP hS h dX3_down_8
def f_X3_stands (a0 : Int32) (a1 : Int32) (σ : gw_S) : Option (Int32 × gw_S) := ((f_X3_down a1 σ).bind fun p1 => ((f_X8_contains p1.1 a0 p1.2).bind fun p2 => (some (p2.1, p2.2))))
set_option maxHeartbeats 4000000 in
set_option maxRecDepth 100000 in
theorem gc_X3_stands (l : Launch) (G : gw_G) (a0 : Int32) (a1 : Int32) (σ : gw_S) (o : (Int32 × gw_S)) (h : f_X3_stands a0 a1 σ = some o) : gw_M (fun sz => gw_QZ G sz o) l yX3_stands cX3_stands 3 (some .boolean) { frames := 2, cells := 0, slots := 0, locals := 42 } G [.ref (G.2.1 1), .int a0, .int a1] σ := by
  refine gw_en (own := RX3) (lv := [(0, .ref (G.2.1 1)), (1, .int a0), (2, .int a1)]) (by decide +kernel) rfl (Nat.le_of_ble_eq_true rfl) rfl ?_
  intro p e s m below meth c ls X hl hP
  obtain ⟨hx, hb, hml, hown, hts, -, -, hT, hZ, -⟩ := id X
  have hS : va_S (gw_A G s.heap.size) s.heap s.heap [] := va_S.rf
  unfold f_X3_stands at h
  refine lv_aload_n hx hb dX3_stands_0 rfl (lv_at hl 0 rfl) ?_
  refine lv_iload_n hx hb dX3_stands_1 rfl (lv_at hl 2 rfl) ?_
  obtain ⟨p1, gp1, h⟩ := Option.bind_eq_some_iff.mp h
  refine gw_ci (gw_rV (C := RX3) X hP hS (gc_X3_down l G a1 σ _ gp1) gk_X3_down gv_270 ⟨gv_271, gv_272⟩ (va_recv hT.2.1 hP (ci := 6) (q0 := 1) rfl rfl) rfl rfl (Nat.le_of_ble_eq_true rfl) hl.1 ⟨rfl, rfl⟩ ⟨Nat.le_of_ble_eq_true rfl, Nat.le_of_ble_eq_true rfl⟩ ⟨Nat.le_of_ble_eq_true rfl, Nat.le_of_ble_eq_true rfl⟩ dX3_stands_2) hS (fun H locs hP hS => ?_)
  refine lv_iload_n hx hb dX3_stands_5 rfl (lv_at hl 1 rfl) ?_
  obtain ⟨p2, gp2, h⟩ := Option.bind_eq_some_iff.mp h
  refine gw_cz (gw_rN (host := "Genericwood") X hP hS (gc_X8_contains l G p1.1 a0 p1.2 _ gp2) gk_X8_contains gv_277 gv_278 rfl rfl (Nat.le_of_ble_eq_true rfl) hl.1 ⟨rfl, rfl⟩ ⟨Nat.le_of_ble_eq_true rfl, Nat.le_of_ble_eq_true rfl⟩ ⟨Nat.le_of_ble_eq_true rfl, Nat.le_of_ble_eq_true rfl⟩ dX3_stands_6) hS (fun H locs hb_p2 hP hS => ?_)
  exact gw_rz X hP hS hb_p2 h dX3_stands_9
def f_X3_up_L4 : Nat → Int32 → Int32 → Int32 → gw_S → Option (Int32 × gw_S)
  | 0, _, _, _, _ => none
  | n + 1, v4_1, v4_2, v4_3, σ => (if (σ 1 0) ≤ v4_3 then (some (v4_2, σ)) else ((f_X3_stands v4_1 v4_3 σ).bind fun p1 => (if p1.1 = 0 then (f_X3_up_L4 n v4_1 v4_2 (v4_3 + (1 : Int32)) p1.2) else (f_X3_up_L4 n v4_1 (v4_2 ||| ((1 : Int32) <<< (v4_3 &&& 31))) (v4_3 + (1 : Int32)) p1.2))))
def f_X3_up (a0 : Int32) (σ : gw_S) : Option (Int32 × gw_S) := (f_X3_up_L4 64 a0 (0 : Int32) (0 : Int32) σ)
set_option maxHeartbeats 4000000 in
set_option maxRecDepth 100000 in
theorem gc_X3_up (l : Launch) (G : gw_G) (a0 : Int32) (σ : gw_S) (o : (Int32 × gw_S)) (h : f_X3_up a0 σ = some o) : gw_M (fun sz => gw_QI G sz o) l yX3_up cX3_up 4 (some .int) { frames := 3, cells := 0, slots := 0, locals := 64 } G [.ref (G.2.1 1), .int a0] σ := by
  refine gw_en (own := RX3) (lv := [(0, .ref (G.2.1 1)), (1, .int a0)]) (by decide +kernel) rfl (Nat.le_of_ble_eq_true rfl) rfl ?_
  intro p e s m below meth c ls X hl hP
  obtain ⟨hx, hb, hml, hown, hts, -, -, hT, hZ, -⟩ := id X
  have hS : va_S (gw_A G s.heap.size) s.heap s.heap [] := va_S.rf
  have L4 : ∀ (n : Nat) (v4_1 : Int32) (v4_2 : Int32) (v4_3 : Int32) (σ : gw_S) (H : Heap) (locs : List Loc) (ls : Array Slot), f_X3_up_L4 n v4_1 v4_2 v4_3 σ = some o → gw_P G σ H → va_S (gw_A G s.heap.size) s.heap H locs → lv_has ls 4 [(0, .ref (G.2.1 1)), (1, .int v4_1), (2, .int v4_2), (3, .int v4_3)] → W p l e { frames := 3, cells := 0, slots := 0, locals := 64 } s m [.ref (G.2.1 1), .int a0].toArray below meth c H locs 0 0 (MQ below (gw_QI G s.heap.size o) [.ref (G.2.1 1), .int a0].toArray s 0 0 (gw_A G s.heap.size)) (F0 m 4 ls []) := by
    intro n
    induction n with
    | zero =>
      intro v4_1 v4_2 v4_3 σ H locs ls h
      exact absurd h (by rw [f_X3_up_L4.eq_1]; exact fun h => nomatch h)
    | succ n ih =>
      intro v4_1 v4_2 v4_3 σ H locs ls h hP hS hl
      rw [f_X3_up_L4.eq_2] at h
      refine lv_iload_n hx hb dX3_up_4 rfl (lv_at hl 3 rfl) ?_
      refine lv_aload_n hx hb dX3_up_5 rfl (lv_at hl 0 rfl) ?_
      refine va_get (D := G.1) (ci := 6) (v := .int (σ 1 0)) (C := RX3) (T := TX3) (N := 5) hx hb hts gx_X3 hown hT.2.1 hP 1 rfl rfl 0 (by decide) (hts _ gv_48) (fun _ h9 => h9) rfl dX3_up_6 ?_
      refine lv_icmp_ge (tgt := 33) hx hb dX3_up_9 (by decide) (fun c => ?_) (fun c => ?_)
      · have h := (if_pos c).symm.trans h
        refine lv_iload_n hx hb dX3_up_33 rfl (lv_at hl 2 rfl) ?_
        exact gw_ri X hP hS h dX3_up_34
      · have h := (if_neg c).symm.trans h
        refine lv_aload_n hx hb dX3_up_12 rfl (lv_at hl 0 rfl) ?_
        refine lv_iload_n hx hb dX3_up_13 rfl (lv_at hl 1 rfl) ?_
        refine lv_iload_n hx hb dX3_up_14 rfl (lv_at hl 3 rfl) ?_
        obtain ⟨p1, gp1, h⟩ := Option.bind_eq_some_iff.mp h
        refine gw_cz (gw_rV (C := RX3) X hP hS (gc_X3_stands l G v4_1 v4_3 σ _ gp1) gk_X3_stands gv_689 ⟨gv_267, gv_268⟩ (va_recv hT.2.1 hP (ci := 6) (q0 := 1) rfl rfl) rfl rfl (Nat.le_of_ble_eq_true rfl) hl.1 ⟨rfl, rfl⟩ ⟨Nat.le_of_ble_eq_true rfl, Nat.le_of_ble_eq_true rfl⟩ ⟨Nat.le_of_ble_eq_true rfl, Nat.le_of_ble_eq_true rfl⟩ dX3_up_15) hS (fun H locs hb_p1 hP hS => ?_)
        refine lv_if_eq (tgt := 27) hx hb dX3_up_18 (by decide) (fun c => ?_) (fun c => ?_)
        · have h := (if_pos c).symm.trans h
          refine lv_iinc (v := (v4_3 + (1 : Int32))) (lv' := [(3, .int (v4_3 + (1 : Int32))), (0, .ref (G.2.1 1)), (1, .int v4_1), (2, .int v4_2)]) hx hb dX3_up_27 hl (k := 3) rfl rfl (by decide) rfl (fun ls hl => ?_)
          refine lv_goto (tgt := 4) hx hb dX3_up_30 (by decide) ?_
          exact ih v4_1 v4_2 (v4_3 + (1 : Int32)) p1.2 _ _ _ h hP hS (lv_sub hl [1, 2, 3, 0] rfl)
        · have h := (if_neg c).symm.trans h
          refine lv_iload_n hx hb dX3_up_21 rfl (lv_at hl 2 rfl) ?_
          refine lv_iconst (v := 1) hx hb dX3_up_22 (by decide) ?_
          refine lv_iload_n hx hb dX3_up_23 rfl (lv_at hl 3 rfl) ?_
          refine lv_ishl hx hb dX3_up_24 ?_
          refine lv_ior hx hb dX3_up_25 ?_
          refine lv_istore_n (lv' := [(2, .int (v4_2 ||| ((1 : Int32) <<< (v4_3 &&& 31)))), (0, .ref (G.2.1 1)), (1, .int v4_1), (3, .int v4_3)]) hx hb dX3_up_26 rfl hl (by decide) rfl (fun ls hl => ?_)
          refine lv_iinc (v := (v4_3 + (1 : Int32))) (lv' := [(3, .int (v4_3 + (1 : Int32))), (2, .int (v4_2 ||| ((1 : Int32) <<< (v4_3 &&& 31)))), (0, .ref (G.2.1 1)), (1, .int v4_1)]) hx hb dX3_up_27 hl (k := 3) rfl rfl (by decide) rfl (fun ls hl => ?_)
          refine lv_goto (tgt := 4) hx hb dX3_up_30 (by decide) ?_
          exact ih v4_1 (v4_2 ||| ((1 : Int32) <<< (v4_3 &&& 31))) (v4_3 + (1 : Int32)) p1.2 _ _ _ h hP hS (lv_sub hl [2, 3, 1, 0] rfl)
  unfold f_X3_up at h
  refine lv_iconst (v := 0) hx hb dX3_up_0 (by decide) ?_
  refine lv_istore_n (lv' := [(2, .int (0 : Int32)), (0, .ref (G.2.1 1)), (1, .int a0)]) hx hb dX3_up_1 rfl hl (by decide) rfl (fun ls hl => ?_)
  refine lv_iconst (v := 0) hx hb dX3_up_2 (by decide) ?_
  refine lv_istore_n (lv' := [(3, .int (0 : Int32)), (2, .int (0 : Int32)), (0, .ref (G.2.1 1)), (1, .int a0)]) hx hb dX3_up_3 rfl hl (by decide) rfl (fun ls hl => ?_)
  exact L4 64 a0 (0 : Int32) (0 : Int32) σ _ _ _ h hP hS (lv_sub hl [2, 3, 1, 0] rfl)
def f_X3_agree (a0 : Int32) (a1 : Int32) (σ : gw_S) : Option (Int32 × gw_S) := ((f_X3_down a0 σ).bind fun p1 => ((f_X3_down a1 p1.2).bind fun p2 => (if (p1.1 &&& p2.1) = 0 then (some ((0 : Int32), p2.2)) else (some ((1 : Int32), p2.2)))))
set_option maxHeartbeats 4000000 in
set_option maxRecDepth 100000 in
theorem gc_X3_agree (l : Launch) (G : gw_G) (a0 : Int32) (a1 : Int32) (σ : gw_S) (o : (Int32 × gw_S)) (h : f_X3_agree a0 a1 σ = some o) : gw_M (fun sz => gw_QZ G sz o) l yX3_agree cX3_agree 3 (some .boolean) { frames := 2, cells := 0, slots := 0, locals := 42 } G [.ref (G.2.1 1), .int a0, .int a1] σ := by
  refine gw_en (own := RX3) (lv := [(0, .ref (G.2.1 1)), (1, .int a0), (2, .int a1)]) (by decide +kernel) rfl (Nat.le_of_ble_eq_true rfl) rfl ?_
  intro p e s m below meth c ls X hl hP
  obtain ⟨hx, hb, hml, hown, hts, -, -, hT, hZ, -⟩ := id X
  have hS : va_S (gw_A G s.heap.size) s.heap s.heap [] := va_S.rf
  unfold f_X3_agree at h
  refine lv_aload_n hx hb dX3_agree_0 rfl (lv_at hl 0 rfl) ?_
  refine lv_iload_n hx hb dX3_agree_1 rfl (lv_at hl 1 rfl) ?_
  obtain ⟨p1, gp1, h⟩ := Option.bind_eq_some_iff.mp h
  refine gw_ci (gw_rV (C := RX3) X hP hS (gc_X3_down l G a0 σ _ gp1) gk_X3_down gv_270 ⟨gv_271, gv_272⟩ (va_recv hT.2.1 hP (ci := 6) (q0 := 1) rfl rfl) rfl rfl (Nat.le_of_ble_eq_true rfl) hl.1 ⟨rfl, rfl⟩ ⟨Nat.le_of_ble_eq_true rfl, Nat.le_of_ble_eq_true rfl⟩ ⟨Nat.le_of_ble_eq_true rfl, Nat.le_of_ble_eq_true rfl⟩ dX3_agree_2) hS (fun H locs hP hS => ?_)
  refine lv_aload_n hx hb dX3_agree_5 rfl (lv_at hl 0 rfl) ?_
  refine lv_iload_n hx hb dX3_agree_6 rfl (lv_at hl 2 rfl) ?_
  obtain ⟨p2, gp2, h⟩ := Option.bind_eq_some_iff.mp h
  refine gw_ci (gw_rV (C := RX3) X hP hS (gc_X3_down l G a1 p1.2 _ gp2) gk_X3_down gv_270 ⟨gv_271, gv_272⟩ (va_recv hT.2.1 hP (ci := 6) (q0 := 1) rfl rfl) rfl rfl (Nat.le_of_ble_eq_true rfl) hl.1 ⟨rfl, rfl⟩ ⟨Nat.le_of_ble_eq_true rfl, Nat.le_of_ble_eq_true rfl⟩ ⟨Nat.le_of_ble_eq_true rfl, Nat.le_of_ble_eq_true rfl⟩ dX3_agree_7) hS (fun H locs hP hS => ?_)
  refine lv_iand hx hb dX3_agree_10 ?_
  refine lv_if_eq (tgt := 18) hx hb dX3_agree_11 (by decide) (fun c => ?_) (fun c => ?_)
  · have h := (if_pos c).symm.trans h
    refine lv_iconst (v := 0) hx hb dX3_agree_18 (by decide) ?_
    exact gw_rz X hP hS rfl h dX3_agree_19
  · have h := (if_neg c).symm.trans h
    refine lv_iconst (v := 1) hx hb dX3_agree_14 (by decide) ?_
    refine lv_goto (tgt := 19) hx hb dX3_agree_15 (by decide) ?_
    exact gw_rz X hP hS rfl h dX3_agree_19
def f_X3_place_L9 : Nat → Int32 → Int32 → Int32 → gw_S → Option gw_S
  | 0, _, _, _, _ => none
  | n + 1, v9_2, v9_3, v9_4, σ => (if (σ 1 0) ≤ v9_4 then (some (gw_up (gw_up σ 1 2 ((σ 1 2) &&& (((1 : Int32) <<< (v9_2 &&& 31)) ^^^ (-1 : Int32)))) 1 1 (((gw_up σ 1 2 ((σ 1 2) &&& (((1 : Int32) <<< (v9_2 &&& 31)) ^^^ (-1 : Int32)))) 1 1) + (1 : Int32)))) else ((f_X3_stands v9_2 v9_4 σ).bind fun p2 => (if p2.1 = 0 then (f_X3_place_L9 n v9_2 v9_3 (v9_4 + (1 : Int32)) p2.2) else ((f_X3_down v9_4 p2.2).bind fun p3 => ((f_X8_put 2 v9_4 (p3.1 ||| v9_3) p3.2).bind fun p4 => (f_X3_place_L9 n v9_2 v9_3 (v9_4 + (1 : Int32)) p4))))))
def f_X3_place (a0 : Int32) (a1 : Int32) (σ : gw_S) : Option gw_S := ((f_X3_down a0 σ).bind fun p1 => (f_X3_place_L9 64 a1 p1.1 (0 : Int32) p1.2))
set_option maxHeartbeats 4000000 in
set_option maxRecDepth 100000 in
theorem gc_X3_place (l : Launch) (G : gw_G) (a0 : Int32) (a1 : Int32) (σ : gw_S) (o : gw_S) (h : f_X3_place a0 a1 σ = some o) : gw_M (fun sz => gw_QV G sz o) l yX3_place cX3_place 5 none { frames := 3, cells := 0, slots := 0, locals := 64 } G [.ref (G.2.1 1), .int a0, .int a1] σ := by
  refine gw_en (own := RX3) (lv := [(0, .ref (G.2.1 1)), (1, .int a0), (2, .int a1)]) (by decide +kernel) rfl (Nat.le_of_ble_eq_true rfl) rfl ?_
  intro p e s m below meth c ls X hl hP
  obtain ⟨hx, hb, hml, hown, hts, -, -, hT, hZ, -⟩ := id X
  have hS : va_S (gw_A G s.heap.size) s.heap s.heap [] := va_S.rf
  have L9 : ∀ (n : Nat) (v9_2 : Int32) (v9_3 : Int32) (v9_4 : Int32) (σ : gw_S) (H : Heap) (locs : List Loc) (ls : Array Slot), f_X3_place_L9 n v9_2 v9_3 v9_4 σ = some o → gw_P G σ H → va_S (gw_A G s.heap.size) s.heap H locs → lv_has ls 5 [(0, .ref (G.2.1 1)), (2, .int v9_2), (3, .int v9_3), (4, .int v9_4)] → W p l e { frames := 3, cells := 0, slots := 0, locals := 64 } s m [.ref (G.2.1 1), .int a0, .int a1].toArray below meth c H locs 0 0 (MQ below (gw_QV G s.heap.size o) [.ref (G.2.1 1), .int a0, .int a1].toArray s 0 0 (gw_A G s.heap.size)) (F0 m 9 ls []) := by
    intro n
    induction n with
    | zero =>
      intro v9_2 v9_3 v9_4 σ H locs ls h
      exact absurd h (by rw [f_X3_place_L9.eq_1]; exact fun h => nomatch h)
    | succ n ih =>
      intro v9_2 v9_3 v9_4 σ H locs ls h hP hS hl
      rw [f_X3_place_L9.eq_2] at h
      refine lv_iload hx hb dX3_place_9 (lv_at hl 3 rfl) ?_
      refine lv_aload_n hx hb dX3_place_11 rfl (lv_at hl 0 rfl) ?_
      refine va_get (D := G.1) (ci := 6) (v := .int (σ 1 0)) (C := RX3) (T := TX3) (N := 5) hx hb hts gx_X3 hown hT.2.1 hP 1 rfl rfl 0 (by decide) (hts _ gv_48) (fun _ h9 => h9) rfl dX3_place_12 ?_
      refine lv_icmp_ge (tgt := 51) hx hb dX3_place_15 (by decide) (fun c => ?_) (fun c => ?_)
      · have h := (if_pos c).symm.trans h
        refine lv_aload_n hx hb dX3_place_51 rfl (lv_at hl 0 rfl) ?_
        refine lv_dup hx hb dX3_place_52 rfl ?_
        refine va_get (D := G.1) (ci := 6) (v := .int (σ 1 2)) (C := RX3) (T := TX3) (N := 5) hx hb hts gx_X3 hown hT.2.1 hP 1 rfl rfl 2 (by decide) (hts _ gv_50) (fun _ h9 => h9) rfl dX3_place_53 ?_
        refine lv_iconst (v := 1) hx hb dX3_place_56 (by decide) ?_
        refine lv_iload_n hx hb dX3_place_57 rfl (lv_at hl 1 rfl) ?_
        refine lv_ishl hx hb dX3_place_58 ?_
        refine lv_iconst (v := -1) hx hb dX3_place_59 (by decide) ?_
        refine lv_ixor hx hb dX3_place_60 ?_
        refine lv_iand hx hb dX3_place_61 ?_
        refine va_put (D := G.1) (ci := 6) (v := .int ((σ 1 2) &&& (((1 : Int32) <<< (v9_2 &&& 31)) ^^^ (-1 : Int32)))) (ty := .int) (C := RX3) (T := TX3) (N := 5) hx hb hts gx_X3 tyX3 tyX3_ok nmX3 hown hT.2.1 hP (gw_D hT.1 s.heap.size _) hS 1 rfl rfl 2 (by decide) (hts _ gv_50) (fun _ h9 => h9) rfl gx_pI rfl rfl (Nat.le_of_ble_eq_true rfl) dX3_place_62 (fun H locs hP _ hS => ?_)
        have hP : gw_P G (gw_up σ 1 2 ((σ 1 2) &&& (((1 : Int32) <<< (v9_2 &&& 31)) ^^^ (-1 : Int32)))) H := hP
        refine lv_aload_n hx hb dX3_place_65 rfl (lv_at hl 0 rfl) ?_
        refine lv_dup hx hb dX3_place_66 rfl ?_
        refine va_get (D := G.1) (ci := 6) (v := .int ((gw_up σ 1 2 ((σ 1 2) &&& (((1 : Int32) <<< (v9_2 &&& 31)) ^^^ (-1 : Int32)))) 1 1)) (C := RX3) (T := TX3) (N := 5) hx hb hts gx_X3 hown hT.2.1 hP 1 rfl rfl 1 (by decide) (hts _ gv_49) (fun _ h9 => h9) rfl dX3_place_67 ?_
        refine lv_iconst (v := 1) hx hb dX3_place_70 (by decide) ?_
        refine lv_iadd hx hb dX3_place_71 ?_
        refine va_put (D := G.1) (ci := 6) (v := .int (((gw_up σ 1 2 ((σ 1 2) &&& (((1 : Int32) <<< (v9_2 &&& 31)) ^^^ (-1 : Int32)))) 1 1) + (1 : Int32))) (ty := .int) (C := RX3) (T := TX3) (N := 5) hx hb hts gx_X3 tyX3 tyX3_ok nmX3 hown hT.2.1 hP (gw_D hT.1 s.heap.size _) hS 1 rfl rfl 1 (by decide) (hts _ gv_49) (fun _ h9 => h9) rfl gx_pI rfl rfl (Nat.le_of_ble_eq_true rfl) dX3_place_72 (fun H locs hP _ hS => ?_)
        have hP : gw_P G (gw_up (gw_up σ 1 2 ((σ 1 2) &&& (((1 : Int32) <<< (v9_2 &&& 31)) ^^^ (-1 : Int32)))) 1 1 (((gw_up σ 1 2 ((σ 1 2) &&& (((1 : Int32) <<< (v9_2 &&& 31)) ^^^ (-1 : Int32)))) 1 1) + (1 : Int32))) H := hP
        exact gw_rv X hP hS h dX3_place_75
      · have h := (if_neg c).symm.trans h
        refine lv_aload_n hx hb dX3_place_18 rfl (lv_at hl 0 rfl) ?_
        refine lv_iload_n hx hb dX3_place_19 rfl (lv_at hl 1 rfl) ?_
        refine lv_iload hx hb dX3_place_20 (lv_at hl 3 rfl) ?_
        obtain ⟨p2, gp2, h⟩ := Option.bind_eq_some_iff.mp h
        refine gw_cz (gw_rV (C := RX3) X hP hS (gc_X3_stands l G v9_2 v9_4 σ _ gp2) gk_X3_stands gv_689 ⟨gv_267, gv_268⟩ (va_recv hT.2.1 hP (ci := 6) (q0 := 1) rfl rfl) rfl rfl (Nat.le_of_ble_eq_true rfl) hl.1 ⟨rfl, rfl⟩ ⟨Nat.le_of_ble_eq_true rfl, Nat.le_of_ble_eq_true rfl⟩ ⟨Nat.le_of_ble_eq_true rfl, Nat.le_of_ble_eq_true rfl⟩ dX3_place_22) hS (fun H locs hb_p2 hP hS => ?_)
        refine lv_if_eq (tgt := 45) hx hb dX3_place_25 (by decide) (fun c => ?_) (fun c => ?_)
        · have h := (if_pos c).symm.trans h
          refine lv_iinc (v := (v9_4 + (1 : Int32))) (lv' := [(4, .int (v9_4 + (1 : Int32))), (0, .ref (G.2.1 1)), (2, .int v9_2), (3, .int v9_3)]) hx hb dX3_place_45 hl (k := 3) rfl rfl (by decide) rfl (fun ls hl => ?_)
          refine lv_goto (tgt := 9) hx hb dX3_place_48 (by decide) ?_
          exact ih v9_2 v9_3 (v9_4 + (1 : Int32)) p2.2 _ _ _ h hP hS (lv_sub hl [1, 2, 3, 0] rfl)
        · have h := (if_neg c).symm.trans h
          refine lv_aload_n hx hb dX3_place_28 rfl (lv_at hl 0 rfl) ?_
          refine va_get (D := G.1) (ci := 6) (v := .ref (G.2.1 2)) (C := RX3) (T := TX3) (N := 5) hx hb hts gx_X3 hown hT.2.1 hP 1 rfl rfl 3 (by decide) (hts _ gv_51) (fun _ h9 => h9) rfl dX3_place_29 ?_
          refine lv_iload hx hb dX3_place_32 (lv_at hl 3 rfl) ?_
          refine lv_aload_n hx hb dX3_place_34 rfl (lv_at hl 0 rfl) ?_
          refine lv_iload hx hb dX3_place_35 (lv_at hl 3 rfl) ?_
          obtain ⟨p3, gp3, h⟩ := Option.bind_eq_some_iff.mp h
          refine gw_ci (gw_rV (C := RX3) X hP hS (gc_X3_down l G v9_4 p2.2 _ gp3) gk_X3_down gv_270 ⟨gv_271, gv_272⟩ (va_recv hT.2.1 hP (ci := 6) (q0 := 1) rfl rfl) rfl rfl (Nat.le_of_ble_eq_true rfl) hl.1 ⟨rfl, rfl⟩ ⟨Nat.le_of_ble_eq_true rfl, Nat.le_of_ble_eq_true rfl⟩ ⟨Nat.le_of_ble_eq_true rfl, Nat.le_of_ble_eq_true rfl⟩ dX3_place_37) hS (fun H locs hP hS => ?_)
          refine lv_iload_n hx hb dX3_place_40 rfl (lv_at hl 2 rfl) ?_
          refine lv_ior hx hb dX3_place_41 ?_
          obtain ⟨p4, gp4, h⟩ := Option.bind_eq_some_iff.mp h
          refine gw_cv (gw_rN (host := "Genericwood") X hP hS (gc_X8_put l G 2 ⟨by decide, by decide⟩ v9_4 (p3.1 ||| v9_3) p3.2 _ gp4) gk_X8_put gv_631 gv_403 rfl rfl (Nat.le_of_ble_eq_true rfl) hl.1 ⟨rfl, rfl⟩ ⟨Nat.le_of_ble_eq_true rfl, Nat.le_of_ble_eq_true rfl⟩ ⟨Nat.le_of_ble_eq_true rfl, Nat.le_of_ble_eq_true rfl⟩ dX3_place_42) hS (fun H locs hP hS => ?_)
          refine lv_iinc (v := (v9_4 + (1 : Int32))) (lv' := [(4, .int (v9_4 + (1 : Int32))), (0, .ref (G.2.1 1)), (2, .int v9_2), (3, .int v9_3)]) hx hb dX3_place_45 hl (k := 3) rfl rfl (by decide) rfl (fun ls hl => ?_)
          refine lv_goto (tgt := 9) hx hb dX3_place_48 (by decide) ?_
          exact ih v9_2 v9_3 (v9_4 + (1 : Int32)) p4 _ _ _ h hP hS (lv_sub hl [1, 2, 3, 0] rfl)
  unfold f_X3_place at h
  refine lv_aload_n hx hb dX3_place_0 rfl (lv_at hl 0 rfl) ?_
  refine lv_iload_n hx hb dX3_place_1 rfl (lv_at hl 1 rfl) ?_
  obtain ⟨p1, gp1, h⟩ := Option.bind_eq_some_iff.mp h
  refine gw_ci (gw_rV (C := RX3) X hP hS (gc_X3_down l G a0 σ _ gp1) gk_X3_down gv_270 ⟨gv_271, gv_272⟩ (va_recv hT.2.1 hP (ci := 6) (q0 := 1) rfl rfl) rfl rfl (Nat.le_of_ble_eq_true rfl) hl.1 ⟨rfl, rfl⟩ ⟨Nat.le_of_ble_eq_true rfl, Nat.le_of_ble_eq_true rfl⟩ ⟨Nat.le_of_ble_eq_true rfl, Nat.le_of_ble_eq_true rfl⟩ dX3_place_2) hS (fun H locs hP hS => ?_)
  refine lv_istore_n (lv' := [(3, .int p1.1), (0, .ref (G.2.1 1)), (1, .int a0), (2, .int a1)]) hx hb dX3_place_5 rfl hl (by decide) rfl (fun ls hl => ?_)
  refine lv_iconst (v := 0) hx hb dX3_place_6 (by decide) ?_
  refine lv_istore (lv' := [(4, .int (0 : Int32)), (3, .int p1.1), (0, .ref (G.2.1 1)), (1, .int a0), (2, .int a1)]) hx hb dX3_place_7 hl (by decide) rfl (fun ls hl => ?_)
  exact L9 64 a1 p1.1 (0 : Int32) p1.2 _ _ _ h hP hS (lv_sub hl [2, 4, 1, 0] rfl)
def f_X3_pairsBelow_L4 : Nat → Int32 → Int32 → gw_S → Option (Int32 × gw_S)
  | 0, _, _, _ => none
  | n + 1, v4_1, v4_2, σ => (if (σ 1 0) ≤ v4_2 then (some (v4_1, σ)) else ((f_X3_down v4_2 σ).bind fun p1 => ((f_J6_bitCount_0f7a4 p1.1 p1.2).bind fun p2 => (f_X3_pairsBelow_L4 n (v4_1 + (p2.1 - (1 : Int32))) (v4_2 + (1 : Int32)) p2.2))))
def f_X3_pairsBelow (σ : gw_S) : Option (Int32 × gw_S) := (f_X3_pairsBelow_L4 64 (0 : Int32) (0 : Int32) σ)
set_option maxHeartbeats 4000000 in
set_option maxRecDepth 100000 in
theorem gc_X3_pairsBelow (l : Launch) (G : gw_G) (σ : gw_S) (o : (Int32 × gw_S)) (h : f_X3_pairsBelow σ = some o) : gw_M (fun sz => gw_QI G sz o) l yX3_pairsBelow cX3_pairsBelow 3 (some .int) { frames := 2, cells := 0, slots := 0, locals := 42 } G [.ref (G.2.1 1)] σ := by
  refine gw_en (own := RX3) (lv := [(0, .ref (G.2.1 1))]) (by decide +kernel) rfl (Nat.le_of_ble_eq_true rfl) rfl ?_
  intro p e s m below meth c ls X hl hP
  obtain ⟨hx, hb, hml, hown, hts, -, -, hT, hZ, -⟩ := id X
  have hS : va_S (gw_A G s.heap.size) s.heap s.heap [] := va_S.rf
  have L4 : ∀ (n : Nat) (v4_1 : Int32) (v4_2 : Int32) (σ : gw_S) (H : Heap) (locs : List Loc) (ls : Array Slot), f_X3_pairsBelow_L4 n v4_1 v4_2 σ = some o → gw_P G σ H → va_S (gw_A G s.heap.size) s.heap H locs → lv_has ls 3 [(0, .ref (G.2.1 1)), (1, .int v4_1), (2, .int v4_2)] → W p l e { frames := 2, cells := 0, slots := 0, locals := 42 } s m [.ref (G.2.1 1)].toArray below meth c H locs 0 0 (MQ below (gw_QI G s.heap.size o) [.ref (G.2.1 1)].toArray s 0 0 (gw_A G s.heap.size)) (F0 m 4 ls []) := by
    intro n
    induction n with
    | zero =>
      intro v4_1 v4_2 σ H locs ls h
      exact absurd h (by rw [f_X3_pairsBelow_L4.eq_1]; exact fun h => nomatch h)
    | succ n ih =>
      intro v4_1 v4_2 σ H locs ls h hP hS hl
      rw [f_X3_pairsBelow_L4.eq_2] at h
      refine lv_iload_n hx hb dX3_pairsBelow_4 rfl (lv_at hl 2 rfl) ?_
      refine lv_aload_n hx hb dX3_pairsBelow_5 rfl (lv_at hl 0 rfl) ?_
      refine va_get (D := G.1) (ci := 6) (v := .int (σ 1 0)) (C := RX3) (T := TX3) (N := 5) hx hb hts gx_X3 hown hT.2.1 hP 1 rfl rfl 0 (by decide) (hts _ gv_48) (fun _ h9 => h9) rfl dX3_pairsBelow_6 ?_
      refine lv_icmp_ge (tgt := 31) hx hb dX3_pairsBelow_9 (by decide) (fun c => ?_) (fun c => ?_)
      · have h := (if_pos c).symm.trans h
        refine lv_iload_n hx hb dX3_pairsBelow_31 rfl (lv_at hl 1 rfl) ?_
        exact gw_ri X hP hS h dX3_pairsBelow_32
      · have h := (if_neg c).symm.trans h
        refine lv_iload_n hx hb dX3_pairsBelow_12 rfl (lv_at hl 1 rfl) ?_
        refine lv_aload_n hx hb dX3_pairsBelow_13 rfl (lv_at hl 0 rfl) ?_
        refine lv_iload_n hx hb dX3_pairsBelow_14 rfl (lv_at hl 2 rfl) ?_
        obtain ⟨p1, gp1, h⟩ := Option.bind_eq_some_iff.mp h
        refine gw_ci (gw_rV (C := RX3) X hP hS (gc_X3_down l G v4_2 σ _ gp1) gk_X3_down gv_270 ⟨gv_271, gv_272⟩ (va_recv hT.2.1 hP (ci := 6) (q0 := 1) rfl rfl) rfl rfl (Nat.le_of_ble_eq_true rfl) hl.1 ⟨rfl, rfl⟩ ⟨Nat.le_of_ble_eq_true rfl, Nat.le_of_ble_eq_true rfl⟩ ⟨Nat.le_of_ble_eq_true rfl, Nat.le_of_ble_eq_true rfl⟩ dX3_pairsBelow_15) hS (fun H locs hP hS => ?_)
        obtain ⟨p2, gp2, h⟩ := Option.bind_eq_some_iff.mp h
        refine gw_ci (gw_rS X hP hS (gc_J6_bitCount_0f7a4 l G p1.1 p1.2 _ gp2) gk_J6_bitCount_0f7a4 gv_694 gv_249 rfl rfl (Nat.le_of_ble_eq_true rfl) hl.1 ⟨rfl, rfl⟩ ⟨Nat.le_of_ble_eq_true rfl, Nat.le_of_ble_eq_true rfl⟩ ⟨Nat.le_of_ble_eq_true rfl, Nat.le_of_ble_eq_true rfl⟩ dX3_pairsBelow_18) hS (fun H locs hP hS => ?_)
        refine lv_iconst (v := 1) hx hb dX3_pairsBelow_21 (by decide) ?_
        refine lv_isub hx hb dX3_pairsBelow_22 ?_
        refine lv_iadd hx hb dX3_pairsBelow_23 ?_
        refine lv_istore_n (lv' := [(1, .int (v4_1 + (p2.1 - (1 : Int32)))), (0, .ref (G.2.1 1)), (2, .int v4_2)]) hx hb dX3_pairsBelow_24 rfl hl (by decide) rfl (fun ls hl => ?_)
        refine lv_iinc (v := (v4_2 + (1 : Int32))) (lv' := [(2, .int (v4_2 + (1 : Int32))), (1, .int (v4_1 + (p2.1 - (1 : Int32)))), (0, .ref (G.2.1 1))]) hx hb dX3_pairsBelow_25 hl (k := 2) rfl rfl (by decide) rfl (fun ls hl => ?_)
        refine lv_goto (tgt := 4) hx hb dX3_pairsBelow_28 (by decide) ?_
        exact ih (v4_1 + (p2.1 - (1 : Int32))) (v4_2 + (1 : Int32)) p2.2 _ _ _ h hP hS (lv_sub hl [2, 1, 0] rfl)
  unfold f_X3_pairsBelow at h
  refine lv_iconst (v := 0) hx hb dX3_pairsBelow_0 (by decide) ?_
  refine lv_istore_n (lv' := [(1, .int (0 : Int32)), (0, .ref (G.2.1 1))]) hx hb dX3_pairsBelow_1 rfl hl (by decide) rfl (fun ls hl => ?_)
  refine lv_iconst (v := 0) hx hb dX3_pairsBelow_2 (by decide) ?_
  refine lv_istore_n (lv' := [(2, .int (0 : Int32)), (1, .int (0 : Int32)), (0, .ref (G.2.1 1))]) hx hb dX3_pairsBelow_3 rfl hl (by decide) rfl (fun ls hl => ?_)
  exact L4 64 (0 : Int32) (0 : Int32) σ _ _ _ h hP hS (lv_sub hl [2, 1, 0] rfl)
def f_X3_ends (σ : gw_S) : Option (Int32 × gw_S) := (some ((σ 1 2), σ))
set_option maxHeartbeats 4000000 in
set_option maxRecDepth 100000 in
theorem gc_X3_ends (l : Launch) (G : gw_G) (σ : gw_S) (o : (Int32 × gw_S)) (h : f_X3_ends σ = some o) : gw_M (fun sz => gw_QI G sz o) l yX3_ends cX3_ends 1 (some .int) { frames := 0, cells := 0, slots := 0, locals := 0 } G [.ref (G.2.1 1)] σ := by
  refine gw_en (own := RX3) (lv := [(0, .ref (G.2.1 1))]) (by decide +kernel) rfl (Nat.le_of_ble_eq_true rfl) rfl ?_
  intro p e s m below meth c ls X hl hP
  obtain ⟨hx, hb, hml, hown, hts, -, -, hT, hZ, -⟩ := id X
  have hS : va_S (gw_A G s.heap.size) s.heap s.heap [] := va_S.rf
  unfold f_X3_ends at h
  refine lv_aload_n hx hb dX3_ends_0 rfl (lv_at hl 0 rfl) ?_
  refine va_get (D := G.1) (ci := 6) (v := .int (σ 1 2)) (C := RX3) (T := TX3) (N := 5) hx hb hts gx_X3 hown hT.2.1 hP 1 rfl rfl 2 (by decide) (hts _ gv_50) (fun _ h9 => h9) rfl dX3_ends_1 ?_
  exact gw_ri X hP hS h dX3_ends_4
def f_X3_endsOf (a0 : Int32) (σ : gw_S) : Option (Int32 × gw_S) := ((f_X8_at 2 a0 σ).bind fun p1 => (some ((p1.1 &&& (p1.2 1 2)), p1.2)))
set_option maxHeartbeats 4000000 in
set_option maxRecDepth 100000 in
theorem gc_X3_endsOf (l : Launch) (G : gw_G) (a0 : Int32) (σ : gw_S) (o : (Int32 × gw_S)) (h : f_X3_endsOf a0 σ = some o) : gw_M (fun sz => gw_QI G sz o) l yX3_endsOf cX3_endsOf 2 (some .int) { frames := 1, cells := 0, slots := 0, locals := 21 } G [.ref (G.2.1 1), .int a0] σ := by
  refine gw_en (own := RX3) (lv := [(0, .ref (G.2.1 1)), (1, .int a0)]) (by decide +kernel) rfl (Nat.le_of_ble_eq_true rfl) rfl ?_
  intro p e s m below meth c ls X hl hP
  obtain ⟨hx, hb, hml, hown, hts, -, -, hT, hZ, -⟩ := id X
  have hS : va_S (gw_A G s.heap.size) s.heap s.heap [] := va_S.rf
  unfold f_X3_endsOf at h
  refine lv_aload_n hx hb dX3_endsOf_0 rfl (lv_at hl 0 rfl) ?_
  refine va_get (D := G.1) (ci := 6) (v := .ref (G.2.1 2)) (C := RX3) (T := TX3) (N := 5) hx hb hts gx_X3 hown hT.2.1 hP 1 rfl rfl 3 (by decide) (hts _ gv_51) (fun _ h9 => h9) rfl dX3_endsOf_1 ?_
  refine lv_iload_n hx hb dX3_endsOf_4 rfl (lv_at hl 1 rfl) ?_
  obtain ⟨p1, gp1, h⟩ := Option.bind_eq_some_iff.mp h
  refine gw_ci (gw_rN (host := "Genericwood") X hP hS (gc_X8_at l G 2 ⟨by decide, by decide⟩ a0 σ _ gp1) gk_X8_at gv_274 gv_275 rfl rfl (Nat.le_of_ble_eq_true rfl) hl.1 ⟨rfl, rfl⟩ ⟨Nat.le_of_ble_eq_true rfl, Nat.le_of_ble_eq_true rfl⟩ ⟨Nat.le_of_ble_eq_true rfl, Nat.le_of_ble_eq_true rfl⟩ dX3_endsOf_5) hS (fun H locs hP hS => ?_)
  refine lv_aload_n hx hb dX3_endsOf_8 rfl (lv_at hl 0 rfl) ?_
  refine va_get (D := G.1) (ci := 6) (v := .int (p1.2 1 2)) (C := RX3) (T := TX3) (N := 5) hx hb hts gx_X3 hown hT.2.1 hP 1 rfl rfl 2 (by decide) (hts _ gv_50) (fun _ h9 => h9) rfl dX3_endsOf_9 ?_
  refine lv_iand hx hb dX3_endsOf_12 ?_
  exact gw_ri X hP hS h dX3_endsOf_13
def f_X3_avoiding_L4 : Nat → Int32 → Int32 → Int32 → gw_S → Option (Int32 × gw_S)
  | 0, _, _, _, _ => none
  | n + 1, v4_1, v4_2, v4_3, σ => (if (σ 1 0) ≤ v4_3 then (some (v4_2, σ)) else ((f_X8_at 2 v4_3 σ).bind fun p1 => (if (p1.1 &&& v4_1) = 0 then (f_X3_avoiding_L4 n v4_1 (v4_2 ||| ((1 : Int32) <<< (v4_3 &&& 31))) (v4_3 + (1 : Int32)) p1.2) else (f_X3_avoiding_L4 n v4_1 v4_2 (v4_3 + (1 : Int32)) p1.2))))
def f_X3_avoiding (a0 : Int32) (σ : gw_S) : Option (Int32 × gw_S) := (f_X3_avoiding_L4 64 a0 (0 : Int32) (0 : Int32) σ)
set_option maxHeartbeats 4000000 in
set_option maxRecDepth 100000 in
theorem gc_X3_avoiding (l : Launch) (G : gw_G) (a0 : Int32) (σ : gw_S) (o : (Int32 × gw_S)) (h : f_X3_avoiding a0 σ = some o) : gw_M (fun sz => gw_QI G sz o) l yX3_avoiding cX3_avoiding 4 (some .int) { frames := 1, cells := 0, slots := 0, locals := 21 } G [.ref (G.2.1 1), .int a0] σ := by
  refine gw_en (own := RX3) (lv := [(0, .ref (G.2.1 1)), (1, .int a0)]) (by decide +kernel) rfl (Nat.le_of_ble_eq_true rfl) rfl ?_
  intro p e s m below meth c ls X hl hP
  obtain ⟨hx, hb, hml, hown, hts, -, -, hT, hZ, -⟩ := id X
  have hS : va_S (gw_A G s.heap.size) s.heap s.heap [] := va_S.rf
  have L4 : ∀ (n : Nat) (v4_1 : Int32) (v4_2 : Int32) (v4_3 : Int32) (σ : gw_S) (H : Heap) (locs : List Loc) (ls : Array Slot), f_X3_avoiding_L4 n v4_1 v4_2 v4_3 σ = some o → gw_P G σ H → va_S (gw_A G s.heap.size) s.heap H locs → lv_has ls 4 [(0, .ref (G.2.1 1)), (1, .int v4_1), (2, .int v4_2), (3, .int v4_3)] → W p l e { frames := 1, cells := 0, slots := 0, locals := 21 } s m [.ref (G.2.1 1), .int a0].toArray below meth c H locs 0 0 (MQ below (gw_QI G s.heap.size o) [.ref (G.2.1 1), .int a0].toArray s 0 0 (gw_A G s.heap.size)) (F0 m 4 ls []) := by
    intro n
    induction n with
    | zero =>
      intro v4_1 v4_2 v4_3 σ H locs ls h
      exact absurd h (by rw [f_X3_avoiding_L4.eq_1]; exact fun h => nomatch h)
    | succ n ih =>
      intro v4_1 v4_2 v4_3 σ H locs ls h hP hS hl
      rw [f_X3_avoiding_L4.eq_2] at h
      refine lv_iload_n hx hb dX3_avoiding_4 rfl (lv_at hl 3 rfl) ?_
      refine lv_aload_n hx hb dX3_avoiding_5 rfl (lv_at hl 0 rfl) ?_
      refine va_get (D := G.1) (ci := 6) (v := .int (σ 1 0)) (C := RX3) (T := TX3) (N := 5) hx hb hts gx_X3 hown hT.2.1 hP 1 rfl rfl 0 (by decide) (hts _ gv_48) (fun _ h9 => h9) rfl dX3_avoiding_6 ?_
      refine lv_icmp_ge (tgt := 37) hx hb dX3_avoiding_9 (by decide) (fun c => ?_) (fun c => ?_)
      · have h := (if_pos c).symm.trans h
        refine lv_iload_n hx hb dX3_avoiding_37 rfl (lv_at hl 2 rfl) ?_
        exact gw_ri X hP hS h dX3_avoiding_38
      · have h := (if_neg c).symm.trans h
        refine lv_aload_n hx hb dX3_avoiding_12 rfl (lv_at hl 0 rfl) ?_
        refine va_get (D := G.1) (ci := 6) (v := .ref (G.2.1 2)) (C := RX3) (T := TX3) (N := 5) hx hb hts gx_X3 hown hT.2.1 hP 1 rfl rfl 3 (by decide) (hts _ gv_51) (fun _ h9 => h9) rfl dX3_avoiding_13 ?_
        refine lv_iload_n hx hb dX3_avoiding_16 rfl (lv_at hl 3 rfl) ?_
        obtain ⟨p1, gp1, h⟩ := Option.bind_eq_some_iff.mp h
        refine gw_ci (gw_rN (host := "Genericwood") X hP hS (gc_X8_at l G 2 ⟨by decide, by decide⟩ v4_3 σ _ gp1) gk_X8_at gv_274 gv_275 rfl rfl (Nat.le_of_ble_eq_true rfl) hl.1 ⟨rfl, rfl⟩ ⟨Nat.le_of_ble_eq_true rfl, Nat.le_of_ble_eq_true rfl⟩ ⟨Nat.le_of_ble_eq_true rfl, Nat.le_of_ble_eq_true rfl⟩ dX3_avoiding_17) hS (fun H locs hP hS => ?_)
        refine lv_iload_n hx hb dX3_avoiding_20 rfl (lv_at hl 1 rfl) ?_
        refine lv_iand hx hb dX3_avoiding_21 ?_
        refine lv_if_ne (tgt := 31) hx hb dX3_avoiding_22 (by decide) (fun c => ?_) (fun c => ?_)
        · have h := (if_neg c).symm.trans h
          refine lv_iinc (v := (v4_3 + (1 : Int32))) (lv' := [(3, .int (v4_3 + (1 : Int32))), (0, .ref (G.2.1 1)), (1, .int v4_1), (2, .int v4_2)]) hx hb dX3_avoiding_31 hl (k := 3) rfl rfl (by decide) rfl (fun ls hl => ?_)
          refine lv_goto (tgt := 4) hx hb dX3_avoiding_34 (by decide) ?_
          exact ih v4_1 v4_2 (v4_3 + (1 : Int32)) p1.2 _ _ _ h hP hS (lv_sub hl [1, 2, 3, 0] rfl)
        · have h := (if_pos c).symm.trans h
          refine lv_iload_n hx hb dX3_avoiding_25 rfl (lv_at hl 2 rfl) ?_
          refine lv_iconst (v := 1) hx hb dX3_avoiding_26 (by decide) ?_
          refine lv_iload_n hx hb dX3_avoiding_27 rfl (lv_at hl 3 rfl) ?_
          refine lv_ishl hx hb dX3_avoiding_28 ?_
          refine lv_ior hx hb dX3_avoiding_29 ?_
          refine lv_istore_n (lv' := [(2, .int (v4_2 ||| ((1 : Int32) <<< (v4_3 &&& 31)))), (0, .ref (G.2.1 1)), (1, .int v4_1), (3, .int v4_3)]) hx hb dX3_avoiding_30 rfl hl (by decide) rfl (fun ls hl => ?_)
          refine lv_iinc (v := (v4_3 + (1 : Int32))) (lv' := [(3, .int (v4_3 + (1 : Int32))), (2, .int (v4_2 ||| ((1 : Int32) <<< (v4_3 &&& 31)))), (0, .ref (G.2.1 1)), (1, .int v4_1)]) hx hb dX3_avoiding_31 hl (k := 3) rfl rfl (by decide) rfl (fun ls hl => ?_)
          refine lv_goto (tgt := 4) hx hb dX3_avoiding_34 (by decide) ?_
          exact ih v4_1 (v4_2 ||| ((1 : Int32) <<< (v4_3 &&& 31))) (v4_3 + (1 : Int32)) p1.2 _ _ _ h hP hS (lv_sub hl [2, 3, 1, 0] rfl)
  unfold f_X3_avoiding at h
  refine lv_iconst (v := 0) hx hb dX3_avoiding_0 (by decide) ?_
  refine lv_istore_n (lv' := [(2, .int (0 : Int32)), (0, .ref (G.2.1 1)), (1, .int a0)]) hx hb dX3_avoiding_1 rfl hl (by decide) rfl (fun ls hl => ?_)
  refine lv_iconst (v := 0) hx hb dX3_avoiding_2 (by decide) ?_
  refine lv_istore_n (lv' := [(3, .int (0 : Int32)), (2, .int (0 : Int32)), (0, .ref (G.2.1 1)), (1, .int a0)]) hx hb dX3_avoiding_3 rfl hl (by decide) rfl (fun ls hl => ?_)
  exact L4 64 a0 (0 : Int32) (0 : Int32) σ _ _ _ h hP hS (lv_sub hl [2, 3, 1, 0] rfl)
def f_X3_image (a0 : Int32) (σ : gw_S) : Option (Int32 × gw_S) := ((f_X8_at 3 a0 σ).bind fun p1 => (some (p1.1, p1.2)))
set_option maxHeartbeats 4000000 in
set_option maxRecDepth 100000 in
theorem gc_X3_image (l : Launch) (G : gw_G) (a0 : Int32) (σ : gw_S) (o : (Int32 × gw_S)) (h : f_X3_image a0 σ = some o) : gw_M (fun sz => gw_QI G sz o) l yX3_image cX3_image 2 (some .int) { frames := 1, cells := 0, slots := 0, locals := 21 } G [.ref (G.2.1 1), .int a0] σ := by
  refine gw_en (own := RX3) (lv := [(0, .ref (G.2.1 1)), (1, .int a0)]) (by decide +kernel) rfl (Nat.le_of_ble_eq_true rfl) rfl ?_
  intro p e s m below meth c ls X hl hP
  obtain ⟨hx, hb, hml, hown, hts, -, -, hT, hZ, -⟩ := id X
  have hS : va_S (gw_A G s.heap.size) s.heap s.heap [] := va_S.rf
  unfold f_X3_image at h
  refine lv_aload_n hx hb dX3_image_0 rfl (lv_at hl 0 rfl) ?_
  refine va_get (D := G.1) (ci := 6) (v := .ref (G.2.1 3)) (C := RX3) (T := TX3) (N := 5) hx hb hts gx_X3 hown hT.2.1 hP 1 rfl rfl 4 (by decide) (hts _ gv_52) (fun _ h9 => h9) rfl dX3_image_1 ?_
  refine lv_iload_n hx hb dX3_image_4 rfl (lv_at hl 1 rfl) ?_
  obtain ⟨p1, gp1, h⟩ := Option.bind_eq_some_iff.mp h
  refine gw_ci (gw_rN (host := "Genericwood") X hP hS (gc_X8_at l G 3 ⟨by decide, by decide⟩ a0 σ _ gp1) gk_X8_at gv_274 gv_275 rfl rfl (Nat.le_of_ble_eq_true rfl) hl.1 ⟨rfl, rfl⟩ ⟨Nat.le_of_ble_eq_true rfl, Nat.le_of_ble_eq_true rfl⟩ ⟨Nat.le_of_ble_eq_true rfl, Nat.le_of_ble_eq_true rfl⟩ dX3_image_5) hS (fun H locs hP hS => ?_)
  exact gw_ri X hP hS h dX3_image_8
def f_X3_exchange (a0 : Int32) (a1 : Int32) (σ : gw_S) : Option gw_S := ((f_X3_image a0 σ).bind fun p1 => ((f_X3_image a1 p1.2).bind fun p2 => ((f_X8_put 3 a0 p2.1 p2.2).bind fun p3 => ((f_X8_put 3 a1 p1.1 p3).bind fun p4 => (some p4)))))
set_option maxHeartbeats 4000000 in
set_option maxRecDepth 100000 in
theorem gc_X3_exchange (l : Launch) (G : gw_G) (a0 : Int32) (a1 : Int32) (σ : gw_S) (o : gw_S) (h : f_X3_exchange a0 a1 σ = some o) : gw_M (fun sz => gw_QV G sz o) l yX3_exchange cX3_exchange 4 none { frames := 2, cells := 0, slots := 0, locals := 42 } G [.ref (G.2.1 1), .int a0, .int a1] σ := by
  refine gw_en (own := RX3) (lv := [(0, .ref (G.2.1 1)), (1, .int a0), (2, .int a1)]) (by decide +kernel) rfl (Nat.le_of_ble_eq_true rfl) rfl ?_
  intro p e s m below meth c ls X hl hP
  obtain ⟨hx, hb, hml, hown, hts, -, -, hT, hZ, -⟩ := id X
  have hS : va_S (gw_A G s.heap.size) s.heap s.heap [] := va_S.rf
  unfold f_X3_exchange at h
  refine lv_aload_n hx hb dX3_exchange_0 rfl (lv_at hl 0 rfl) ?_
  refine lv_iload_n hx hb dX3_exchange_1 rfl (lv_at hl 1 rfl) ?_
  obtain ⟨p1, gp1, h⟩ := Option.bind_eq_some_iff.mp h
  refine gw_ci (gw_rV (C := RX3) X hP hS (gc_X3_image l G a0 σ _ gp1) gk_X3_image gv_1103 ⟨gv_503, gv_504⟩ (va_recv hT.2.1 hP (ci := 6) (q0 := 1) rfl rfl) rfl rfl (Nat.le_of_ble_eq_true rfl) hl.1 ⟨rfl, rfl⟩ ⟨Nat.le_of_ble_eq_true rfl, Nat.le_of_ble_eq_true rfl⟩ ⟨Nat.le_of_ble_eq_true rfl, Nat.le_of_ble_eq_true rfl⟩ dX3_exchange_2) hS (fun H locs hP hS => ?_)
  refine lv_istore_n (lv' := [(3, .int p1.1), (0, .ref (G.2.1 1)), (1, .int a0), (2, .int a1)]) hx hb dX3_exchange_5 rfl hl (by decide) rfl (fun ls hl => ?_)
  refine lv_aload_n hx hb dX3_exchange_6 rfl (lv_at hl 1 rfl) ?_
  refine va_get (D := G.1) (ci := 6) (v := .ref (G.2.1 3)) (C := RX3) (T := TX3) (N := 5) hx hb hts gx_X3 hown hT.2.1 hP 1 rfl rfl 4 (by decide) (hts _ gv_52) (fun _ h9 => h9) rfl dX3_exchange_7 ?_
  refine lv_iload_n hx hb dX3_exchange_10 rfl (lv_at hl 2 rfl) ?_
  refine lv_aload_n hx hb dX3_exchange_11 rfl (lv_at hl 1 rfl) ?_
  refine lv_iload_n hx hb dX3_exchange_12 rfl (lv_at hl 3 rfl) ?_
  obtain ⟨p2, gp2, h⟩ := Option.bind_eq_some_iff.mp h
  refine gw_ci (gw_rV (C := RX3) X hP hS (gc_X3_image l G a1 p1.2 _ gp2) gk_X3_image gv_1103 ⟨gv_503, gv_504⟩ (va_recv hT.2.1 hP (ci := 6) (q0 := 1) rfl rfl) rfl rfl (Nat.le_of_ble_eq_true rfl) hl.1 ⟨rfl, rfl⟩ ⟨Nat.le_of_ble_eq_true rfl, Nat.le_of_ble_eq_true rfl⟩ ⟨Nat.le_of_ble_eq_true rfl, Nat.le_of_ble_eq_true rfl⟩ dX3_exchange_13) hS (fun H locs hP hS => ?_)
  obtain ⟨p3, gp3, h⟩ := Option.bind_eq_some_iff.mp h
  refine gw_cv (gw_rN (host := "Genericwood") X hP hS (gc_X8_put l G 3 ⟨by decide, by decide⟩ a0 p2.1 p2.2 _ gp3) gk_X8_put gv_631 gv_403 rfl rfl (Nat.le_of_ble_eq_true rfl) hl.1 ⟨rfl, rfl⟩ ⟨Nat.le_of_ble_eq_true rfl, Nat.le_of_ble_eq_true rfl⟩ ⟨Nat.le_of_ble_eq_true rfl, Nat.le_of_ble_eq_true rfl⟩ dX3_exchange_16) hS (fun H locs hP hS => ?_)
  refine lv_aload_n hx hb dX3_exchange_19 rfl (lv_at hl 1 rfl) ?_
  refine va_get (D := G.1) (ci := 6) (v := .ref (G.2.1 3)) (C := RX3) (T := TX3) (N := 5) hx hb hts gx_X3 hown hT.2.1 hP 1 rfl rfl 4 (by decide) (hts _ gv_52) (fun _ h9 => h9) rfl dX3_exchange_20 ?_
  refine lv_iload_n hx hb dX3_exchange_23 rfl (lv_at hl 3 rfl) ?_
  refine lv_iload_n hx hb dX3_exchange_24 rfl (lv_at hl 0 rfl) ?_
  obtain ⟨p4, gp4, h⟩ := Option.bind_eq_some_iff.mp h
  refine gw_cv (gw_rN (host := "Genericwood") X hP hS (gc_X8_put l G 3 ⟨by decide, by decide⟩ a1 p1.1 p3 _ gp4) gk_X8_put gv_631 gv_403 rfl rfl (Nat.le_of_ble_eq_true rfl) hl.1 ⟨rfl, rfl⟩ ⟨Nat.le_of_ble_eq_true rfl, Nat.le_of_ble_eq_true rfl⟩ ⟨Nat.le_of_ble_eq_true rfl, Nat.le_of_ble_eq_true rfl⟩ dX3_exchange_25) hS (fun H locs hP hS => ?_)
  exact gw_rv X hP hS h dX3_exchange_28
def f_X3_isKept_L12 : Nat → (Int32 → gw_S → Option (Int32 × gw_S)) → Int32 → Int32 → gw_S → Option (Int32 × gw_S)
  | 0, _, _, _, _ => none
  | n + 1, K, v12_1, v12_2, σ => (if (σ 1 0) ≤ v12_2 then (K v12_1 σ) else ((f_X3_stands v12_1 v12_2 σ).bind fun p1 => ((f_X3_image v12_1 p1.2).bind fun p2 => ((f_X3_image v12_2 p2.2).bind fun p3 => ((f_X3_stands p2.1 p3.1 p3.2).bind fun p4 => (if p1.1 = p4.1 then (f_X3_isKept_L12 n K v12_1 (v12_2 + (1 : Int32)) p4.2) else (some ((0 : Int32), p4.2))))))))
def f_X3_isKept_L2 : Nat → Int32 → gw_S → Option (Int32 × gw_S)
  | 0, _, _ => none
  | n + 1, v2_1, σ => (if (σ 1 0) ≤ v2_1 then (some ((1 : Int32), σ)) else (f_X3_isKept_L12 64 (fun w12_1 σ12 => (f_X3_isKept_L2 n (w12_1 + (1 : Int32)) σ12)) v2_1 (0 : Int32) σ))
def f_X3_isKept (σ : gw_S) : Option (Int32 × gw_S) := (f_X3_isKept_L2 64 (0 : Int32) σ)
set_option maxHeartbeats 4000000 in
set_option maxRecDepth 100000 in
theorem gc_X3_isKept (l : Launch) (G : gw_G) (σ : gw_S) (o : (Int32 × gw_S)) (h : f_X3_isKept σ = some o) : gw_M (fun sz => gw_QZ G sz o) l yX3_isKept cX3_isKept 3 (some .boolean) { frames := 3, cells := 0, slots := 0, locals := 64 } G [.ref (G.2.1 1)] σ := by
  refine gw_en (own := RX3) (lv := [(0, .ref (G.2.1 1))]) (by decide +kernel) rfl (Nat.le_of_ble_eq_true rfl) rfl ?_
  intro p e s m below meth c ls X hl hP
  obtain ⟨hx, hb, hml, hown, hts, -, -, hT, hZ, -⟩ := id X
  have hS : va_S (gw_A G s.heap.size) s.heap s.heap [] := va_S.rf
  have L12 : ∀ (n : Nat) (K : Int32 → gw_S → Option (Int32 × gw_S)) (v12_1 : Int32) (v12_2 : Int32) (σ : gw_S) (H : Heap) (locs : List Loc) (ls : Array Slot), f_X3_isKept_L12 n K v12_1 v12_2 σ = some o → gw_P G σ H → va_S (gw_A G s.heap.size) s.heap H locs → lv_has ls 3 [(0, .ref (G.2.1 1)), (1, .int v12_1), (2, .int v12_2)] → (∀ (w1 : Int32) (σ : gw_S) (H : Heap) (locs : List Loc) (ls : Array Slot), K w1 σ = some o → gw_P G σ H → va_S (gw_A G s.heap.size) s.heap H locs → lv_has ls 3 [(0, .ref (G.2.1 1)), (1, .int w1)] → W p l e { frames := 3, cells := 0, slots := 0, locals := 64 } s m [.ref (G.2.1 1)].toArray below meth c H locs 0 0 (MQ below (gw_QZ G s.heap.size o) [.ref (G.2.1 1)].toArray s 0 0 (gw_A G s.heap.size)) (F0 m 51 ls [])) → W p l e { frames := 3, cells := 0, slots := 0, locals := 64 } s m [.ref (G.2.1 1)].toArray below meth c H locs 0 0 (MQ below (gw_QZ G s.heap.size o) [.ref (G.2.1 1)].toArray s 0 0 (gw_A G s.heap.size)) (F0 m 12 ls []) := by
    intro n K
    induction n with
    | zero =>
      intro v12_1 v12_2 σ H locs ls h
      exact absurd h (by rw [f_X3_isKept_L12.eq_1]; exact fun h => nomatch h)
    | succ n ih =>
      intro v12_1 v12_2 σ H locs ls h hP hS hl hK
      rw [f_X3_isKept_L12.eq_2] at h
      refine lv_iload_n hx hb dX3_isKept_12 rfl (lv_at hl 2 rfl) ?_
      refine lv_aload_n hx hb dX3_isKept_13 rfl (lv_at hl 0 rfl) ?_
      refine va_get (D := G.1) (ci := 6) (v := .int (σ 1 0)) (C := RX3) (T := TX3) (N := 5) hx hb hts gx_X3 hown hT.2.1 hP 1 rfl rfl 0 (by decide) (hts _ gv_48) (fun _ h9 => h9) rfl dX3_isKept_14 ?_
      refine lv_icmp_ge (tgt := 51) hx hb dX3_isKept_17 (by decide) (fun c => ?_) (fun c => ?_)
      · have h := (if_pos c).symm.trans h
        exact hK v12_1 σ _ _ _ h hP hS (lv_sub hl [0, 1] rfl)
      · have h := (if_neg c).symm.trans h
        refine lv_aload_n hx hb dX3_isKept_20 rfl (lv_at hl 0 rfl) ?_
        refine lv_iload_n hx hb dX3_isKept_21 rfl (lv_at hl 1 rfl) ?_
        refine lv_iload_n hx hb dX3_isKept_22 rfl (lv_at hl 2 rfl) ?_
        obtain ⟨p1, gp1, h⟩ := Option.bind_eq_some_iff.mp h
        refine gw_cz (gw_rV (C := RX3) X hP hS (gc_X3_stands l G v12_1 v12_2 σ _ gp1) gk_X3_stands gv_689 ⟨gv_267, gv_268⟩ (va_recv hT.2.1 hP (ci := 6) (q0 := 1) rfl rfl) rfl rfl (Nat.le_of_ble_eq_true rfl) hl.1 ⟨rfl, rfl⟩ ⟨Nat.le_of_ble_eq_true rfl, Nat.le_of_ble_eq_true rfl⟩ ⟨Nat.le_of_ble_eq_true rfl, Nat.le_of_ble_eq_true rfl⟩ dX3_isKept_23) hS (fun H locs hb_p1 hP hS => ?_)
        refine lv_aload_n hx hb dX3_isKept_26 rfl (lv_at hl 0 rfl) ?_
        refine lv_aload_n hx hb dX3_isKept_27 rfl (lv_at hl 0 rfl) ?_
        refine lv_iload_n hx hb dX3_isKept_28 rfl (lv_at hl 1 rfl) ?_
        obtain ⟨p2, gp2, h⟩ := Option.bind_eq_some_iff.mp h
        refine gw_ci (gw_rV (C := RX3) X hP hS (gc_X3_image l G v12_1 p1.2 _ gp2) gk_X3_image gv_1103 ⟨gv_503, gv_504⟩ (va_recv hT.2.1 hP (ci := 6) (q0 := 1) rfl rfl) rfl rfl (Nat.le_of_ble_eq_true rfl) hl.1 ⟨rfl, rfl⟩ ⟨Nat.le_of_ble_eq_true rfl, Nat.le_of_ble_eq_true rfl⟩ ⟨Nat.le_of_ble_eq_true rfl, Nat.le_of_ble_eq_true rfl⟩ dX3_isKept_29) hS (fun H locs hP hS => ?_)
        refine lv_aload_n hx hb dX3_isKept_32 rfl (lv_at hl 0 rfl) ?_
        refine lv_iload_n hx hb dX3_isKept_33 rfl (lv_at hl 2 rfl) ?_
        obtain ⟨p3, gp3, h⟩ := Option.bind_eq_some_iff.mp h
        refine gw_ci (gw_rV (C := RX3) X hP hS (gc_X3_image l G v12_2 p2.2 _ gp3) gk_X3_image gv_1103 ⟨gv_503, gv_504⟩ (va_recv hT.2.1 hP (ci := 6) (q0 := 1) rfl rfl) rfl rfl (Nat.le_of_ble_eq_true rfl) hl.1 ⟨rfl, rfl⟩ ⟨Nat.le_of_ble_eq_true rfl, Nat.le_of_ble_eq_true rfl⟩ ⟨Nat.le_of_ble_eq_true rfl, Nat.le_of_ble_eq_true rfl⟩ dX3_isKept_34) hS (fun H locs hP hS => ?_)
        obtain ⟨p4, gp4, h⟩ := Option.bind_eq_some_iff.mp h
        refine gw_cz (gw_rV (C := RX3) X hP hS (gc_X3_stands l G p2.1 p3.1 p3.2 _ gp4) gk_X3_stands gv_689 ⟨gv_267, gv_268⟩ (va_recv hT.2.1 hP (ci := 6) (q0 := 1) rfl rfl) rfl rfl (Nat.le_of_ble_eq_true rfl) hl.1 ⟨rfl, rfl⟩ ⟨Nat.le_of_ble_eq_true rfl, Nat.le_of_ble_eq_true rfl⟩ ⟨Nat.le_of_ble_eq_true rfl, Nat.le_of_ble_eq_true rfl⟩ dX3_isKept_37) hS (fun H locs hb_p4 hP hS => ?_)
        refine lv_icmp_eq (tgt := 45) hx hb dX3_isKept_40 (by decide) (fun c => ?_) (fun c => ?_)
        · have h := (if_pos c).symm.trans h
          refine lv_iinc (v := (v12_2 + (1 : Int32))) (lv' := [(2, .int (v12_2 + (1 : Int32))), (0, .ref (G.2.1 1)), (1, .int v12_1)]) hx hb dX3_isKept_45 hl (k := 2) rfl rfl (by decide) rfl (fun ls hl => ?_)
          refine lv_goto (tgt := 12) hx hb dX3_isKept_48 (by decide) ?_
          exact ih v12_1 (v12_2 + (1 : Int32)) p4.2 _ _ _ h hP hS (lv_sub hl [1, 2, 0] rfl) hK
        · have h := (if_neg c).symm.trans h
          refine lv_iconst (v := 0) hx hb dX3_isKept_43 (by decide) ?_
          exact gw_rz X hP hS rfl h dX3_isKept_44
  have L2 : ∀ (n : Nat) (v2_1 : Int32) (σ : gw_S) (H : Heap) (locs : List Loc) (ls : Array Slot), f_X3_isKept_L2 n v2_1 σ = some o → gw_P G σ H → va_S (gw_A G s.heap.size) s.heap H locs → lv_has ls 3 [(0, .ref (G.2.1 1)), (1, .int v2_1)] → W p l e { frames := 3, cells := 0, slots := 0, locals := 64 } s m [.ref (G.2.1 1)].toArray below meth c H locs 0 0 (MQ below (gw_QZ G s.heap.size o) [.ref (G.2.1 1)].toArray s 0 0 (gw_A G s.heap.size)) (F0 m 2 ls []) := by
    intro n
    induction n with
    | zero =>
      intro v2_1 σ H locs ls h
      exact absurd h (by rw [f_X3_isKept_L2.eq_1]; exact fun h => nomatch h)
    | succ n ih =>
      intro v2_1 σ H locs ls h hP hS hl
      rw [f_X3_isKept_L2.eq_2] at h
      refine lv_iload_n hx hb dX3_isKept_2 rfl (lv_at hl 1 rfl) ?_
      refine lv_aload_n hx hb dX3_isKept_3 rfl (lv_at hl 0 rfl) ?_
      refine va_get (D := G.1) (ci := 6) (v := .int (σ 1 0)) (C := RX3) (T := TX3) (N := 5) hx hb hts gx_X3 hown hT.2.1 hP 1 rfl rfl 0 (by decide) (hts _ gv_48) (fun _ h9 => h9) rfl dX3_isKept_4 ?_
      refine lv_icmp_ge (tgt := 57) hx hb dX3_isKept_7 (by decide) (fun c => ?_) (fun c => ?_)
      · have h := (if_pos c).symm.trans h
        refine lv_iconst (v := 1) hx hb dX3_isKept_57 (by decide) ?_
        exact gw_rz X hP hS rfl h dX3_isKept_58
      · have h := (if_neg c).symm.trans h
        refine lv_iconst (v := 0) hx hb dX3_isKept_10 (by decide) ?_
        refine lv_istore_n (lv' := [(2, .int (0 : Int32)), (0, .ref (G.2.1 1)), (1, .int v2_1)]) hx hb dX3_isKept_11 rfl hl (by decide) rfl (fun ls hl => ?_)
        refine L12 64 _ v2_1 (0 : Int32) σ _ _ _ h hP hS (lv_sub hl [1, 2, 0] rfl) (fun w12_1 σ12 H locs ls h hP hS hl => ?_)
        refine lv_iinc (v := (w12_1 + (1 : Int32))) (lv' := [(1, .int (w12_1 + (1 : Int32))), (0, .ref (G.2.1 1))]) hx hb dX3_isKept_51 hl (k := 1) rfl rfl (by decide) rfl (fun ls hl => ?_)
        refine lv_goto (tgt := 2) hx hb dX3_isKept_54 (by decide) ?_
        exact ih (w12_1 + (1 : Int32)) σ12 _ _ _ h hP hS (lv_sub hl [1, 0] rfl)
  unfold f_X3_isKept at h
  refine lv_iconst (v := 0) hx hb dX3_isKept_0 (by decide) ?_
  refine lv_istore_n (lv' := [(1, .int (0 : Int32)), (0, .ref (G.2.1 1))]) hx hb dX3_isKept_1 rfl hl (by decide) rfl (fun ls hl => ?_)
  exact L2 64 (0 : Int32) σ _ _ _ h hP hS (lv_sub hl [1, 0] rfl)
def f_X3_add (σ : gw_S) : Option (Int32 × gw_S) := ((f_X8_put 2 (σ 1 0) ((1 : Int32) <<< ((σ 1 0) &&& 31)) σ).bind fun p1 => ((f_X8_put 3 (σ 1 0) (σ 1 0) p1).bind fun p2 => (some ((σ 1 0), (gw_up (gw_up (gw_up p2 1 2 ((p2 1 2) ||| ((1 : Int32) <<< ((σ 1 0) &&& 31)))) 1 0 (((gw_up p2 1 2 ((p2 1 2) ||| ((1 : Int32) <<< ((σ 1 0) &&& 31)))) 1 0) + (1 : Int32))) 1 1 (((gw_up (gw_up p2 1 2 ((p2 1 2) ||| ((1 : Int32) <<< ((σ 1 0) &&& 31)))) 1 0 (((gw_up p2 1 2 ((p2 1 2) ||| ((1 : Int32) <<< ((σ 1 0) &&& 31)))) 1 0) + (1 : Int32))) 1 1) + (1 : Int32)))))))
set_option maxHeartbeats 4000000 in
set_option maxRecDepth 100000 in
theorem gc_X3_add (l : Launch) (G : gw_G) (σ : gw_S) (o : (Int32 × gw_S)) (h : f_X3_add σ = some o) : gw_M (fun sz => gw_QI G sz o) l yX3_add cX3_add 2 (some .int) { frames := 1, cells := 0, slots := 0, locals := 22 } G [.ref (G.2.1 1)] σ := by
  refine gw_en (own := RX3) (lv := [(0, .ref (G.2.1 1))]) (by decide +kernel) rfl (Nat.le_of_ble_eq_true rfl) rfl ?_
  intro p e s m below meth c ls X hl hP
  obtain ⟨hx, hb, hml, hown, hts, -, -, hT, hZ, -⟩ := id X
  have hS : va_S (gw_A G s.heap.size) s.heap s.heap [] := va_S.rf
  unfold f_X3_add at h
  refine lv_aload_n hx hb dX3_add_0 rfl (lv_at hl 0 rfl) ?_
  refine va_get (D := G.1) (ci := 6) (v := .int (σ 1 0)) (C := RX3) (T := TX3) (N := 5) hx hb hts gx_X3 hown hT.2.1 hP 1 rfl rfl 0 (by decide) (hts _ gv_48) (fun _ h9 => h9) rfl dX3_add_1 ?_
  refine lv_istore_n (lv' := [(1, .int (σ 1 0)), (0, .ref (G.2.1 1))]) hx hb dX3_add_4 rfl hl (by decide) rfl (fun ls hl => ?_)
  refine lv_aload_n hx hb dX3_add_5 rfl (lv_at hl 1 rfl) ?_
  refine va_get (D := G.1) (ci := 6) (v := .ref (G.2.1 2)) (C := RX3) (T := TX3) (N := 5) hx hb hts gx_X3 hown hT.2.1 hP 1 rfl rfl 3 (by decide) (hts _ gv_51) (fun _ h9 => h9) rfl dX3_add_6 ?_
  refine lv_iload_n hx hb dX3_add_9 rfl (lv_at hl 0 rfl) ?_
  refine lv_iconst (v := 1) hx hb dX3_add_10 (by decide) ?_
  refine lv_iload_n hx hb dX3_add_11 rfl (lv_at hl 0 rfl) ?_
  refine lv_ishl hx hb dX3_add_12 ?_
  obtain ⟨p1, gp1, h⟩ := Option.bind_eq_some_iff.mp h
  refine gw_cv (gw_rN (host := "Genericwood") X hP hS (gc_X8_put l G 2 ⟨by decide, by decide⟩ (σ 1 0) ((1 : Int32) <<< ((σ 1 0) &&& 31)) σ _ gp1) gk_X8_put gv_631 gv_403 rfl rfl (Nat.le_of_ble_eq_true rfl) hl.1 ⟨rfl, rfl⟩ ⟨Nat.le_of_ble_eq_true rfl, Nat.le_of_ble_eq_true rfl⟩ ⟨Nat.le_of_ble_eq_true rfl, Nat.le_of_ble_eq_true rfl⟩ dX3_add_13) hS (fun H locs hP hS => ?_)
  refine lv_aload_n hx hb dX3_add_16 rfl (lv_at hl 1 rfl) ?_
  refine va_get (D := G.1) (ci := 6) (v := .ref (G.2.1 3)) (C := RX3) (T := TX3) (N := 5) hx hb hts gx_X3 hown hT.2.1 hP 1 rfl rfl 4 (by decide) (hts _ gv_52) (fun _ h9 => h9) rfl dX3_add_17 ?_
  refine lv_iload_n hx hb dX3_add_20 rfl (lv_at hl 0 rfl) ?_
  refine lv_iload_n hx hb dX3_add_21 rfl (lv_at hl 0 rfl) ?_
  obtain ⟨p2, gp2, h⟩ := Option.bind_eq_some_iff.mp h
  refine gw_cv (gw_rN (host := "Genericwood") X hP hS (gc_X8_put l G 3 ⟨by decide, by decide⟩ (σ 1 0) (σ 1 0) p1 _ gp2) gk_X8_put gv_631 gv_403 rfl rfl (Nat.le_of_ble_eq_true rfl) hl.1 ⟨rfl, rfl⟩ ⟨Nat.le_of_ble_eq_true rfl, Nat.le_of_ble_eq_true rfl⟩ ⟨Nat.le_of_ble_eq_true rfl, Nat.le_of_ble_eq_true rfl⟩ dX3_add_22) hS (fun H locs hP hS => ?_)
  refine lv_aload_n hx hb dX3_add_25 rfl (lv_at hl 1 rfl) ?_
  refine lv_dup hx hb dX3_add_26 rfl ?_
  refine va_get (D := G.1) (ci := 6) (v := .int (p2 1 2)) (C := RX3) (T := TX3) (N := 5) hx hb hts gx_X3 hown hT.2.1 hP 1 rfl rfl 2 (by decide) (hts _ gv_50) (fun _ h9 => h9) rfl dX3_add_27 ?_
  refine lv_iconst (v := 1) hx hb dX3_add_30 (by decide) ?_
  refine lv_iload_n hx hb dX3_add_31 rfl (lv_at hl 0 rfl) ?_
  refine lv_ishl hx hb dX3_add_32 ?_
  refine lv_ior hx hb dX3_add_33 ?_
  refine va_put (D := G.1) (ci := 6) (v := .int ((p2 1 2) ||| ((1 : Int32) <<< ((σ 1 0) &&& 31)))) (ty := .int) (C := RX3) (T := TX3) (N := 5) hx hb hts gx_X3 tyX3 tyX3_ok nmX3 hown hT.2.1 hP (gw_D hT.1 s.heap.size _) hS 1 rfl rfl 2 (by decide) (hts _ gv_50) (fun _ h9 => h9) rfl gx_pI rfl rfl (Nat.le_of_ble_eq_true rfl) dX3_add_34 (fun H locs hP _ hS => ?_)
  have hP : gw_P G (gw_up p2 1 2 ((p2 1 2) ||| ((1 : Int32) <<< ((σ 1 0) &&& 31)))) H := hP
  refine lv_aload_n hx hb dX3_add_37 rfl (lv_at hl 1 rfl) ?_
  refine lv_dup hx hb dX3_add_38 rfl ?_
  refine va_get (D := G.1) (ci := 6) (v := .int ((gw_up p2 1 2 ((p2 1 2) ||| ((1 : Int32) <<< ((σ 1 0) &&& 31)))) 1 0)) (C := RX3) (T := TX3) (N := 5) hx hb hts gx_X3 hown hT.2.1 hP 1 rfl rfl 0 (by decide) (hts _ gv_48) (fun _ h9 => h9) rfl dX3_add_39 ?_
  refine lv_iconst (v := 1) hx hb dX3_add_42 (by decide) ?_
  refine lv_iadd hx hb dX3_add_43 ?_
  refine va_put (D := G.1) (ci := 6) (v := .int (((gw_up p2 1 2 ((p2 1 2) ||| ((1 : Int32) <<< ((σ 1 0) &&& 31)))) 1 0) + (1 : Int32))) (ty := .int) (C := RX3) (T := TX3) (N := 5) hx hb hts gx_X3 tyX3 tyX3_ok nmX3 hown hT.2.1 hP (gw_D hT.1 s.heap.size _) hS 1 rfl rfl 0 (by decide) (hts _ gv_48) (fun _ h9 => h9) rfl gx_pI rfl rfl (Nat.le_of_ble_eq_true rfl) dX3_add_44 (fun H locs hP _ hS => ?_)
  have hP : gw_P G (gw_up (gw_up p2 1 2 ((p2 1 2) ||| ((1 : Int32) <<< ((σ 1 0) &&& 31)))) 1 0 (((gw_up p2 1 2 ((p2 1 2) ||| ((1 : Int32) <<< ((σ 1 0) &&& 31)))) 1 0) + (1 : Int32))) H := hP
  refine lv_aload_n hx hb dX3_add_47 rfl (lv_at hl 1 rfl) ?_
  refine lv_dup hx hb dX3_add_48 rfl ?_
  refine va_get (D := G.1) (ci := 6) (v := .int ((gw_up (gw_up p2 1 2 ((p2 1 2) ||| ((1 : Int32) <<< ((σ 1 0) &&& 31)))) 1 0 (((gw_up p2 1 2 ((p2 1 2) ||| ((1 : Int32) <<< ((σ 1 0) &&& 31)))) 1 0) + (1 : Int32))) 1 1)) (C := RX3) (T := TX3) (N := 5) hx hb hts gx_X3 hown hT.2.1 hP 1 rfl rfl 1 (by decide) (hts _ gv_49) (fun _ h9 => h9) rfl dX3_add_49 ?_
  refine lv_iconst (v := 1) hx hb dX3_add_52 (by decide) ?_
  refine lv_iadd hx hb dX3_add_53 ?_
  refine va_put (D := G.1) (ci := 6) (v := .int (((gw_up (gw_up p2 1 2 ((p2 1 2) ||| ((1 : Int32) <<< ((σ 1 0) &&& 31)))) 1 0 (((gw_up p2 1 2 ((p2 1 2) ||| ((1 : Int32) <<< ((σ 1 0) &&& 31)))) 1 0) + (1 : Int32))) 1 1) + (1 : Int32))) (ty := .int) (C := RX3) (T := TX3) (N := 5) hx hb hts gx_X3 tyX3 tyX3_ok nmX3 hown hT.2.1 hP (gw_D hT.1 s.heap.size _) hS 1 rfl rfl 1 (by decide) (hts _ gv_49) (fun _ h9 => h9) rfl gx_pI rfl rfl (Nat.le_of_ble_eq_true rfl) dX3_add_54 (fun H locs hP _ hS => ?_)
  have hP : gw_P G (gw_up (gw_up (gw_up p2 1 2 ((p2 1 2) ||| ((1 : Int32) <<< ((σ 1 0) &&& 31)))) 1 0 (((gw_up p2 1 2 ((p2 1 2) ||| ((1 : Int32) <<< ((σ 1 0) &&& 31)))) 1 0) + (1 : Int32))) 1 1 (((gw_up (gw_up p2 1 2 ((p2 1 2) ||| ((1 : Int32) <<< ((σ 1 0) &&& 31)))) 1 0 (((gw_up p2 1 2 ((p2 1 2) ||| ((1 : Int32) <<< ((σ 1 0) &&& 31)))) 1 0) + (1 : Int32))) 1 1) + (1 : Int32))) H := hP
  refine lv_iload_n hx hb dX3_add_57 rfl (lv_at hl 0 rfl) ?_
  exact gw_ri X hP hS h dX3_add_58
end
section
theorem gv_105 : Cond.fieldLink RX1 30 "Genericwood$Formulas" "count" "I" ∈ gw_L := gw_tab 105 (by decide +kernel) (by decide +kernel)
theorem gv_106 : Cond.fieldLink RX1 9 "Genericwood$Formulas" "kinds" "[I" ∈ gw_L := gw_tab 106 (by decide +kernel) (by decide +kernel)
theorem gv_989 : Cond.methodLinkNest RX1 34 yX8_put "Genericwood" ∈ gw_L := gw_tab 989 (by decide +kernel) (by decide +kernel)
theorem gv_107 : Cond.fieldLink RX1 15 "Genericwood$Formulas" "firsts" "[I" ∈ gw_L := gw_tab 107 (by decide +kernel) (by decide +kernel)
theorem gv_108 : Cond.fieldLink RX1 18 "Genericwood$Formulas" "seconds" "[I" ∈ gw_L := gw_tab 108 (by decide +kernel) (by decide +kernel)
theorem gv_109 : Cond.fieldLink RX1 21 "Genericwood$Formulas" "letters" "[I" ∈ gw_L := gw_tab 109 (by decide +kernel) (by decide +kernel)
theorem gv_110 : Cond.fieldLink RX1 24 "Genericwood$Formulas" "depths" "[I" ∈ gw_L := gw_tab 110 (by decide +kernel) (by decide +kernel)
theorem gv_111 : Cond.fieldLink RX1 27 "Genericwood$Formulas" "opens" "[I" ∈ gw_L := gw_tab 111 (by decide +kernel) (by decide +kernel)
theorem gv_336 : Cond.methodLinkNest RX1 38 yX8_at "Genericwood" ∈ gw_L := gw_tab 336 (by decide +kernel) (by decide +kernel)
theorem gv_72 : Cond.fieldLink RX2 34 "Genericwood$Names" "count" "I" ∈ gw_L := gw_tab 72 (by decide +kernel) (by decide +kernel)
theorem gv_73 : Cond.fieldLink RX2 38 "Genericwood$Names" "changes" "I" ∈ gw_L := gw_tab 73 (by decide +kernel) (by decide +kernel)
theorem gv_74 : Cond.fieldLink RX2 9 "Genericwood$Names" "sizes" "[I" ∈ gw_L := gw_tab 74 (by decide +kernel) (by decide +kernel)
theorem gv_311 : Cond.methodLinkNest RX2 41 yX8_at "Genericwood" ∈ gw_L := gw_tab 311 (by decide +kernel) (by decide +kernel)
theorem gv_75 : Cond.fieldLink RX2 15 "Genericwood$Names" "pairs" "[I" ∈ gw_L := gw_tab 75 (by decide +kernel) (by decide +kernel)
theorem gv_76 : Cond.fieldLink RX2 18 "Genericwood$Names" "heights" "[I" ∈ gw_L := gw_tab 76 (by decide +kernel) (by decide +kernel)
theorem gv_315 : Cond.code yX2_pairsOf cX2_pairsOf 2 (some .int) ∈ gw_L := gw_tab 315 (by decide +kernel) (by decide +kernel)
theorem gv_3 : Cond.initialized yX2_pairsOf.cls ∈ gw_L := gw_tab 3 (by decide +kernel) (by decide +kernel)
theorem gk_X2_pairsOf : gw_K yX2_pairsOf cX2_pairsOf 2 (some .int) 1 := ⟨gv_315, gv_3, by decide +kernel, by decide +kernel⟩
theorem gv_313 : Cond.instanceMethod yX2_pairsOf ∈ gw_L := gw_tab 313 (by decide +kernel) (by decide +kernel)
theorem gv_810 : Cond.methodLink RX2 45 yX2_pairsOf ∈ gw_L := gw_tab 810 (by decide +kernel) (by decide +kernel)
theorem gv_314 : Cond.selects RX2 yX2_pairsOf yX2_pairsOf ∈ gw_L := gw_tab 314 (by decide +kernel) (by decide +kernel)
theorem gv_319 : Cond.code yX2_lower cX2_lower 3 (some .int) ∈ gw_L := gw_tab 319 (by decide +kernel) (by decide +kernel)
theorem gk_X2_lower : gw_K yX2_lower cX2_lower 3 (some .int) 2 := ⟨gv_319, gv_3, by decide +kernel, by decide +kernel⟩
theorem gv_317 : Cond.instanceMethod yX2_lower ∈ gw_L := gw_tab 317 (by decide +kernel) (by decide +kernel)
theorem gv_811 : Cond.methodLink RX2 49 yX2_lower ∈ gw_L := gw_tab 811 (by decide +kernel) (by decide +kernel)
theorem gv_318 : Cond.selects RX2 yX2_lower yX2_lower ∈ gw_L := gw_tab 318 (by decide +kernel) (by decide +kernel)
theorem gv_323 : Cond.code yX2_promise cX2_promise 3 (some .int) ∈ gw_L := gw_tab 323 (by decide +kernel) (by decide +kernel)
theorem gk_X2_promise : gw_K yX2_promise cX2_promise 3 (some .int) 2 := ⟨gv_323, gv_3, by decide +kernel, by decide +kernel⟩
theorem gv_321 : Cond.instanceMethod yX2_promise ∈ gw_L := gw_tab 321 (by decide +kernel) (by decide +kernel)
theorem gv_843 : Cond.methodLink RX2 53 yX2_promise ∈ gw_L := gw_tab 843 (by decide +kernel) (by decide +kernel)
theorem gv_322 : Cond.selects RX2 yX2_promise yX2_promise ∈ gw_L := gw_tab 322 (by decide +kernel) (by decide +kernel)
theorem gv_812 : Cond.methodLink RX2 63 Lib.Math.max.name ∈ gw_L := gw_tab 812 (by decide +kernel) (by decide +kernel)
theorem gv_813 : Cond.methodLinkNest RX2 59 yX8_put "Genericwood" ∈ gw_L := gw_tab 813 (by decide +kernel) (by decide +kernel)
theorem gv_809 : Cond.code yX2_rankAll cX2_rankAll 7 none ∈ gw_L := gw_tab 809 (by decide +kernel) (by decide +kernel)
theorem gk_X2_rankAll : gw_K yX2_rankAll cX2_rankAll 7 none 3 := ⟨gv_809, gv_3, by decide +kernel, by decide +kernel⟩
theorem gv_808 : Cond.instanceMethod yX2_rankAll ∈ gw_L := gw_tab 808 (by decide +kernel) (by decide +kernel)
theorem gv_806 : Cond.methodLink RX2 68 yX2_rankAll ∈ gw_L := gw_tab 806 (by decide +kernel) (by decide +kernel)
theorem gv_s14 : Cond.selects RX2 yX2_rankAll yX2_rankAll ∈ gw_L := gw_sel 14 (by decide +kernel) (by decide +kernel)
theorem gv_805 : Cond.code yX2_changed cX2_changed 1 none ∈ gw_L := gw_tab 805 (by decide +kernel) (by decide +kernel)
theorem gk_X2_changed : gw_K yX2_changed cX2_changed 1 none 0 := ⟨gv_805, gv_3, by decide +kernel, by decide +kernel⟩
theorem gv_804 : Cond.instanceMethod yX2_changed ∈ gw_L := gw_tab 804 (by decide +kernel) (by decide +kernel)
theorem gv_802 : Cond.methodLink RX2 56 yX2_changed ∈ gw_L := gw_tab 802 (by decide +kernel) (by decide +kernel)
theorem gv_s13 : Cond.selects RX2 yX2_changed yX2_changed ∈ gw_L := gw_sel 13 (by decide +kernel) (by decide +kernel)
theorem gv_77 : Cond.fieldLink RX2 21 "Genericwood$Names" "trial" "[I" ∈ gw_L := gw_tab 77 (by decide +kernel) (by decide +kernel)
theorem gv_79 : Cond.fieldLink RX2 27 "Genericwood$Names" "standards" "[I" ∈ gw_L := gw_tab 79 (by decide +kernel) (by decide +kernel)
theorem gv_838 : Cond.code yX2_standardOf cX2_standardOf 2 (some .int) ∈ gw_L := gw_tab 838 (by decide +kernel) (by decide +kernel)
theorem gk_X2_standardOf : gw_K yX2_standardOf cX2_standardOf 2 (some .int) 1 := ⟨gv_838, gv_3, by decide +kernel, by decide +kernel⟩
theorem gv_836 : Cond.instanceMethod yX2_standardOf ∈ gw_L := gw_tab 836 (by decide +kernel) (by decide +kernel)
theorem gv_835 : Cond.methodLink RX2 71 yX2_standardOf ∈ gw_L := gw_tab 835 (by decide +kernel) (by decide +kernel)
theorem gv_837 : Cond.selects RX2 yX2_standardOf yX2_standardOf ∈ gw_L := gw_tab 837 (by decide +kernel) (by decide +kernel)
theorem gv_886 : Cond.methodLinkNest RX2 74 yX8_contains "Genericwood" ∈ gw_L := gw_tab 886 (by decide +kernel) (by decide +kernel)
theorem gv_801 : Cond.code yX2_add cX2_add 2 (some .int) ∈ gw_L := gw_tab 801 (by decide +kernel) (by decide +kernel)
theorem gk_X2_add : gw_K yX2_add cX2_add 2 (some .int) 0 := ⟨gv_801, gv_3, by decide +kernel, by decide +kernel⟩
theorem gv_799 : Cond.instanceMethod yX2_add ∈ gw_L := gw_tab 799 (by decide +kernel) (by decide +kernel)
theorem gv_891 : Cond.methodLink RX2 78 yX2_add ∈ gw_L := gw_tab 891 (by decide +kernel) (by decide +kernel)
theorem gv_800 : Cond.selects RX2 yX2_add yX2_add ∈ gw_L := gw_tab 800 (by decide +kernel) (by decide +kernel)
theorem gv_853 : Cond.code yX2_addPair cX2_addPair 5 none ∈ gw_L := gw_tab 853 (by decide +kernel) (by decide +kernel)
theorem gk_X2_addPair : gw_K yX2_addPair cX2_addPair 5 none 3 := ⟨gv_853, gv_3, by decide +kernel, by decide +kernel⟩
theorem gv_851 : Cond.instanceMethod yX2_addPair ∈ gw_L := gw_tab 851 (by decide +kernel) (by decide +kernel)
theorem gv_892 : Cond.methodLink RX2 82 yX2_addPair ∈ gw_L := gw_tab 892 (by decide +kernel) (by decide +kernel)
theorem gv_852 : Cond.selects RX2 yX2_addPair yX2_addPair ∈ gw_L := gw_tab 852 (by decide +kernel) (by decide +kernel)
theorem gv_78 : Cond.fieldLink RX2 24 "Genericwood$Names" "drafted" "[I" ∈ gw_L := gw_tab 78 (by decide +kernel) (by decide +kernel)
theorem gv_71 : Cond.fieldLink RX2 30 "Genericwood$Names" "order" "LGenericwood$Order;" ∈ gw_L := gw_tab 71 (by decide +kernel) (by decide +kernel)
theorem gv_952 : Cond.methodLink RX2 90 yX3_down ∈ gw_L := gw_tab 952 (by decide +kernel) (by decide +kernel)
theorem gv_261 : Cond.code yX3_size cX3_size 1 (some .int) ∈ gw_L := gw_tab 261 (by decide +kernel) (by decide +kernel)
theorem gk_X3_size : gw_K yX3_size cX3_size 1 (some .int) 0 := ⟨gv_261, gv_2, by decide +kernel, by decide +kernel⟩
theorem gv_259 : Cond.instanceMethod yX3_size ∈ gw_L := gw_tab 259 (by decide +kernel) (by decide +kernel)
theorem gv_953 : Cond.methodLink RX2 95 yX3_size ∈ gw_L := gw_tab 953 (by decide +kernel) (by decide +kernel)
theorem gv_260 : Cond.selects RX3 yX3_size yX3_size ∈ gw_L := gw_tab 260 (by decide +kernel) (by decide +kernel)
theorem gv_957 : Cond.code yX2_isDrafted cX2_isDrafted 4 (some .boolean) ∈ gw_L := gw_tab 957 (by decide +kernel) (by decide +kernel)
theorem gk_X2_isDrafted : gw_K yX2_isDrafted cX2_isDrafted 4 (some .boolean) 2 := ⟨gv_957, gv_3, by decide +kernel, by decide +kernel⟩
theorem gv_956 : Cond.instanceMethod yX2_isDrafted ∈ gw_L := gw_tab 956 (by decide +kernel) (by decide +kernel)
theorem gv_954 : Cond.methodLink RX2 98 yX2_isDrafted ∈ gw_L := gw_tab 954 (by decide +kernel) (by decide +kernel)
theorem gv_s17 : Cond.selects RX2 yX2_isDrafted yX2_isDrafted ∈ gw_L := gw_sel 17 (by decide +kernel) (by decide +kernel)
theorem gv_951 : Cond.code yX2_draftPart cX2_draftPart 9 (some .int) ∈ gw_L := gw_tab 951 (by decide +kernel) (by decide +kernel)
theorem gk_X2_draftPart : gw_K yX2_draftPart cX2_draftPart 9 (some .int) 3 := ⟨gv_951, gv_3, by decide +kernel, by decide +kernel⟩
theorem gv_950 : Cond.instanceMethod yX2_draftPart ∈ gw_L := gw_tab 950 (by decide +kernel) (by decide +kernel)
theorem gv_948 : Cond.methodLink RX2 86 yX2_draftPart ∈ gw_L := gw_tab 948 (by decide +kernel) (by decide +kernel)
theorem gv_s16 : Cond.selects RX2 yX2_draftPart yX2_draftPart ∈ gw_L := gw_sel 16 (by decide +kernel) (by decide +kernel)
def f_X1_size (σ : gw_S) : Option (Int32 × gw_S) := (some ((σ 11 0), σ))
set_option maxHeartbeats 4000000 in
set_option maxRecDepth 100000 in
theorem gc_X1_size (l : Launch) (G : gw_G) (σ : gw_S) (o : (Int32 × gw_S)) (h : f_X1_size σ = some o) : gw_M (fun sz => gw_QI G sz o) l yX1_size cX1_size 1 (some .int) { frames := 0, cells := 0, slots := 0, locals := 0 } G [.ref (G.2.1 11)] σ := by
  refine gw_en (own := RX1) (lv := [(0, .ref (G.2.1 11))]) (by decide +kernel) rfl (Nat.le_of_ble_eq_true rfl) rfl ?_
  intro p e s m below meth c ls X hl hP
  obtain ⟨hx, hb, hml, hown, hts, -, -, hT, hZ, -⟩ := id X
  have hS : va_S (gw_A G s.heap.size) s.heap s.heap [] := va_S.rf
  unfold f_X1_size at h
  refine lv_aload_n hx hb dX1_size_0 rfl (lv_at hl 0 rfl) ?_
  refine va_get (D := G.1) (ci := 4) (v := .int (σ 11 0)) (C := RX1) (T := TX1) (N := 7) hx hb hts gx_X1 hown hT.2.1 hP 11 rfl rfl 0 (by decide) (hts _ gv_105) (fun _ h9 => h9) rfl dX1_size_1 ?_
  exact gw_ri X hP hS h dX1_size_4
def f_X1_knows (a0 : Int32) (σ : gw_S) : Option (Int32 × gw_S) := (if a0 < 0 then (some ((0 : Int32), σ)) else (if (σ 11 0) ≤ a0 then (some ((0 : Int32), σ)) else (some ((1 : Int32), σ))))
set_option maxHeartbeats 4000000 in
set_option maxRecDepth 100000 in
theorem gc_X1_knows (l : Launch) (G : gw_G) (a0 : Int32) (σ : gw_S) (o : (Int32 × gw_S)) (h : f_X1_knows a0 σ = some o) : gw_M (fun sz => gw_QZ G sz o) l yX1_knows cX1_knows 2 (some .boolean) { frames := 0, cells := 0, slots := 0, locals := 0 } G [.ref (G.2.1 11), .int a0] σ := by
  refine gw_en (own := RX1) (lv := [(0, .ref (G.2.1 11)), (1, .int a0)]) (by decide +kernel) rfl (Nat.le_of_ble_eq_true rfl) rfl ?_
  intro p e s m below meth c ls X hl hP
  obtain ⟨hx, hb, hml, hown, hts, -, -, hT, hZ, -⟩ := id X
  have hS : va_S (gw_A G s.heap.size) s.heap s.heap [] := va_S.rf
  unfold f_X1_knows at h
  refine lv_iload_n hx hb dX1_knows_0 rfl (lv_at hl 1 rfl) ?_
  refine lv_if_lt (tgt := 16) hx hb dX1_knows_1 (by decide) (fun c => ?_) (fun c => ?_)
  · have h := (if_pos c).symm.trans h
    refine lv_iconst (v := 0) hx hb dX1_knows_16 (by decide) ?_
    exact gw_rz X hP hS rfl h dX1_knows_17
  · have h := (if_neg c).symm.trans h
    refine lv_iload_n hx hb dX1_knows_4 rfl (lv_at hl 1 rfl) ?_
    refine lv_aload_n hx hb dX1_knows_5 rfl (lv_at hl 0 rfl) ?_
    refine va_get (D := G.1) (ci := 4) (v := .int (σ 11 0)) (C := RX1) (T := TX1) (N := 7) hx hb hts gx_X1 hown hT.2.1 hP 11 rfl rfl 0 (by decide) (hts _ gv_105) (fun _ h9 => h9) rfl dX1_knows_6 ?_
    refine lv_icmp_ge (tgt := 16) hx hb dX1_knows_9 (by decide) (fun c => ?_) (fun c => ?_)
    · have h := (if_pos c).symm.trans h
      refine lv_iconst (v := 0) hx hb dX1_knows_16 (by decide) ?_
      exact gw_rz X hP hS rfl h dX1_knows_17
    · have h := (if_neg c).symm.trans h
      refine lv_iconst (v := 1) hx hb dX1_knows_12 (by decide) ?_
      refine lv_goto (tgt := 17) hx hb dX1_knows_13 (by decide) ?_
      exact gw_rz X hP hS rfl h dX1_knows_17
def f_X1_add (a0 : Int32) (a1 : Int32) (a2 : Int32) (a3 : Int32) (a4 : Int32) (a5 : Int32) (σ : gw_S) : Option (Int32 × gw_S) := ((f_X8_put 12 (σ 11 0) a0 σ).bind fun p1 => ((f_X8_put 13 (σ 11 0) a1 p1).bind fun p2 => ((f_X8_put 14 (σ 11 0) a2 p2).bind fun p3 => ((f_X8_put 15 (σ 11 0) a3 p3).bind fun p4 => ((f_X8_put 16 (σ 11 0) a4 p4).bind fun p5 => ((f_X8_put 17 (σ 11 0) a5 p5).bind fun p6 => (some ((σ 11 0), (gw_up p6 11 0 ((p6 11 0) + (1 : Int32)))))))))))
set_option maxHeartbeats 4000000 in
set_option maxRecDepth 100000 in
theorem gc_X1_add (l : Launch) (G : gw_G) (a0 : Int32) (a1 : Int32) (a2 : Int32) (a3 : Int32) (a4 : Int32) (a5 : Int32) (σ : gw_S) (o : (Int32 × gw_S)) (h : f_X1_add a0 a1 a2 a3 a4 a5 σ = some o) : gw_M (fun sz => gw_QI G sz o) l yX1_add cX1_add 8 (some .int) { frames := 1, cells := 0, slots := 0, locals := 22 } G [.ref (G.2.1 11), .int a0, .int a1, .int a2, .int a3, .int a4, .int a5] σ := by
  refine gw_en (own := RX1) (lv := [(0, .ref (G.2.1 11)), (1, .int a0), (2, .int a1), (3, .int a2), (4, .int a3), (5, .int a4), (6, .int a5)]) (by decide +kernel) rfl (Nat.le_of_ble_eq_true rfl) rfl ?_
  intro p e s m below meth c ls X hl hP
  obtain ⟨hx, hb, hml, hown, hts, -, -, hT, hZ, -⟩ := id X
  have hS : va_S (gw_A G s.heap.size) s.heap s.heap [] := va_S.rf
  unfold f_X1_add at h
  refine lv_aload_n hx hb dX1_add_0 rfl (lv_at hl 0 rfl) ?_
  refine va_get (D := G.1) (ci := 4) (v := .int (σ 11 0)) (C := RX1) (T := TX1) (N := 7) hx hb hts gx_X1 hown hT.2.1 hP 11 rfl rfl 0 (by decide) (hts _ gv_105) (fun _ h9 => h9) rfl dX1_add_1 ?_
  refine lv_istore (lv' := [(7, .int (σ 11 0)), (0, .ref (G.2.1 11)), (1, .int a0), (2, .int a1), (3, .int a2), (4, .int a3), (5, .int a4), (6, .int a5)]) hx hb dX1_add_4 hl (by decide) rfl (fun ls hl => ?_)
  refine lv_aload_n hx hb dX1_add_6 rfl (lv_at hl 1 rfl) ?_
  refine va_get (D := G.1) (ci := 4) (v := .ref (G.2.1 12)) (C := RX1) (T := TX1) (N := 7) hx hb hts gx_X1 hown hT.2.1 hP 11 rfl rfl 1 (by decide) (hts _ gv_106) (fun _ h9 => h9) rfl dX1_add_7 ?_
  refine lv_iload hx hb dX1_add_10 (lv_at hl 0 rfl) ?_
  refine lv_iload_n hx hb dX1_add_12 rfl (lv_at hl 2 rfl) ?_
  obtain ⟨p1, gp1, h⟩ := Option.bind_eq_some_iff.mp h
  refine gw_cv (gw_rN (host := "Genericwood") X hP hS (gc_X8_put l G 12 ⟨by decide, by decide⟩ (σ 11 0) a0 σ _ gp1) gk_X8_put gv_989 gv_403 rfl rfl (Nat.le_of_ble_eq_true rfl) hl.1 ⟨rfl, rfl⟩ ⟨Nat.le_of_ble_eq_true rfl, Nat.le_of_ble_eq_true rfl⟩ ⟨Nat.le_of_ble_eq_true rfl, Nat.le_of_ble_eq_true rfl⟩ dX1_add_13) hS (fun H locs hP hS => ?_)
  refine lv_aload_n hx hb dX1_add_16 rfl (lv_at hl 1 rfl) ?_
  refine va_get (D := G.1) (ci := 4) (v := .ref (G.2.1 13)) (C := RX1) (T := TX1) (N := 7) hx hb hts gx_X1 hown hT.2.1 hP 11 rfl rfl 2 (by decide) (hts _ gv_107) (fun _ h9 => h9) rfl dX1_add_17 ?_
  refine lv_iload hx hb dX1_add_20 (lv_at hl 0 rfl) ?_
  refine lv_iload_n hx hb dX1_add_22 rfl (lv_at hl 3 rfl) ?_
  obtain ⟨p2, gp2, h⟩ := Option.bind_eq_some_iff.mp h
  refine gw_cv (gw_rN (host := "Genericwood") X hP hS (gc_X8_put l G 13 ⟨by decide, by decide⟩ (σ 11 0) a1 p1 _ gp2) gk_X8_put gv_989 gv_403 rfl rfl (Nat.le_of_ble_eq_true rfl) hl.1 ⟨rfl, rfl⟩ ⟨Nat.le_of_ble_eq_true rfl, Nat.le_of_ble_eq_true rfl⟩ ⟨Nat.le_of_ble_eq_true rfl, Nat.le_of_ble_eq_true rfl⟩ dX1_add_23) hS (fun H locs hP hS => ?_)
  refine lv_aload_n hx hb dX1_add_26 rfl (lv_at hl 1 rfl) ?_
  refine va_get (D := G.1) (ci := 4) (v := .ref (G.2.1 14)) (C := RX1) (T := TX1) (N := 7) hx hb hts gx_X1 hown hT.2.1 hP 11 rfl rfl 3 (by decide) (hts _ gv_108) (fun _ h9 => h9) rfl dX1_add_27 ?_
  refine lv_iload hx hb dX1_add_30 (lv_at hl 0 rfl) ?_
  refine lv_iload_n hx hb dX1_add_32 rfl (lv_at hl 4 rfl) ?_
  obtain ⟨p3, gp3, h⟩ := Option.bind_eq_some_iff.mp h
  refine gw_cv (gw_rN (host := "Genericwood") X hP hS (gc_X8_put l G 14 ⟨by decide, by decide⟩ (σ 11 0) a2 p2 _ gp3) gk_X8_put gv_989 gv_403 rfl rfl (Nat.le_of_ble_eq_true rfl) hl.1 ⟨rfl, rfl⟩ ⟨Nat.le_of_ble_eq_true rfl, Nat.le_of_ble_eq_true rfl⟩ ⟨Nat.le_of_ble_eq_true rfl, Nat.le_of_ble_eq_true rfl⟩ dX1_add_33) hS (fun H locs hP hS => ?_)
  refine lv_aload_n hx hb dX1_add_36 rfl (lv_at hl 1 rfl) ?_
  refine va_get (D := G.1) (ci := 4) (v := .ref (G.2.1 15)) (C := RX1) (T := TX1) (N := 7) hx hb hts gx_X1 hown hT.2.1 hP 11 rfl rfl 4 (by decide) (hts _ gv_109) (fun _ h9 => h9) rfl dX1_add_37 ?_
  refine lv_iload hx hb dX1_add_40 (lv_at hl 0 rfl) ?_
  refine lv_iload hx hb dX1_add_42 (lv_at hl 5 rfl) ?_
  obtain ⟨p4, gp4, h⟩ := Option.bind_eq_some_iff.mp h
  refine gw_cv (gw_rN (host := "Genericwood") X hP hS (gc_X8_put l G 15 ⟨by decide, by decide⟩ (σ 11 0) a3 p3 _ gp4) gk_X8_put gv_989 gv_403 rfl rfl (Nat.le_of_ble_eq_true rfl) hl.1 ⟨rfl, rfl⟩ ⟨Nat.le_of_ble_eq_true rfl, Nat.le_of_ble_eq_true rfl⟩ ⟨Nat.le_of_ble_eq_true rfl, Nat.le_of_ble_eq_true rfl⟩ dX1_add_44) hS (fun H locs hP hS => ?_)
  refine lv_aload_n hx hb dX1_add_47 rfl (lv_at hl 1 rfl) ?_
  refine va_get (D := G.1) (ci := 4) (v := .ref (G.2.1 16)) (C := RX1) (T := TX1) (N := 7) hx hb hts gx_X1 hown hT.2.1 hP 11 rfl rfl 5 (by decide) (hts _ gv_110) (fun _ h9 => h9) rfl dX1_add_48 ?_
  refine lv_iload hx hb dX1_add_51 (lv_at hl 0 rfl) ?_
  refine lv_iload hx hb dX1_add_53 (lv_at hl 6 rfl) ?_
  obtain ⟨p5, gp5, h⟩ := Option.bind_eq_some_iff.mp h
  refine gw_cv (gw_rN (host := "Genericwood") X hP hS (gc_X8_put l G 16 ⟨by decide, by decide⟩ (σ 11 0) a4 p4 _ gp5) gk_X8_put gv_989 gv_403 rfl rfl (Nat.le_of_ble_eq_true rfl) hl.1 ⟨rfl, rfl⟩ ⟨Nat.le_of_ble_eq_true rfl, Nat.le_of_ble_eq_true rfl⟩ ⟨Nat.le_of_ble_eq_true rfl, Nat.le_of_ble_eq_true rfl⟩ dX1_add_55) hS (fun H locs hP hS => ?_)
  refine lv_aload_n hx hb dX1_add_58 rfl (lv_at hl 1 rfl) ?_
  refine va_get (D := G.1) (ci := 4) (v := .ref (G.2.1 17)) (C := RX1) (T := TX1) (N := 7) hx hb hts gx_X1 hown hT.2.1 hP 11 rfl rfl 6 (by decide) (hts _ gv_111) (fun _ h9 => h9) rfl dX1_add_59 ?_
  refine lv_iload hx hb dX1_add_62 (lv_at hl 0 rfl) ?_
  refine lv_iload hx hb dX1_add_64 (lv_at hl 7 rfl) ?_
  obtain ⟨p6, gp6, h⟩ := Option.bind_eq_some_iff.mp h
  refine gw_cv (gw_rN (host := "Genericwood") X hP hS (gc_X8_put l G 17 ⟨by decide, by decide⟩ (σ 11 0) a5 p5 _ gp6) gk_X8_put gv_989 gv_403 rfl rfl (Nat.le_of_ble_eq_true rfl) hl.1 ⟨rfl, rfl⟩ ⟨Nat.le_of_ble_eq_true rfl, Nat.le_of_ble_eq_true rfl⟩ ⟨Nat.le_of_ble_eq_true rfl, Nat.le_of_ble_eq_true rfl⟩ dX1_add_66) hS (fun H locs hP hS => ?_)
  refine lv_aload_n hx hb dX1_add_69 rfl (lv_at hl 1 rfl) ?_
  refine lv_dup hx hb dX1_add_70 rfl ?_
  refine va_get (D := G.1) (ci := 4) (v := .int (p6 11 0)) (C := RX1) (T := TX1) (N := 7) hx hb hts gx_X1 hown hT.2.1 hP 11 rfl rfl 0 (by decide) (hts _ gv_105) (fun _ h9 => h9) rfl dX1_add_71 ?_
  refine lv_iconst (v := 1) hx hb dX1_add_74 (by decide) ?_
  refine lv_iadd hx hb dX1_add_75 ?_
  refine va_put (D := G.1) (ci := 4) (v := .int ((p6 11 0) + (1 : Int32))) (ty := .int) (C := RX1) (T := TX1) (N := 7) hx hb hts gx_X1 tyX1 tyX1_ok nmX1 hown hT.2.1 hP (gw_D hT.1 s.heap.size _) hS 11 rfl rfl 0 (by decide) (hts _ gv_105) (fun _ h9 => h9) rfl gx_pI rfl rfl (Nat.le_of_ble_eq_true rfl) dX1_add_76 (fun H locs hP _ hS => ?_)
  have hP : gw_P G (gw_up p6 11 0 ((p6 11 0) + (1 : Int32))) H := hP
  refine lv_iload hx hb dX1_add_79 (lv_at hl 0 rfl) ?_
  exact gw_ri X hP hS h dX1_add_81
def f_X1_removeAll (σ : gw_S) : Option (Int32 × gw_S) := (some ((σ 11 0), (gw_up σ 11 0 (0 : Int32))))
set_option maxHeartbeats 4000000 in
set_option maxRecDepth 100000 in
theorem gc_X1_removeAll (l : Launch) (G : gw_G) (σ : gw_S) (o : (Int32 × gw_S)) (h : f_X1_removeAll σ = some o) : gw_M (fun sz => gw_QI G sz o) l yX1_removeAll cX1_removeAll 2 (some .int) { frames := 0, cells := 0, slots := 0, locals := 0 } G [.ref (G.2.1 11)] σ := by
  refine gw_en (own := RX1) (lv := [(0, .ref (G.2.1 11))]) (by decide +kernel) rfl (Nat.le_of_ble_eq_true rfl) rfl ?_
  intro p e s m below meth c ls X hl hP
  obtain ⟨hx, hb, hml, hown, hts, -, -, hT, hZ, -⟩ := id X
  have hS : va_S (gw_A G s.heap.size) s.heap s.heap [] := va_S.rf
  unfold f_X1_removeAll at h
  refine lv_aload_n hx hb dX1_removeAll_0 rfl (lv_at hl 0 rfl) ?_
  refine va_get (D := G.1) (ci := 4) (v := .int (σ 11 0)) (C := RX1) (T := TX1) (N := 7) hx hb hts gx_X1 hown hT.2.1 hP 11 rfl rfl 0 (by decide) (hts _ gv_105) (fun _ h9 => h9) rfl dX1_removeAll_1 ?_
  refine lv_istore_n (lv' := [(1, .int (σ 11 0)), (0, .ref (G.2.1 11))]) hx hb dX1_removeAll_4 rfl hl (by decide) rfl (fun ls hl => ?_)
  refine lv_aload_n hx hb dX1_removeAll_5 rfl (lv_at hl 1 rfl) ?_
  refine lv_iconst (v := 0) hx hb dX1_removeAll_6 (by decide) ?_
  refine va_put (D := G.1) (ci := 4) (v := .int (0 : Int32)) (ty := .int) (C := RX1) (T := TX1) (N := 7) hx hb hts gx_X1 tyX1 tyX1_ok nmX1 hown hT.2.1 hP (gw_D hT.1 s.heap.size _) hS 11 rfl rfl 0 (by decide) (hts _ gv_105) (fun _ h9 => h9) rfl gx_pI rfl rfl (Nat.le_of_ble_eq_true rfl) dX1_removeAll_7 (fun H locs hP _ hS => ?_)
  have hP : gw_P G (gw_up σ 11 0 (0 : Int32)) H := hP
  refine lv_iload_n hx hb dX1_removeAll_10 rfl (lv_at hl 0 rfl) ?_
  exact gw_ri X hP hS h dX1_removeAll_11
def f_X1_kind (a0 : Int32) (σ : gw_S) : Option (Int32 × gw_S) := ((f_X8_at 12 a0 σ).bind fun p1 => (some (p1.1, p1.2)))
set_option maxHeartbeats 4000000 in
set_option maxRecDepth 100000 in
theorem gc_X1_kind (l : Launch) (G : gw_G) (a0 : Int32) (σ : gw_S) (o : (Int32 × gw_S)) (h : f_X1_kind a0 σ = some o) : gw_M (fun sz => gw_QI G sz o) l yX1_kind cX1_kind 2 (some .int) { frames := 1, cells := 0, slots := 0, locals := 21 } G [.ref (G.2.1 11), .int a0] σ := by
  refine gw_en (own := RX1) (lv := [(0, .ref (G.2.1 11)), (1, .int a0)]) (by decide +kernel) rfl (Nat.le_of_ble_eq_true rfl) rfl ?_
  intro p e s m below meth c ls X hl hP
  obtain ⟨hx, hb, hml, hown, hts, -, -, hT, hZ, -⟩ := id X
  have hS : va_S (gw_A G s.heap.size) s.heap s.heap [] := va_S.rf
  unfold f_X1_kind at h
  refine lv_aload_n hx hb dX1_kind_0 rfl (lv_at hl 0 rfl) ?_
  refine va_get (D := G.1) (ci := 4) (v := .ref (G.2.1 12)) (C := RX1) (T := TX1) (N := 7) hx hb hts gx_X1 hown hT.2.1 hP 11 rfl rfl 1 (by decide) (hts _ gv_106) (fun _ h9 => h9) rfl dX1_kind_1 ?_
  refine lv_iload_n hx hb dX1_kind_4 rfl (lv_at hl 1 rfl) ?_
  obtain ⟨p1, gp1, h⟩ := Option.bind_eq_some_iff.mp h
  refine gw_ci (gw_rN (host := "Genericwood") X hP hS (gc_X8_at l G 12 ⟨by decide, by decide⟩ a0 σ _ gp1) gk_X8_at gv_336 gv_275 rfl rfl (Nat.le_of_ble_eq_true rfl) hl.1 ⟨rfl, rfl⟩ ⟨Nat.le_of_ble_eq_true rfl, Nat.le_of_ble_eq_true rfl⟩ ⟨Nat.le_of_ble_eq_true rfl, Nat.le_of_ble_eq_true rfl⟩ dX1_kind_5) hS (fun H locs hP hS => ?_)
  exact gw_ri X hP hS h dX1_kind_8
def f_X1_first (a0 : Int32) (σ : gw_S) : Option (Int32 × gw_S) := ((f_X8_at 13 a0 σ).bind fun p1 => (some (p1.1, p1.2)))
set_option maxHeartbeats 4000000 in
set_option maxRecDepth 100000 in
theorem gc_X1_first (l : Launch) (G : gw_G) (a0 : Int32) (σ : gw_S) (o : (Int32 × gw_S)) (h : f_X1_first a0 σ = some o) : gw_M (fun sz => gw_QI G sz o) l yX1_first cX1_first 2 (some .int) { frames := 1, cells := 0, slots := 0, locals := 21 } G [.ref (G.2.1 11), .int a0] σ := by
  refine gw_en (own := RX1) (lv := [(0, .ref (G.2.1 11)), (1, .int a0)]) (by decide +kernel) rfl (Nat.le_of_ble_eq_true rfl) rfl ?_
  intro p e s m below meth c ls X hl hP
  obtain ⟨hx, hb, hml, hown, hts, -, -, hT, hZ, -⟩ := id X
  have hS : va_S (gw_A G s.heap.size) s.heap s.heap [] := va_S.rf
  unfold f_X1_first at h
  refine lv_aload_n hx hb dX1_first_0 rfl (lv_at hl 0 rfl) ?_
  refine va_get (D := G.1) (ci := 4) (v := .ref (G.2.1 13)) (C := RX1) (T := TX1) (N := 7) hx hb hts gx_X1 hown hT.2.1 hP 11 rfl rfl 2 (by decide) (hts _ gv_107) (fun _ h9 => h9) rfl dX1_first_1 ?_
  refine lv_iload_n hx hb dX1_first_4 rfl (lv_at hl 1 rfl) ?_
  obtain ⟨p1, gp1, h⟩ := Option.bind_eq_some_iff.mp h
  refine gw_ci (gw_rN (host := "Genericwood") X hP hS (gc_X8_at l G 13 ⟨by decide, by decide⟩ a0 σ _ gp1) gk_X8_at gv_336 gv_275 rfl rfl (Nat.le_of_ble_eq_true rfl) hl.1 ⟨rfl, rfl⟩ ⟨Nat.le_of_ble_eq_true rfl, Nat.le_of_ble_eq_true rfl⟩ ⟨Nat.le_of_ble_eq_true rfl, Nat.le_of_ble_eq_true rfl⟩ dX1_first_5) hS (fun H locs hP hS => ?_)
  exact gw_ri X hP hS h dX1_first_8
def f_X1_second (a0 : Int32) (σ : gw_S) : Option (Int32 × gw_S) := ((f_X8_at 14 a0 σ).bind fun p1 => (some (p1.1, p1.2)))
set_option maxHeartbeats 4000000 in
set_option maxRecDepth 100000 in
theorem gc_X1_second (l : Launch) (G : gw_G) (a0 : Int32) (σ : gw_S) (o : (Int32 × gw_S)) (h : f_X1_second a0 σ = some o) : gw_M (fun sz => gw_QI G sz o) l yX1_second cX1_second 2 (some .int) { frames := 1, cells := 0, slots := 0, locals := 21 } G [.ref (G.2.1 11), .int a0] σ := by
  refine gw_en (own := RX1) (lv := [(0, .ref (G.2.1 11)), (1, .int a0)]) (by decide +kernel) rfl (Nat.le_of_ble_eq_true rfl) rfl ?_
  intro p e s m below meth c ls X hl hP
  obtain ⟨hx, hb, hml, hown, hts, -, -, hT, hZ, -⟩ := id X
  have hS : va_S (gw_A G s.heap.size) s.heap s.heap [] := va_S.rf
  unfold f_X1_second at h
  refine lv_aload_n hx hb dX1_second_0 rfl (lv_at hl 0 rfl) ?_
  refine va_get (D := G.1) (ci := 4) (v := .ref (G.2.1 14)) (C := RX1) (T := TX1) (N := 7) hx hb hts gx_X1 hown hT.2.1 hP 11 rfl rfl 3 (by decide) (hts _ gv_108) (fun _ h9 => h9) rfl dX1_second_1 ?_
  refine lv_iload_n hx hb dX1_second_4 rfl (lv_at hl 1 rfl) ?_
  obtain ⟨p1, gp1, h⟩ := Option.bind_eq_some_iff.mp h
  refine gw_ci (gw_rN (host := "Genericwood") X hP hS (gc_X8_at l G 14 ⟨by decide, by decide⟩ a0 σ _ gp1) gk_X8_at gv_336 gv_275 rfl rfl (Nat.le_of_ble_eq_true rfl) hl.1 ⟨rfl, rfl⟩ ⟨Nat.le_of_ble_eq_true rfl, Nat.le_of_ble_eq_true rfl⟩ ⟨Nat.le_of_ble_eq_true rfl, Nat.le_of_ble_eq_true rfl⟩ dX1_second_5) hS (fun H locs hP hS => ?_)
  exact gw_ri X hP hS h dX1_second_8
def f_X1_letter (a0 : Int32) (σ : gw_S) : Option (Int32 × gw_S) := ((f_X8_at 15 a0 σ).bind fun p1 => (some (p1.1, p1.2)))
set_option maxHeartbeats 4000000 in
set_option maxRecDepth 100000 in
theorem gc_X1_letter (l : Launch) (G : gw_G) (a0 : Int32) (σ : gw_S) (o : (Int32 × gw_S)) (h : f_X1_letter a0 σ = some o) : gw_M (fun sz => gw_QI G sz o) l yX1_letter cX1_letter 2 (some .int) { frames := 1, cells := 0, slots := 0, locals := 21 } G [.ref (G.2.1 11), .int a0] σ := by
  refine gw_en (own := RX1) (lv := [(0, .ref (G.2.1 11)), (1, .int a0)]) (by decide +kernel) rfl (Nat.le_of_ble_eq_true rfl) rfl ?_
  intro p e s m below meth c ls X hl hP
  obtain ⟨hx, hb, hml, hown, hts, -, -, hT, hZ, -⟩ := id X
  have hS : va_S (gw_A G s.heap.size) s.heap s.heap [] := va_S.rf
  unfold f_X1_letter at h
  refine lv_aload_n hx hb dX1_letter_0 rfl (lv_at hl 0 rfl) ?_
  refine va_get (D := G.1) (ci := 4) (v := .ref (G.2.1 15)) (C := RX1) (T := TX1) (N := 7) hx hb hts gx_X1 hown hT.2.1 hP 11 rfl rfl 4 (by decide) (hts _ gv_109) (fun _ h9 => h9) rfl dX1_letter_1 ?_
  refine lv_iload_n hx hb dX1_letter_4 rfl (lv_at hl 1 rfl) ?_
  obtain ⟨p1, gp1, h⟩ := Option.bind_eq_some_iff.mp h
  refine gw_ci (gw_rN (host := "Genericwood") X hP hS (gc_X8_at l G 15 ⟨by decide, by decide⟩ a0 σ _ gp1) gk_X8_at gv_336 gv_275 rfl rfl (Nat.le_of_ble_eq_true rfl) hl.1 ⟨rfl, rfl⟩ ⟨Nat.le_of_ble_eq_true rfl, Nat.le_of_ble_eq_true rfl⟩ ⟨Nat.le_of_ble_eq_true rfl, Nat.le_of_ble_eq_true rfl⟩ dX1_letter_5) hS (fun H locs hP hS => ?_)
  exact gw_ri X hP hS h dX1_letter_8
def f_X1_depth (a0 : Int32) (σ : gw_S) : Option (Int32 × gw_S) := ((f_X8_at 16 a0 σ).bind fun p1 => (some (p1.1, p1.2)))
set_option maxHeartbeats 4000000 in
set_option maxRecDepth 100000 in
theorem gc_X1_depth (l : Launch) (G : gw_G) (a0 : Int32) (σ : gw_S) (o : (Int32 × gw_S)) (h : f_X1_depth a0 σ = some o) : gw_M (fun sz => gw_QI G sz o) l yX1_depth cX1_depth 2 (some .int) { frames := 1, cells := 0, slots := 0, locals := 21 } G [.ref (G.2.1 11), .int a0] σ := by
  refine gw_en (own := RX1) (lv := [(0, .ref (G.2.1 11)), (1, .int a0)]) (by decide +kernel) rfl (Nat.le_of_ble_eq_true rfl) rfl ?_
  intro p e s m below meth c ls X hl hP
  obtain ⟨hx, hb, hml, hown, hts, -, -, hT, hZ, -⟩ := id X
  have hS : va_S (gw_A G s.heap.size) s.heap s.heap [] := va_S.rf
  unfold f_X1_depth at h
  refine lv_aload_n hx hb dX1_depth_0 rfl (lv_at hl 0 rfl) ?_
  refine va_get (D := G.1) (ci := 4) (v := .ref (G.2.1 16)) (C := RX1) (T := TX1) (N := 7) hx hb hts gx_X1 hown hT.2.1 hP 11 rfl rfl 5 (by decide) (hts _ gv_110) (fun _ h9 => h9) rfl dX1_depth_1 ?_
  refine lv_iload_n hx hb dX1_depth_4 rfl (lv_at hl 1 rfl) ?_
  obtain ⟨p1, gp1, h⟩ := Option.bind_eq_some_iff.mp h
  refine gw_ci (gw_rN (host := "Genericwood") X hP hS (gc_X8_at l G 16 ⟨by decide, by decide⟩ a0 σ _ gp1) gk_X8_at gv_336 gv_275 rfl rfl (Nat.le_of_ble_eq_true rfl) hl.1 ⟨rfl, rfl⟩ ⟨Nat.le_of_ble_eq_true rfl, Nat.le_of_ble_eq_true rfl⟩ ⟨Nat.le_of_ble_eq_true rfl, Nat.le_of_ble_eq_true rfl⟩ dX1_depth_5) hS (fun H locs hP hS => ?_)
  exact gw_ri X hP hS h dX1_depth_8
def f_X1_open (a0 : Int32) (σ : gw_S) : Option (Int32 × gw_S) := ((f_X8_at 17 a0 σ).bind fun p1 => (some (p1.1, p1.2)))
set_option maxHeartbeats 4000000 in
set_option maxRecDepth 100000 in
theorem gc_X1_open (l : Launch) (G : gw_G) (a0 : Int32) (σ : gw_S) (o : (Int32 × gw_S)) (h : f_X1_open a0 σ = some o) : gw_M (fun sz => gw_QI G sz o) l yX1_open cX1_open 2 (some .int) { frames := 1, cells := 0, slots := 0, locals := 21 } G [.ref (G.2.1 11), .int a0] σ := by
  refine gw_en (own := RX1) (lv := [(0, .ref (G.2.1 11)), (1, .int a0)]) (by decide +kernel) rfl (Nat.le_of_ble_eq_true rfl) rfl ?_
  intro p e s m below meth c ls X hl hP
  obtain ⟨hx, hb, hml, hown, hts, -, -, hT, hZ, -⟩ := id X
  have hS : va_S (gw_A G s.heap.size) s.heap s.heap [] := va_S.rf
  unfold f_X1_open at h
  refine lv_aload_n hx hb dX1_open_0 rfl (lv_at hl 0 rfl) ?_
  refine va_get (D := G.1) (ci := 4) (v := .ref (G.2.1 17)) (C := RX1) (T := TX1) (N := 7) hx hb hts gx_X1 hown hT.2.1 hP 11 rfl rfl 6 (by decide) (hts _ gv_111) (fun _ h9 => h9) rfl dX1_open_1 ?_
  refine lv_iload_n hx hb dX1_open_4 rfl (lv_at hl 1 rfl) ?_
  obtain ⟨p1, gp1, h⟩ := Option.bind_eq_some_iff.mp h
  refine gw_ci (gw_rN (host := "Genericwood") X hP hS (gc_X8_at l G 17 ⟨by decide, by decide⟩ a0 σ _ gp1) gk_X8_at gv_336 gv_275 rfl rfl (Nat.le_of_ble_eq_true rfl) hl.1 ⟨rfl, rfl⟩ ⟨Nat.le_of_ble_eq_true rfl, Nat.le_of_ble_eq_true rfl⟩ ⟨Nat.le_of_ble_eq_true rfl, Nat.le_of_ble_eq_true rfl⟩ dX1_open_5) hS (fun H locs hP hS => ?_)
  exact gw_ri X hP hS h dX1_open_8
def f_X2_size (σ : gw_S) : Option (Int32 × gw_S) := (some ((σ 4 1), σ))
set_option maxHeartbeats 4000000 in
set_option maxRecDepth 100000 in
theorem gc_X2_size (l : Launch) (G : gw_G) (σ : gw_S) (o : (Int32 × gw_S)) (h : f_X2_size σ = some o) : gw_M (fun sz => gw_QI G sz o) l yX2_size cX2_size 1 (some .int) { frames := 0, cells := 0, slots := 0, locals := 0 } G [.ref (G.2.1 4)] σ := by
  refine gw_en (own := RX2) (lv := [(0, .ref (G.2.1 4))]) (by decide +kernel) rfl (Nat.le_of_ble_eq_true rfl) rfl ?_
  intro p e s m below meth c ls X hl hP
  obtain ⟨hx, hb, hml, hown, hts, -, -, hT, hZ, -⟩ := id X
  have hS : va_S (gw_A G s.heap.size) s.heap s.heap [] := va_S.rf
  unfold f_X2_size at h
  refine lv_aload_n hx hb dX2_size_0 rfl (lv_at hl 0 rfl) ?_
  refine va_get (D := G.1) (ci := 5) (v := .int (σ 4 1)) (C := RX2) (T := TX2) (N := 9) hx hb hts gx_X2 hown hT.2.1 hP 4 rfl rfl 1 (by decide) (hts _ gv_72) (fun _ h9 => h9) rfl dX2_size_1 ?_
  exact gw_ri X hP hS h dX2_size_4
def f_X2_changes (σ : gw_S) : Option (Int32 × gw_S) := (some ((σ 4 2), σ))
set_option maxHeartbeats 4000000 in
set_option maxRecDepth 100000 in
theorem gc_X2_changes (l : Launch) (G : gw_G) (σ : gw_S) (o : (Int32 × gw_S)) (h : f_X2_changes σ = some o) : gw_M (fun sz => gw_QI G sz o) l yX2_changes cX2_changes 1 (some .int) { frames := 0, cells := 0, slots := 0, locals := 0 } G [.ref (G.2.1 4)] σ := by
  refine gw_en (own := RX2) (lv := [(0, .ref (G.2.1 4))]) (by decide +kernel) rfl (Nat.le_of_ble_eq_true rfl) rfl ?_
  intro p e s m below meth c ls X hl hP
  obtain ⟨hx, hb, hml, hown, hts, -, -, hT, hZ, -⟩ := id X
  have hS : va_S (gw_A G s.heap.size) s.heap s.heap [] := va_S.rf
  unfold f_X2_changes at h
  refine lv_aload_n hx hb dX2_changes_0 rfl (lv_at hl 0 rfl) ?_
  refine va_get (D := G.1) (ci := 5) (v := .int (σ 4 2)) (C := RX2) (T := TX2) (N := 9) hx hb hts gx_X2 hown hT.2.1 hP 4 rfl rfl 2 (by decide) (hts _ gv_73) (fun _ h9 => h9) rfl dX2_changes_1 ?_
  exact gw_ri X hP hS h dX2_changes_4
def f_X2_knows (a0 : Int32) (σ : gw_S) : Option (Int32 × gw_S) := (if a0 < 0 then (some ((0 : Int32), σ)) else (if (σ 4 1) ≤ a0 then (some ((0 : Int32), σ)) else (some ((1 : Int32), σ))))
set_option maxHeartbeats 4000000 in
set_option maxRecDepth 100000 in
theorem gc_X2_knows (l : Launch) (G : gw_G) (a0 : Int32) (σ : gw_S) (o : (Int32 × gw_S)) (h : f_X2_knows a0 σ = some o) : gw_M (fun sz => gw_QZ G sz o) l yX2_knows cX2_knows 2 (some .boolean) { frames := 0, cells := 0, slots := 0, locals := 0 } G [.ref (G.2.1 4), .int a0] σ := by
  refine gw_en (own := RX2) (lv := [(0, .ref (G.2.1 4)), (1, .int a0)]) (by decide +kernel) rfl (Nat.le_of_ble_eq_true rfl) rfl ?_
  intro p e s m below meth c ls X hl hP
  obtain ⟨hx, hb, hml, hown, hts, -, -, hT, hZ, -⟩ := id X
  have hS : va_S (gw_A G s.heap.size) s.heap s.heap [] := va_S.rf
  unfold f_X2_knows at h
  refine lv_iload_n hx hb dX2_knows_0 rfl (lv_at hl 1 rfl) ?_
  refine lv_if_lt (tgt := 16) hx hb dX2_knows_1 (by decide) (fun c => ?_) (fun c => ?_)
  · have h := (if_pos c).symm.trans h
    refine lv_iconst (v := 0) hx hb dX2_knows_16 (by decide) ?_
    exact gw_rz X hP hS rfl h dX2_knows_17
  · have h := (if_neg c).symm.trans h
    refine lv_iload_n hx hb dX2_knows_4 rfl (lv_at hl 1 rfl) ?_
    refine lv_aload_n hx hb dX2_knows_5 rfl (lv_at hl 0 rfl) ?_
    refine va_get (D := G.1) (ci := 5) (v := .int (σ 4 1)) (C := RX2) (T := TX2) (N := 9) hx hb hts gx_X2 hown hT.2.1 hP 4 rfl rfl 1 (by decide) (hts _ gv_72) (fun _ h9 => h9) rfl dX2_knows_6 ?_
    refine lv_icmp_ge (tgt := 16) hx hb dX2_knows_9 (by decide) (fun c => ?_) (fun c => ?_)
    · have h := (if_pos c).symm.trans h
      refine lv_iconst (v := 0) hx hb dX2_knows_16 (by decide) ?_
      exact gw_rz X hP hS rfl h dX2_knows_17
    · have h := (if_neg c).symm.trans h
      refine lv_iconst (v := 1) hx hb dX2_knows_12 (by decide) ?_
      refine lv_goto (tgt := 17) hx hb dX2_knows_13 (by decide) ?_
      exact gw_rz X hP hS rfl h dX2_knows_17
def f_X2_pairsOf (a0 : Int32) (σ : gw_S) : Option (Int32 × gw_S) := ((f_X8_at 5 a0 σ).bind fun p1 => (some (p1.1, p1.2)))
set_option maxHeartbeats 4000000 in
set_option maxRecDepth 100000 in
theorem gc_X2_pairsOf (l : Launch) (G : gw_G) (a0 : Int32) (σ : gw_S) (o : (Int32 × gw_S)) (h : f_X2_pairsOf a0 σ = some o) : gw_M (fun sz => gw_QI G sz o) l yX2_pairsOf cX2_pairsOf 2 (some .int) { frames := 1, cells := 0, slots := 0, locals := 21 } G [.ref (G.2.1 4), .int a0] σ := by
  refine gw_en (own := RX2) (lv := [(0, .ref (G.2.1 4)), (1, .int a0)]) (by decide +kernel) rfl (Nat.le_of_ble_eq_true rfl) rfl ?_
  intro p e s m below meth c ls X hl hP
  obtain ⟨hx, hb, hml, hown, hts, -, -, hT, hZ, -⟩ := id X
  have hS : va_S (gw_A G s.heap.size) s.heap s.heap [] := va_S.rf
  unfold f_X2_pairsOf at h
  refine lv_aload_n hx hb dX2_pairsOf_0 rfl (lv_at hl 0 rfl) ?_
  refine va_get (D := G.1) (ci := 5) (v := .ref (G.2.1 5)) (C := RX2) (T := TX2) (N := 9) hx hb hts gx_X2 hown hT.2.1 hP 4 rfl rfl 3 (by decide) (hts _ gv_74) (fun _ h9 => h9) rfl dX2_pairsOf_1 ?_
  refine lv_iload_n hx hb dX2_pairsOf_4 rfl (lv_at hl 1 rfl) ?_
  obtain ⟨p1, gp1, h⟩ := Option.bind_eq_some_iff.mp h
  refine gw_ci (gw_rN (host := "Genericwood") X hP hS (gc_X8_at l G 5 ⟨by decide, by decide⟩ a0 σ _ gp1) gk_X8_at gv_311 gv_275 rfl rfl (Nat.le_of_ble_eq_true rfl) hl.1 ⟨rfl, rfl⟩ ⟨Nat.le_of_ble_eq_true rfl, Nat.le_of_ble_eq_true rfl⟩ ⟨Nat.le_of_ble_eq_true rfl, Nat.le_of_ble_eq_true rfl⟩ dX2_pairsOf_5) hS (fun H locs hP hS => ?_)
  exact gw_ri X hP hS h dX2_pairsOf_8
def f_X2_lower (a0 : Int32) (a1 : Int32) (σ : gw_S) : Option (Int32 × gw_S) := ((f_X8_at 6 ((a0 * (4 : Int32)) + a1) σ).bind fun p1 => (some ((p1.1 &&& (15 : Int32)), p1.2)))
set_option maxHeartbeats 4000000 in
set_option maxRecDepth 100000 in
theorem gc_X2_lower (l : Launch) (G : gw_G) (a0 : Int32) (a1 : Int32) (σ : gw_S) (o : (Int32 × gw_S)) (h : f_X2_lower a0 a1 σ = some o) : gw_M (fun sz => gw_QI G sz o) l yX2_lower cX2_lower 3 (some .int) { frames := 1, cells := 0, slots := 0, locals := 21 } G [.ref (G.2.1 4), .int a0, .int a1] σ := by
  refine gw_en (own := RX2) (lv := [(0, .ref (G.2.1 4)), (1, .int a0), (2, .int a1)]) (by decide +kernel) rfl (Nat.le_of_ble_eq_true rfl) rfl ?_
  intro p e s m below meth c ls X hl hP
  obtain ⟨hx, hb, hml, hown, hts, -, -, hT, hZ, -⟩ := id X
  have hS : va_S (gw_A G s.heap.size) s.heap s.heap [] := va_S.rf
  unfold f_X2_lower at h
  refine lv_aload_n hx hb dX2_lower_0 rfl (lv_at hl 0 rfl) ?_
  refine va_get (D := G.1) (ci := 5) (v := .ref (G.2.1 6)) (C := RX2) (T := TX2) (N := 9) hx hb hts gx_X2 hown hT.2.1 hP 4 rfl rfl 4 (by decide) (hts _ gv_75) (fun _ h9 => h9) rfl dX2_lower_1 ?_
  refine lv_iload_n hx hb dX2_lower_4 rfl (lv_at hl 1 rfl) ?_
  refine lv_iconst (v := 4) hx hb dX2_lower_5 (by decide) ?_
  refine lv_imul hx hb dX2_lower_6 ?_
  refine lv_iload_n hx hb dX2_lower_7 rfl (lv_at hl 2 rfl) ?_
  refine lv_iadd hx hb dX2_lower_8 ?_
  obtain ⟨p1, gp1, h⟩ := Option.bind_eq_some_iff.mp h
  refine gw_ci (gw_rN (host := "Genericwood") X hP hS (gc_X8_at l G 6 ⟨by decide, by decide⟩ ((a0 * (4 : Int32)) + a1) σ _ gp1) gk_X8_at gv_311 gv_275 rfl rfl (Nat.le_of_ble_eq_true rfl) hl.1 ⟨rfl, rfl⟩ ⟨Nat.le_of_ble_eq_true rfl, Nat.le_of_ble_eq_true rfl⟩ ⟨Nat.le_of_ble_eq_true rfl, Nat.le_of_ble_eq_true rfl⟩ dX2_lower_9) hS (fun H locs hP hS => ?_)
  refine lv_bipush (v := 15) hx hb dX2_lower_12 (by decide) ?_
  refine lv_iand hx hb dX2_lower_14 ?_
  exact gw_ri X hP hS h dX2_lower_15
def f_X2_promise (a0 : Int32) (a1 : Int32) (σ : gw_S) : Option (Int32 × gw_S) := ((f_X8_at 6 ((a0 * (4 : Int32)) + a1) σ).bind fun p1 => (some ((p1.1 >>> ((4 : Int32) &&& 31)), p1.2)))
set_option maxHeartbeats 4000000 in
set_option maxRecDepth 100000 in
theorem gc_X2_promise (l : Launch) (G : gw_G) (a0 : Int32) (a1 : Int32) (σ : gw_S) (o : (Int32 × gw_S)) (h : f_X2_promise a0 a1 σ = some o) : gw_M (fun sz => gw_QI G sz o) l yX2_promise cX2_promise 3 (some .int) { frames := 1, cells := 0, slots := 0, locals := 21 } G [.ref (G.2.1 4), .int a0, .int a1] σ := by
  refine gw_en (own := RX2) (lv := [(0, .ref (G.2.1 4)), (1, .int a0), (2, .int a1)]) (by decide +kernel) rfl (Nat.le_of_ble_eq_true rfl) rfl ?_
  intro p e s m below meth c ls X hl hP
  obtain ⟨hx, hb, hml, hown, hts, -, -, hT, hZ, -⟩ := id X
  have hS : va_S (gw_A G s.heap.size) s.heap s.heap [] := va_S.rf
  unfold f_X2_promise at h
  refine lv_aload_n hx hb dX2_promise_0 rfl (lv_at hl 0 rfl) ?_
  refine va_get (D := G.1) (ci := 5) (v := .ref (G.2.1 6)) (C := RX2) (T := TX2) (N := 9) hx hb hts gx_X2 hown hT.2.1 hP 4 rfl rfl 4 (by decide) (hts _ gv_75) (fun _ h9 => h9) rfl dX2_promise_1 ?_
  refine lv_iload_n hx hb dX2_promise_4 rfl (lv_at hl 1 rfl) ?_
  refine lv_iconst (v := 4) hx hb dX2_promise_5 (by decide) ?_
  refine lv_imul hx hb dX2_promise_6 ?_
  refine lv_iload_n hx hb dX2_promise_7 rfl (lv_at hl 2 rfl) ?_
  refine lv_iadd hx hb dX2_promise_8 ?_
  obtain ⟨p1, gp1, h⟩ := Option.bind_eq_some_iff.mp h
  refine gw_ci (gw_rN (host := "Genericwood") X hP hS (gc_X8_at l G 6 ⟨by decide, by decide⟩ ((a0 * (4 : Int32)) + a1) σ _ gp1) gk_X8_at gv_311 gv_275 rfl rfl (Nat.le_of_ble_eq_true rfl) hl.1 ⟨rfl, rfl⟩ ⟨Nat.le_of_ble_eq_true rfl, Nat.le_of_ble_eq_true rfl⟩ ⟨Nat.le_of_ble_eq_true rfl, Nat.le_of_ble_eq_true rfl⟩ dX2_promise_9) hS (fun H locs hP hS => ?_)
  refine lv_iconst (v := 4) hx hb dX2_promise_12 (by decide) ?_
  refine lv_ishr hx hb dX2_promise_13 ?_
  exact gw_ri X hP hS h dX2_promise_14
def f_X2_height (a0 : Int32) (σ : gw_S) : Option (Int32 × gw_S) := ((f_X8_at 7 a0 σ).bind fun p1 => (some (p1.1, p1.2)))
set_option maxHeartbeats 4000000 in
set_option maxRecDepth 100000 in
theorem gc_X2_height (l : Launch) (G : gw_G) (a0 : Int32) (σ : gw_S) (o : (Int32 × gw_S)) (h : f_X2_height a0 σ = some o) : gw_M (fun sz => gw_QI G sz o) l yX2_height cX2_height 2 (some .int) { frames := 1, cells := 0, slots := 0, locals := 21 } G [.ref (G.2.1 4), .int a0] σ := by
  refine gw_en (own := RX2) (lv := [(0, .ref (G.2.1 4)), (1, .int a0)]) (by decide +kernel) rfl (Nat.le_of_ble_eq_true rfl) rfl ?_
  intro p e s m below meth c ls X hl hP
  obtain ⟨hx, hb, hml, hown, hts, -, -, hT, hZ, -⟩ := id X
  have hS : va_S (gw_A G s.heap.size) s.heap s.heap [] := va_S.rf
  unfold f_X2_height at h
  refine lv_aload_n hx hb dX2_height_0 rfl (lv_at hl 0 rfl) ?_
  refine va_get (D := G.1) (ci := 5) (v := .ref (G.2.1 7)) (C := RX2) (T := TX2) (N := 9) hx hb hts gx_X2 hown hT.2.1 hP 4 rfl rfl 5 (by decide) (hts _ gv_76) (fun _ h9 => h9) rfl dX2_height_1 ?_
  refine lv_iload_n hx hb dX2_height_4 rfl (lv_at hl 1 rfl) ?_
  obtain ⟨p1, gp1, h⟩ := Option.bind_eq_some_iff.mp h
  refine gw_ci (gw_rN (host := "Genericwood") X hP hS (gc_X8_at l G 7 ⟨by decide, by decide⟩ a0 σ _ gp1) gk_X8_at gv_311 gv_275 rfl rfl (Nat.le_of_ble_eq_true rfl) hl.1 ⟨rfl, rfl⟩ ⟨Nat.le_of_ble_eq_true rfl, Nat.le_of_ble_eq_true rfl⟩ ⟨Nat.le_of_ble_eq_true rfl, Nat.le_of_ble_eq_true rfl⟩ dX2_height_5) hS (fun H locs hP hS => ?_)
  exact gw_ri X hP hS h dX2_height_8
def f_X2_hasPair_L3 : Nat → Int32 → Int32 → Int32 → Int32 → gw_S → Option (Int32 × gw_S)
  | 0, _, _, _, _, _ => none
  | n + 1, v3_1, v3_2, v3_3, v3_4, σ => ((f_X2_pairsOf v3_1 σ).bind fun p1 => (if p1.1 ≤ v3_4 then (some ((0 : Int32), p1.2)) else ((f_X2_lower v3_1 v3_4 p1.2).bind fun p2 => (if p2.1 = v3_2 then ((f_X2_promise v3_1 v3_4 p2.2).bind fun p3 => (if p3.1 = v3_3 then (some ((1 : Int32), p3.2)) else (f_X2_hasPair_L3 n v3_1 v3_2 v3_3 (v3_4 + (1 : Int32)) p3.2))) else (f_X2_hasPair_L3 n v3_1 v3_2 v3_3 (v3_4 + (1 : Int32)) p2.2)))))
def f_X2_hasPair (a0 : Int32) (a1 : Int32) (a2 : Int32) (σ : gw_S) : Option (Int32 × gw_S) := (f_X2_hasPair_L3 64 a0 a1 a2 (0 : Int32) σ)
set_option maxHeartbeats 4000000 in
set_option maxRecDepth 100000 in
theorem gc_X2_hasPair (l : Launch) (G : gw_G) (a0 : Int32) (a1 : Int32) (a2 : Int32) (σ : gw_S) (o : (Int32 × gw_S)) (h : f_X2_hasPair a0 a1 a2 σ = some o) : gw_M (fun sz => gw_QZ G sz o) l yX2_hasPair cX2_hasPair 5 (some .boolean) { frames := 2, cells := 0, slots := 0, locals := 43 } G [.ref (G.2.1 4), .int a0, .int a1, .int a2] σ := by
  refine gw_en (own := RX2) (lv := [(0, .ref (G.2.1 4)), (1, .int a0), (2, .int a1), (3, .int a2)]) (by decide +kernel) rfl (Nat.le_of_ble_eq_true rfl) rfl ?_
  intro p e s m below meth c ls X hl hP
  obtain ⟨hx, hb, hml, hown, hts, -, -, hT, hZ, -⟩ := id X
  have hS : va_S (gw_A G s.heap.size) s.heap s.heap [] := va_S.rf
  have L3 : ∀ (n : Nat) (v3_1 : Int32) (v3_2 : Int32) (v3_3 : Int32) (v3_4 : Int32) (σ : gw_S) (H : Heap) (locs : List Loc) (ls : Array Slot), f_X2_hasPair_L3 n v3_1 v3_2 v3_3 v3_4 σ = some o → gw_P G σ H → va_S (gw_A G s.heap.size) s.heap H locs → lv_has ls 5 [(0, .ref (G.2.1 4)), (1, .int v3_1), (2, .int v3_2), (3, .int v3_3), (4, .int v3_4)] → W p l e { frames := 2, cells := 0, slots := 0, locals := 43 } s m [.ref (G.2.1 4), .int a0, .int a1, .int a2].toArray below meth c H locs 0 0 (MQ below (gw_QZ G s.heap.size o) [.ref (G.2.1 4), .int a0, .int a1, .int a2].toArray s 0 0 (gw_A G s.heap.size)) (F0 m 3 ls []) := by
    intro n
    induction n with
    | zero =>
      intro v3_1 v3_2 v3_3 v3_4 σ H locs ls h
      exact absurd h (by rw [f_X2_hasPair_L3.eq_1]; exact fun h => nomatch h)
    | succ n ih =>
      intro v3_1 v3_2 v3_3 v3_4 σ H locs ls h hP hS hl
      rw [f_X2_hasPair_L3.eq_2] at h
      refine lv_iload hx hb dX2_hasPair_3 (lv_at hl 4 rfl) ?_
      refine lv_aload_n hx hb dX2_hasPair_5 rfl (lv_at hl 0 rfl) ?_
      refine lv_iload_n hx hb dX2_hasPair_6 rfl (lv_at hl 1 rfl) ?_
      obtain ⟨p1, gp1, h⟩ := Option.bind_eq_some_iff.mp h
      refine gw_ci (gw_rV (C := RX2) X hP hS (gc_X2_pairsOf l G v3_1 σ _ gp1) gk_X2_pairsOf gv_810 ⟨gv_313, gv_314⟩ (va_recv hT.2.1 hP (ci := 5) (q0 := 4) rfl rfl) rfl rfl (Nat.le_of_ble_eq_true rfl) hl.1 ⟨rfl, rfl⟩ ⟨Nat.le_of_ble_eq_true rfl, Nat.le_of_ble_eq_true rfl⟩ ⟨Nat.le_of_ble_eq_true rfl, Nat.le_of_ble_eq_true rfl⟩ dX2_hasPair_7) hS (fun H locs hP hS => ?_)
      refine lv_icmp_ge (tgt := 43) hx hb dX2_hasPair_10 (by decide) (fun c => ?_) (fun c => ?_)
      · have h := (if_pos c).symm.trans h
        refine lv_iconst (v := 0) hx hb dX2_hasPair_43 (by decide) ?_
        exact gw_rz X hP hS rfl h dX2_hasPair_44
      · have h := (if_neg c).symm.trans h
        refine lv_aload_n hx hb dX2_hasPair_13 rfl (lv_at hl 0 rfl) ?_
        refine lv_iload_n hx hb dX2_hasPair_14 rfl (lv_at hl 1 rfl) ?_
        refine lv_iload hx hb dX2_hasPair_15 (lv_at hl 4 rfl) ?_
        obtain ⟨p2, gp2, h⟩ := Option.bind_eq_some_iff.mp h
        refine gw_ci (gw_rV (C := RX2) X hP hS (gc_X2_lower l G v3_1 v3_4 p1.2 _ gp2) gk_X2_lower gv_811 ⟨gv_317, gv_318⟩ (va_recv hT.2.1 hP (ci := 5) (q0 := 4) rfl rfl) rfl rfl (Nat.le_of_ble_eq_true rfl) hl.1 ⟨rfl, rfl⟩ ⟨Nat.le_of_ble_eq_true rfl, Nat.le_of_ble_eq_true rfl⟩ ⟨Nat.le_of_ble_eq_true rfl, Nat.le_of_ble_eq_true rfl⟩ dX2_hasPair_17) hS (fun H locs hP hS => ?_)
        refine lv_iload_n hx hb dX2_hasPair_20 rfl (lv_at hl 2 rfl) ?_
        refine lv_icmp_ne (tgt := 37) hx hb dX2_hasPair_21 (by decide) (fun c => ?_) (fun c => ?_)
        · have h := (if_neg c).symm.trans h
          refine lv_iinc (v := (v3_4 + (1 : Int32))) (lv' := [(4, .int (v3_4 + (1 : Int32))), (0, .ref (G.2.1 4)), (1, .int v3_1), (2, .int v3_2), (3, .int v3_3)]) hx hb dX2_hasPair_37 hl (k := 4) rfl rfl (by decide) rfl (fun ls hl => ?_)
          refine lv_goto (tgt := 3) hx hb dX2_hasPair_40 (by decide) ?_
          exact ih v3_1 v3_2 v3_3 (v3_4 + (1 : Int32)) p2.2 _ _ _ h hP hS (lv_sub hl [1, 2, 3, 4, 0] rfl)
        · have h := (if_pos c).symm.trans h
          refine lv_aload_n hx hb dX2_hasPair_24 rfl (lv_at hl 0 rfl) ?_
          refine lv_iload_n hx hb dX2_hasPair_25 rfl (lv_at hl 1 rfl) ?_
          refine lv_iload hx hb dX2_hasPair_26 (lv_at hl 4 rfl) ?_
          obtain ⟨p3, gp3, h⟩ := Option.bind_eq_some_iff.mp h
          refine gw_ci (gw_rV (C := RX2) X hP hS (gc_X2_promise l G v3_1 v3_4 p2.2 _ gp3) gk_X2_promise gv_843 ⟨gv_321, gv_322⟩ (va_recv hT.2.1 hP (ci := 5) (q0 := 4) rfl rfl) rfl rfl (Nat.le_of_ble_eq_true rfl) hl.1 ⟨rfl, rfl⟩ ⟨Nat.le_of_ble_eq_true rfl, Nat.le_of_ble_eq_true rfl⟩ ⟨Nat.le_of_ble_eq_true rfl, Nat.le_of_ble_eq_true rfl⟩ dX2_hasPair_28) hS (fun H locs hP hS => ?_)
          refine lv_iload_n hx hb dX2_hasPair_31 rfl (lv_at hl 3 rfl) ?_
          refine lv_icmp_ne (tgt := 37) hx hb dX2_hasPair_32 (by decide) (fun c => ?_) (fun c => ?_)
          · have h := (if_neg c).symm.trans h
            refine lv_iinc (v := (v3_4 + (1 : Int32))) (lv' := [(4, .int (v3_4 + (1 : Int32))), (0, .ref (G.2.1 4)), (1, .int v3_1), (2, .int v3_2), (3, .int v3_3)]) hx hb dX2_hasPair_37 hl (k := 4) rfl rfl (by decide) rfl (fun ls hl => ?_)
            refine lv_goto (tgt := 3) hx hb dX2_hasPair_40 (by decide) ?_
            exact ih v3_1 v3_2 v3_3 (v3_4 + (1 : Int32)) p3.2 _ _ _ h hP hS (lv_sub hl [1, 2, 3, 4, 0] rfl)
          · have h := (if_pos c).symm.trans h
            refine lv_iconst (v := 1) hx hb dX2_hasPair_35 (by decide) ?_
            exact gw_rz X hP hS rfl h dX2_hasPair_36
  unfold f_X2_hasPair at h
  refine lv_iconst (v := 0) hx hb dX2_hasPair_0 (by decide) ?_
  refine lv_istore (lv' := [(4, .int (0 : Int32)), (0, .ref (G.2.1 4)), (1, .int a0), (2, .int a1), (3, .int a2)]) hx hb dX2_hasPair_1 hl (by decide) rfl (fun ls hl => ?_)
  exact L3 64 a0 a1 a2 (0 : Int32) σ _ _ _ h hP hS (lv_sub hl [1, 2, 3, 4, 0] rfl)
def f_X2_rankAll_h_L34 : Nat → (Int32 → Int32 → Int32 → Int32 → gw_S → Option gw_S) → Int32 → Int32 → Int32 → Int32 → Int32 → gw_S → Option gw_S
  | 0, _, _, _, _, _, _, _ => none
  | n + 1, K, v34_2, v34_3, v34_4, v34_5, v34_6, σ => ((f_X2_pairsOf v34_4 σ).bind fun p1 => (if p1.1 ≤ v34_6 then (K v34_2 v34_3 v34_4 v34_5 p1.2) else ((f_X2_lower v34_4 v34_6 p1.2).bind fun p2 => ((f_X8_at 7 p2.1 p2.2).bind fun p3 => (f_X2_rankAll_h_L34 n K v34_2 v34_3 v34_4 (if v34_5 < ((1 : Int32) + p3.1) then ((1 : Int32) + p3.1) else v34_5) (v34_6 + (1 : Int32)) p3.2)))))
def f_X2_rankAll_h_L3 : Nat → Int32 → Int32 → Int32 → gw_S → Option gw_S
  | 0, _, _, _, _ => none
  | n + 1, v3_2, v3_3, v3_4, σ => (if (σ 4 1) ≤ v3_4 then (some σ) else (if v3_4 = v3_2 then ((f_X8_at 7 v3_3 σ).bind fun p5 => (f_X2_rankAll_h_L34 64 (fun w34_2 w34_3 w34_4 w34_5 σ34 => ((f_X8_put 7 w34_4 w34_5 σ34).bind fun p6 => (f_X2_rankAll_h_L3 n w34_2 w34_3 (w34_4 + (1 : Int32)) p6))) v3_2 v3_3 v3_4 ((1 : Int32) + p5.1) (0 : Int32) p5.2)) else (f_X2_rankAll_h_L34 64 (fun w34_2 w34_3 w34_4 w34_5 σ34 => ((f_X8_put 7 w34_4 w34_5 σ34).bind fun p4 => (f_X2_rankAll_h_L3 n w34_2 w34_3 (w34_4 + (1 : Int32)) p4))) v3_2 v3_3 v3_4 (0 : Int32) (0 : Int32) σ)))
def f_X2_rankAll_h (a1 : Int32) (a2 : Int32) (σ : gw_S) : Option gw_S := (f_X2_rankAll_h_L3 64 a1 a2 (0 : Int32) σ)
set_option maxHeartbeats 4000000 in
set_option maxRecDepth 100000 in
theorem gc_X2_rankAll_h (l : Launch) (G : gw_G) (a1 : Int32) (a2 : Int32) (σ : gw_S) (o : gw_S) (h : f_X2_rankAll_h a1 a2 σ = some o) : gw_M (fun sz => gw_QV G sz o) l yX2_rankAll cX2_rankAll 7 none { frames := 2, cells := 0, slots := 0, locals := 43 } G [.ref (G.2.1 4), .ref (G.2.1 7), .int a1, .int a2] σ := by
  refine gw_en (own := RX2) (lv := [(0, .ref (G.2.1 4)), (1, .ref (G.2.1 7)), (2, .int a1), (3, .int a2)]) (by decide +kernel) rfl (Nat.le_of_ble_eq_true rfl) rfl ?_
  intro p e s m below meth c ls X hl hP
  obtain ⟨hx, hb, hml, hown, hts, -, -, hT, hZ, -⟩ := id X
  have hS : va_S (gw_A G s.heap.size) s.heap s.heap [] := va_S.rf
  have L34 : ∀ (n : Nat) (K : Int32 → Int32 → Int32 → Int32 → gw_S → Option gw_S) (v34_2 : Int32) (v34_3 : Int32) (v34_4 : Int32) (v34_5 : Int32) (v34_6 : Int32) (σ : gw_S) (H : Heap) (locs : List Loc) (ls : Array Slot), f_X2_rankAll_h_L34 n K v34_2 v34_3 v34_4 v34_5 v34_6 σ = some o → gw_P G σ H → va_S (gw_A G s.heap.size) s.heap H locs → lv_has ls 7 [(0, .ref (G.2.1 4)), (1, .ref (G.2.1 7)), (2, .int v34_2), (3, .int v34_3), (4, .int v34_4), (5, .int v34_5), (6, .int v34_6)] → (∀ (w2 : Int32) (w3 : Int32) (w4 : Int32) (w5 : Int32) (σ : gw_S) (H : Heap) (locs : List Loc) (ls : Array Slot), K w2 w3 w4 w5 σ = some o → gw_P G σ H → va_S (gw_A G s.heap.size) s.heap H locs → lv_has ls 7 [(0, .ref (G.2.1 4)), (1, .ref (G.2.1 7)), (2, .int w2), (3, .int w3), (4, .int w4), (5, .int w5)] → W p l e { frames := 2, cells := 0, slots := 0, locals := 43 } s m [.ref (G.2.1 4), .ref (G.2.1 7), .int a1, .int a2].toArray below meth c H locs 0 0 (MQ below (gw_QV G s.heap.size o) [.ref (G.2.1 4), .ref (G.2.1 7), .int a1, .int a2].toArray s 0 0 (gw_A G s.heap.size)) (F0 m 72 ls [])) → W p l e { frames := 2, cells := 0, slots := 0, locals := 43 } s m [.ref (G.2.1 4), .ref (G.2.1 7), .int a1, .int a2].toArray below meth c H locs 0 0 (MQ below (gw_QV G s.heap.size o) [.ref (G.2.1 4), .ref (G.2.1 7), .int a1, .int a2].toArray s 0 0 (gw_A G s.heap.size)) (F0 m 34 ls []) := by
    intro n K
    induction n with
    | zero =>
      intro v34_2 v34_3 v34_4 v34_5 v34_6 σ H locs ls h
      exact absurd h (by rw [f_X2_rankAll_h_L34.eq_1]; exact fun h => nomatch h)
    | succ n ih =>
      intro v34_2 v34_3 v34_4 v34_5 v34_6 σ H locs ls h hP hS hl hK
      rw [f_X2_rankAll_h_L34.eq_2] at h
      refine lv_iload hx hb dX2_rankAll_34 (lv_at hl 6 rfl) ?_
      refine lv_aload_n hx hb dX2_rankAll_36 rfl (lv_at hl 0 rfl) ?_
      refine lv_iload hx hb dX2_rankAll_37 (lv_at hl 4 rfl) ?_
      obtain ⟨p1, gp1, h⟩ := Option.bind_eq_some_iff.mp h
      refine gw_ci (gw_rV (C := RX2) X hP hS (gc_X2_pairsOf l G v34_4 σ _ gp1) gk_X2_pairsOf gv_810 ⟨gv_313, gv_314⟩ (va_recv hT.2.1 hP (ci := 5) (q0 := 4) rfl rfl) rfl rfl (Nat.le_of_ble_eq_true rfl) hl.1 ⟨rfl, rfl⟩ ⟨Nat.le_of_ble_eq_true rfl, Nat.le_of_ble_eq_true rfl⟩ ⟨Nat.le_of_ble_eq_true rfl, Nat.le_of_ble_eq_true rfl⟩ dX2_rankAll_39) hS (fun H locs hP hS => ?_)
      refine lv_icmp_ge (tgt := 72) hx hb dX2_rankAll_42 (by decide) (fun c => ?_) (fun c => ?_)
      · have h := (if_pos c).symm.trans h
        exact hK v34_2 v34_3 v34_4 v34_5 p1.2 _ _ _ h hP hS (lv_sub hl [0, 1, 2, 3, 4, 5] rfl)
      · have h := (if_neg c).symm.trans h
        refine lv_iload hx hb dX2_rankAll_45 (lv_at hl 5 rfl) ?_
        refine lv_iconst (v := 1) hx hb dX2_rankAll_47 (by decide) ?_
        refine lv_aload_n hx hb dX2_rankAll_48 rfl (lv_at hl 1 rfl) ?_
        refine lv_aload_n hx hb dX2_rankAll_49 rfl (lv_at hl 0 rfl) ?_
        refine lv_iload hx hb dX2_rankAll_50 (lv_at hl 4 rfl) ?_
        refine lv_iload hx hb dX2_rankAll_52 (lv_at hl 6 rfl) ?_
        obtain ⟨p2, gp2, h⟩ := Option.bind_eq_some_iff.mp h
        refine gw_ci (gw_rV (C := RX2) X hP hS (gc_X2_lower l G v34_4 v34_6 p1.2 _ gp2) gk_X2_lower gv_811 ⟨gv_317, gv_318⟩ (va_recv hT.2.1 hP (ci := 5) (q0 := 4) rfl rfl) rfl rfl (Nat.le_of_ble_eq_true rfl) hl.1 ⟨rfl, rfl⟩ ⟨Nat.le_of_ble_eq_true rfl, Nat.le_of_ble_eq_true rfl⟩ ⟨Nat.le_of_ble_eq_true rfl, Nat.le_of_ble_eq_true rfl⟩ dX2_rankAll_54) hS (fun H locs hP hS => ?_)
        obtain ⟨p3, gp3, h⟩ := Option.bind_eq_some_iff.mp h
        refine gw_ci (gw_rN (host := "Genericwood") X hP hS (gc_X8_at l G 7 ⟨by decide, by decide⟩ p2.1 p2.2 _ gp3) gk_X8_at gv_311 gv_275 rfl rfl (Nat.le_of_ble_eq_true rfl) hl.1 ⟨rfl, rfl⟩ ⟨Nat.le_of_ble_eq_true rfl, Nat.le_of_ble_eq_true rfl⟩ ⟨Nat.le_of_ble_eq_true rfl, Nat.le_of_ble_eq_true rfl⟩ dX2_rankAll_57) hS (fun H locs hP hS => ?_)
        refine lv_iadd hx hb dX2_rankAll_60 ?_
        refine va_mmax hx hb (hml.trans hl.1.symm) hown (hts _ gv_812) (hts _ gx_mm1) (hts _ gx_mm2) (hts _ gx_mm3) (Nat.le_of_ble_eq_true rfl) (Nat.le_of_ble_eq_true rfl) (Nat.le_of_ble_eq_true rfl) (Nat.le_of_ble_eq_true rfl) dX2_rankAll_61 ?_
        refine lv_istore (lv' := [(5, .int (if v34_5 < ((1 : Int32) + p3.1) then ((1 : Int32) + p3.1) else v34_5)), (0, .ref (G.2.1 4)), (1, .ref (G.2.1 7)), (2, .int v34_2), (3, .int v34_3), (4, .int v34_4), (6, .int v34_6)]) hx hb dX2_rankAll_64 hl (by decide) rfl (fun ls hl => ?_)
        refine lv_iinc (v := (v34_6 + (1 : Int32))) (lv' := [(6, .int (v34_6 + (1 : Int32))), (5, .int (if v34_5 < ((1 : Int32) + p3.1) then ((1 : Int32) + p3.1) else v34_5)), (0, .ref (G.2.1 4)), (1, .ref (G.2.1 7)), (2, .int v34_2), (3, .int v34_3), (4, .int v34_4)]) hx hb dX2_rankAll_66 hl (k := 6) rfl rfl (by decide) rfl (fun ls hl => ?_)
        refine lv_goto (tgt := 34) hx hb dX2_rankAll_69 (by decide) ?_
        exact ih v34_2 v34_3 v34_4 (if v34_5 < ((1 : Int32) + p3.1) then ((1 : Int32) + p3.1) else v34_5) (v34_6 + (1 : Int32)) p3.2 _ _ _ h hP hS (lv_sub hl [2, 3, 4, 5, 6, 1, 0] rfl) hK
  have L3 : ∀ (n : Nat) (v3_2 : Int32) (v3_3 : Int32) (v3_4 : Int32) (σ : gw_S) (H : Heap) (locs : List Loc) (ls : Array Slot), f_X2_rankAll_h_L3 n v3_2 v3_3 v3_4 σ = some o → gw_P G σ H → va_S (gw_A G s.heap.size) s.heap H locs → lv_has ls 7 [(0, .ref (G.2.1 4)), (1, .ref (G.2.1 7)), (2, .int v3_2), (3, .int v3_3), (4, .int v3_4)] → W p l e { frames := 2, cells := 0, slots := 0, locals := 43 } s m [.ref (G.2.1 4), .ref (G.2.1 7), .int a1, .int a2].toArray below meth c H locs 0 0 (MQ below (gw_QV G s.heap.size o) [.ref (G.2.1 4), .ref (G.2.1 7), .int a1, .int a2].toArray s 0 0 (gw_A G s.heap.size)) (F0 m 3 ls []) := by
    intro n
    induction n with
    | zero =>
      intro v3_2 v3_3 v3_4 σ H locs ls h
      exact absurd h (by rw [f_X2_rankAll_h_L3.eq_1]; exact fun h => nomatch h)
    | succ n ih =>
      intro v3_2 v3_3 v3_4 σ H locs ls h hP hS hl
      rw [f_X2_rankAll_h_L3.eq_2] at h
      refine lv_iload hx hb dX2_rankAll_3 (lv_at hl 4 rfl) ?_
      refine lv_aload_n hx hb dX2_rankAll_5 rfl (lv_at hl 0 rfl) ?_
      refine va_get (D := G.1) (ci := 5) (v := .int (σ 4 1)) (C := RX2) (T := TX2) (N := 9) hx hb hts gx_X2 hown hT.2.1 hP 4 rfl rfl 1 (by decide) (hts _ gv_72) (fun _ h9 => h9) rfl dX2_rankAll_6 ?_
      refine lv_icmp_ge (tgt := 86) hx hb dX2_rankAll_9 (by decide) (fun c => ?_) (fun c => ?_)
      · have h := (if_pos c).symm.trans h
        exact gw_rv X hP hS h dX2_rankAll_86
      · have h := (if_neg c).symm.trans h
        refine lv_iload hx hb dX2_rankAll_12 (lv_at hl 4 rfl) ?_
        refine lv_iload_n hx hb dX2_rankAll_14 rfl (lv_at hl 2 rfl) ?_
        refine lv_icmp_ne (tgt := 28) hx hb dX2_rankAll_15 (by decide) (fun c => ?_) (fun c => ?_)
        · have h := (if_neg c).symm.trans h
          refine lv_iconst (v := 0) hx hb dX2_rankAll_28 (by decide) ?_
          refine lv_istore (lv' := [(5, .int (0 : Int32)), (0, .ref (G.2.1 4)), (1, .ref (G.2.1 7)), (2, .int v3_2), (3, .int v3_3), (4, .int v3_4)]) hx hb dX2_rankAll_29 hl (by decide) rfl (fun ls hl => ?_)
          refine lv_iconst (v := 0) hx hb dX2_rankAll_31 (by decide) ?_
          refine lv_istore (lv' := [(6, .int (0 : Int32)), (5, .int (0 : Int32)), (0, .ref (G.2.1 4)), (1, .ref (G.2.1 7)), (2, .int v3_2), (3, .int v3_3), (4, .int v3_4)]) hx hb dX2_rankAll_32 hl (by decide) rfl (fun ls hl => ?_)
          refine L34 64 _ v3_2 v3_3 v3_4 (0 : Int32) (0 : Int32) σ _ _ _ h hP hS (lv_sub hl [2, 3, 4, 5, 6, 1, 0] rfl) (fun w34_2 w34_3 w34_4 w34_5 σ34 H locs ls h hP hS hl => ?_)
          refine lv_aload_n hx hb dX2_rankAll_72 rfl (lv_at hl 1 rfl) ?_
          refine lv_iload hx hb dX2_rankAll_73 (lv_at hl 4 rfl) ?_
          refine lv_iload hx hb dX2_rankAll_75 (lv_at hl 5 rfl) ?_
          obtain ⟨p4, gp4, h⟩ := Option.bind_eq_some_iff.mp h
          refine gw_cv (gw_rN (host := "Genericwood") X hP hS (gc_X8_put l G 7 ⟨by decide, by decide⟩ w34_4 w34_5 σ34 _ gp4) gk_X8_put gv_813 gv_403 rfl rfl (Nat.le_of_ble_eq_true rfl) hl.1 ⟨rfl, rfl⟩ ⟨Nat.le_of_ble_eq_true rfl, Nat.le_of_ble_eq_true rfl⟩ ⟨Nat.le_of_ble_eq_true rfl, Nat.le_of_ble_eq_true rfl⟩ dX2_rankAll_77) hS (fun H locs hP hS => ?_)
          refine lv_iinc (v := (w34_4 + (1 : Int32))) (lv' := [(4, .int (w34_4 + (1 : Int32))), (0, .ref (G.2.1 4)), (1, .ref (G.2.1 7)), (2, .int w34_2), (3, .int w34_3), (5, .int w34_5)]) hx hb dX2_rankAll_80 hl (k := 4) rfl rfl (by decide) rfl (fun ls hl => ?_)
          refine lv_goto (tgt := 3) hx hb dX2_rankAll_83 (by decide) ?_
          exact ih w34_2 w34_3 (w34_4 + (1 : Int32)) p4 _ _ _ h hP hS (lv_sub hl [1, 2, 3, 4, 0] rfl)
        · have h := (if_pos c).symm.trans h
          refine lv_iconst (v := 1) hx hb dX2_rankAll_18 (by decide) ?_
          refine lv_aload_n hx hb dX2_rankAll_19 rfl (lv_at hl 1 rfl) ?_
          refine lv_iload_n hx hb dX2_rankAll_20 rfl (lv_at hl 3 rfl) ?_
          obtain ⟨p5, gp5, h⟩ := Option.bind_eq_some_iff.mp h
          refine gw_ci (gw_rN (host := "Genericwood") X hP hS (gc_X8_at l G 7 ⟨by decide, by decide⟩ v3_3 σ _ gp5) gk_X8_at gv_311 gv_275 rfl rfl (Nat.le_of_ble_eq_true rfl) hl.1 ⟨rfl, rfl⟩ ⟨Nat.le_of_ble_eq_true rfl, Nat.le_of_ble_eq_true rfl⟩ ⟨Nat.le_of_ble_eq_true rfl, Nat.le_of_ble_eq_true rfl⟩ dX2_rankAll_21) hS (fun H locs hP hS => ?_)
          refine lv_iadd hx hb dX2_rankAll_24 ?_
          refine lv_goto (tgt := 29) hx hb dX2_rankAll_25 (by decide) ?_
          refine lv_istore (lv' := [(5, .int ((1 : Int32) + p5.1)), (0, .ref (G.2.1 4)), (1, .ref (G.2.1 7)), (2, .int v3_2), (3, .int v3_3), (4, .int v3_4)]) hx hb dX2_rankAll_29 hl (by decide) rfl (fun ls hl => ?_)
          refine lv_iconst (v := 0) hx hb dX2_rankAll_31 (by decide) ?_
          refine lv_istore (lv' := [(6, .int (0 : Int32)), (5, .int ((1 : Int32) + p5.1)), (0, .ref (G.2.1 4)), (1, .ref (G.2.1 7)), (2, .int v3_2), (3, .int v3_3), (4, .int v3_4)]) hx hb dX2_rankAll_32 hl (by decide) rfl (fun ls hl => ?_)
          refine L34 64 _ v3_2 v3_3 v3_4 ((1 : Int32) + p5.1) (0 : Int32) p5.2 _ _ _ h hP hS (lv_sub hl [2, 3, 4, 5, 6, 1, 0] rfl) (fun w34_2 w34_3 w34_4 w34_5 σ34 H locs ls h hP hS hl => ?_)
          refine lv_aload_n hx hb dX2_rankAll_72 rfl (lv_at hl 1 rfl) ?_
          refine lv_iload hx hb dX2_rankAll_73 (lv_at hl 4 rfl) ?_
          refine lv_iload hx hb dX2_rankAll_75 (lv_at hl 5 rfl) ?_
          obtain ⟨p6, gp6, h⟩ := Option.bind_eq_some_iff.mp h
          refine gw_cv (gw_rN (host := "Genericwood") X hP hS (gc_X8_put l G 7 ⟨by decide, by decide⟩ w34_4 w34_5 σ34 _ gp6) gk_X8_put gv_813 gv_403 rfl rfl (Nat.le_of_ble_eq_true rfl) hl.1 ⟨rfl, rfl⟩ ⟨Nat.le_of_ble_eq_true rfl, Nat.le_of_ble_eq_true rfl⟩ ⟨Nat.le_of_ble_eq_true rfl, Nat.le_of_ble_eq_true rfl⟩ dX2_rankAll_77) hS (fun H locs hP hS => ?_)
          refine lv_iinc (v := (w34_4 + (1 : Int32))) (lv' := [(4, .int (w34_4 + (1 : Int32))), (0, .ref (G.2.1 4)), (1, .ref (G.2.1 7)), (2, .int w34_2), (3, .int w34_3), (5, .int w34_5)]) hx hb dX2_rankAll_80 hl (k := 4) rfl rfl (by decide) rfl (fun ls hl => ?_)
          refine lv_goto (tgt := 3) hx hb dX2_rankAll_83 (by decide) ?_
          exact ih w34_2 w34_3 (w34_4 + (1 : Int32)) p6 _ _ _ h hP hS (lv_sub hl [1, 2, 3, 4, 0] rfl)
  unfold f_X2_rankAll_h at h
  refine lv_iconst (v := 0) hx hb dX2_rankAll_0 (by decide) ?_
  refine lv_istore (lv' := [(4, .int (0 : Int32)), (0, .ref (G.2.1 4)), (1, .ref (G.2.1 7)), (2, .int a1), (3, .int a2)]) hx hb dX2_rankAll_1 hl (by decide) rfl (fun ls hl => ?_)
  exact L3 64 a1 a2 (0 : Int32) σ _ _ _ h hP hS (lv_sub hl [1, 2, 3, 4, 0] rfl)
def f_X2_rankAll_t_L34 : Nat → (Int32 → Int32 → Int32 → Int32 → gw_S → Option gw_S) → Int32 → Int32 → Int32 → Int32 → Int32 → gw_S → Option gw_S
  | 0, _, _, _, _, _, _, _ => none
  | n + 1, K, v34_2, v34_3, v34_4, v34_5, v34_6, σ => ((f_X2_pairsOf v34_4 σ).bind fun p1 => (if p1.1 ≤ v34_6 then (K v34_2 v34_3 v34_4 v34_5 p1.2) else ((f_X2_lower v34_4 v34_6 p1.2).bind fun p2 => ((f_X8_at 8 p2.1 p2.2).bind fun p3 => (f_X2_rankAll_t_L34 n K v34_2 v34_3 v34_4 (if v34_5 < ((1 : Int32) + p3.1) then ((1 : Int32) + p3.1) else v34_5) (v34_6 + (1 : Int32)) p3.2)))))
def f_X2_rankAll_t_L3 : Nat → Int32 → Int32 → Int32 → gw_S → Option gw_S
  | 0, _, _, _, _ => none
  | n + 1, v3_2, v3_3, v3_4, σ => (if (σ 4 1) ≤ v3_4 then (some σ) else (if v3_4 = v3_2 then ((f_X8_at 8 v3_3 σ).bind fun p5 => (f_X2_rankAll_t_L34 64 (fun w34_2 w34_3 w34_4 w34_5 σ34 => ((f_X8_put 8 w34_4 w34_5 σ34).bind fun p6 => (f_X2_rankAll_t_L3 n w34_2 w34_3 (w34_4 + (1 : Int32)) p6))) v3_2 v3_3 v3_4 ((1 : Int32) + p5.1) (0 : Int32) p5.2)) else (f_X2_rankAll_t_L34 64 (fun w34_2 w34_3 w34_4 w34_5 σ34 => ((f_X8_put 8 w34_4 w34_5 σ34).bind fun p4 => (f_X2_rankAll_t_L3 n w34_2 w34_3 (w34_4 + (1 : Int32)) p4))) v3_2 v3_3 v3_4 (0 : Int32) (0 : Int32) σ)))
def f_X2_rankAll_t (a1 : Int32) (a2 : Int32) (σ : gw_S) : Option gw_S := (f_X2_rankAll_t_L3 64 a1 a2 (0 : Int32) σ)
set_option maxHeartbeats 4000000 in
set_option maxRecDepth 100000 in
theorem gc_X2_rankAll_t (l : Launch) (G : gw_G) (a1 : Int32) (a2 : Int32) (σ : gw_S) (o : gw_S) (h : f_X2_rankAll_t a1 a2 σ = some o) : gw_M (fun sz => gw_QV G sz o) l yX2_rankAll cX2_rankAll 7 none { frames := 2, cells := 0, slots := 0, locals := 43 } G [.ref (G.2.1 4), .ref (G.2.1 8), .int a1, .int a2] σ := by
  refine gw_en (own := RX2) (lv := [(0, .ref (G.2.1 4)), (1, .ref (G.2.1 8)), (2, .int a1), (3, .int a2)]) (by decide +kernel) rfl (Nat.le_of_ble_eq_true rfl) rfl ?_
  intro p e s m below meth c ls X hl hP
  obtain ⟨hx, hb, hml, hown, hts, -, -, hT, hZ, -⟩ := id X
  have hS : va_S (gw_A G s.heap.size) s.heap s.heap [] := va_S.rf
  have L34 : ∀ (n : Nat) (K : Int32 → Int32 → Int32 → Int32 → gw_S → Option gw_S) (v34_2 : Int32) (v34_3 : Int32) (v34_4 : Int32) (v34_5 : Int32) (v34_6 : Int32) (σ : gw_S) (H : Heap) (locs : List Loc) (ls : Array Slot), f_X2_rankAll_t_L34 n K v34_2 v34_3 v34_4 v34_5 v34_6 σ = some o → gw_P G σ H → va_S (gw_A G s.heap.size) s.heap H locs → lv_has ls 7 [(0, .ref (G.2.1 4)), (1, .ref (G.2.1 8)), (2, .int v34_2), (3, .int v34_3), (4, .int v34_4), (5, .int v34_5), (6, .int v34_6)] → (∀ (w2 : Int32) (w3 : Int32) (w4 : Int32) (w5 : Int32) (σ : gw_S) (H : Heap) (locs : List Loc) (ls : Array Slot), K w2 w3 w4 w5 σ = some o → gw_P G σ H → va_S (gw_A G s.heap.size) s.heap H locs → lv_has ls 7 [(0, .ref (G.2.1 4)), (1, .ref (G.2.1 8)), (2, .int w2), (3, .int w3), (4, .int w4), (5, .int w5)] → W p l e { frames := 2, cells := 0, slots := 0, locals := 43 } s m [.ref (G.2.1 4), .ref (G.2.1 8), .int a1, .int a2].toArray below meth c H locs 0 0 (MQ below (gw_QV G s.heap.size o) [.ref (G.2.1 4), .ref (G.2.1 8), .int a1, .int a2].toArray s 0 0 (gw_A G s.heap.size)) (F0 m 72 ls [])) → W p l e { frames := 2, cells := 0, slots := 0, locals := 43 } s m [.ref (G.2.1 4), .ref (G.2.1 8), .int a1, .int a2].toArray below meth c H locs 0 0 (MQ below (gw_QV G s.heap.size o) [.ref (G.2.1 4), .ref (G.2.1 8), .int a1, .int a2].toArray s 0 0 (gw_A G s.heap.size)) (F0 m 34 ls []) := by
    intro n K
    induction n with
    | zero =>
      intro v34_2 v34_3 v34_4 v34_5 v34_6 σ H locs ls h
      exact absurd h (by rw [f_X2_rankAll_t_L34.eq_1]; exact fun h => nomatch h)
    | succ n ih =>
      intro v34_2 v34_3 v34_4 v34_5 v34_6 σ H locs ls h hP hS hl hK
      rw [f_X2_rankAll_t_L34.eq_2] at h
      refine lv_iload hx hb dX2_rankAll_34 (lv_at hl 6 rfl) ?_
      refine lv_aload_n hx hb dX2_rankAll_36 rfl (lv_at hl 0 rfl) ?_
      refine lv_iload hx hb dX2_rankAll_37 (lv_at hl 4 rfl) ?_
      obtain ⟨p1, gp1, h⟩ := Option.bind_eq_some_iff.mp h
      refine gw_ci (gw_rV (C := RX2) X hP hS (gc_X2_pairsOf l G v34_4 σ _ gp1) gk_X2_pairsOf gv_810 ⟨gv_313, gv_314⟩ (va_recv hT.2.1 hP (ci := 5) (q0 := 4) rfl rfl) rfl rfl (Nat.le_of_ble_eq_true rfl) hl.1 ⟨rfl, rfl⟩ ⟨Nat.le_of_ble_eq_true rfl, Nat.le_of_ble_eq_true rfl⟩ ⟨Nat.le_of_ble_eq_true rfl, Nat.le_of_ble_eq_true rfl⟩ dX2_rankAll_39) hS (fun H locs hP hS => ?_)
      refine lv_icmp_ge (tgt := 72) hx hb dX2_rankAll_42 (by decide) (fun c => ?_) (fun c => ?_)
      · have h := (if_pos c).symm.trans h
        exact hK v34_2 v34_3 v34_4 v34_5 p1.2 _ _ _ h hP hS (lv_sub hl [0, 1, 2, 3, 4, 5] rfl)
      · have h := (if_neg c).symm.trans h
        refine lv_iload hx hb dX2_rankAll_45 (lv_at hl 5 rfl) ?_
        refine lv_iconst (v := 1) hx hb dX2_rankAll_47 (by decide) ?_
        refine lv_aload_n hx hb dX2_rankAll_48 rfl (lv_at hl 1 rfl) ?_
        refine lv_aload_n hx hb dX2_rankAll_49 rfl (lv_at hl 0 rfl) ?_
        refine lv_iload hx hb dX2_rankAll_50 (lv_at hl 4 rfl) ?_
        refine lv_iload hx hb dX2_rankAll_52 (lv_at hl 6 rfl) ?_
        obtain ⟨p2, gp2, h⟩ := Option.bind_eq_some_iff.mp h
        refine gw_ci (gw_rV (C := RX2) X hP hS (gc_X2_lower l G v34_4 v34_6 p1.2 _ gp2) gk_X2_lower gv_811 ⟨gv_317, gv_318⟩ (va_recv hT.2.1 hP (ci := 5) (q0 := 4) rfl rfl) rfl rfl (Nat.le_of_ble_eq_true rfl) hl.1 ⟨rfl, rfl⟩ ⟨Nat.le_of_ble_eq_true rfl, Nat.le_of_ble_eq_true rfl⟩ ⟨Nat.le_of_ble_eq_true rfl, Nat.le_of_ble_eq_true rfl⟩ dX2_rankAll_54) hS (fun H locs hP hS => ?_)
        obtain ⟨p3, gp3, h⟩ := Option.bind_eq_some_iff.mp h
        refine gw_ci (gw_rN (host := "Genericwood") X hP hS (gc_X8_at l G 8 ⟨by decide, by decide⟩ p2.1 p2.2 _ gp3) gk_X8_at gv_311 gv_275 rfl rfl (Nat.le_of_ble_eq_true rfl) hl.1 ⟨rfl, rfl⟩ ⟨Nat.le_of_ble_eq_true rfl, Nat.le_of_ble_eq_true rfl⟩ ⟨Nat.le_of_ble_eq_true rfl, Nat.le_of_ble_eq_true rfl⟩ dX2_rankAll_57) hS (fun H locs hP hS => ?_)
        refine lv_iadd hx hb dX2_rankAll_60 ?_
        refine va_mmax hx hb (hml.trans hl.1.symm) hown (hts _ gv_812) (hts _ gx_mm1) (hts _ gx_mm2) (hts _ gx_mm3) (Nat.le_of_ble_eq_true rfl) (Nat.le_of_ble_eq_true rfl) (Nat.le_of_ble_eq_true rfl) (Nat.le_of_ble_eq_true rfl) dX2_rankAll_61 ?_
        refine lv_istore (lv' := [(5, .int (if v34_5 < ((1 : Int32) + p3.1) then ((1 : Int32) + p3.1) else v34_5)), (0, .ref (G.2.1 4)), (1, .ref (G.2.1 8)), (2, .int v34_2), (3, .int v34_3), (4, .int v34_4), (6, .int v34_6)]) hx hb dX2_rankAll_64 hl (by decide) rfl (fun ls hl => ?_)
        refine lv_iinc (v := (v34_6 + (1 : Int32))) (lv' := [(6, .int (v34_6 + (1 : Int32))), (5, .int (if v34_5 < ((1 : Int32) + p3.1) then ((1 : Int32) + p3.1) else v34_5)), (0, .ref (G.2.1 4)), (1, .ref (G.2.1 8)), (2, .int v34_2), (3, .int v34_3), (4, .int v34_4)]) hx hb dX2_rankAll_66 hl (k := 6) rfl rfl (by decide) rfl (fun ls hl => ?_)
        refine lv_goto (tgt := 34) hx hb dX2_rankAll_69 (by decide) ?_
        exact ih v34_2 v34_3 v34_4 (if v34_5 < ((1 : Int32) + p3.1) then ((1 : Int32) + p3.1) else v34_5) (v34_6 + (1 : Int32)) p3.2 _ _ _ h hP hS (lv_sub hl [2, 3, 4, 5, 6, 1, 0] rfl) hK
  have L3 : ∀ (n : Nat) (v3_2 : Int32) (v3_3 : Int32) (v3_4 : Int32) (σ : gw_S) (H : Heap) (locs : List Loc) (ls : Array Slot), f_X2_rankAll_t_L3 n v3_2 v3_3 v3_4 σ = some o → gw_P G σ H → va_S (gw_A G s.heap.size) s.heap H locs → lv_has ls 7 [(0, .ref (G.2.1 4)), (1, .ref (G.2.1 8)), (2, .int v3_2), (3, .int v3_3), (4, .int v3_4)] → W p l e { frames := 2, cells := 0, slots := 0, locals := 43 } s m [.ref (G.2.1 4), .ref (G.2.1 8), .int a1, .int a2].toArray below meth c H locs 0 0 (MQ below (gw_QV G s.heap.size o) [.ref (G.2.1 4), .ref (G.2.1 8), .int a1, .int a2].toArray s 0 0 (gw_A G s.heap.size)) (F0 m 3 ls []) := by
    intro n
    induction n with
    | zero =>
      intro v3_2 v3_3 v3_4 σ H locs ls h
      exact absurd h (by rw [f_X2_rankAll_t_L3.eq_1]; exact fun h => nomatch h)
    | succ n ih =>
      intro v3_2 v3_3 v3_4 σ H locs ls h hP hS hl
      rw [f_X2_rankAll_t_L3.eq_2] at h
      refine lv_iload hx hb dX2_rankAll_3 (lv_at hl 4 rfl) ?_
      refine lv_aload_n hx hb dX2_rankAll_5 rfl (lv_at hl 0 rfl) ?_
      refine va_get (D := G.1) (ci := 5) (v := .int (σ 4 1)) (C := RX2) (T := TX2) (N := 9) hx hb hts gx_X2 hown hT.2.1 hP 4 rfl rfl 1 (by decide) (hts _ gv_72) (fun _ h9 => h9) rfl dX2_rankAll_6 ?_
      refine lv_icmp_ge (tgt := 86) hx hb dX2_rankAll_9 (by decide) (fun c => ?_) (fun c => ?_)
      · have h := (if_pos c).symm.trans h
        exact gw_rv X hP hS h dX2_rankAll_86
      · have h := (if_neg c).symm.trans h
        refine lv_iload hx hb dX2_rankAll_12 (lv_at hl 4 rfl) ?_
        refine lv_iload_n hx hb dX2_rankAll_14 rfl (lv_at hl 2 rfl) ?_
        refine lv_icmp_ne (tgt := 28) hx hb dX2_rankAll_15 (by decide) (fun c => ?_) (fun c => ?_)
        · have h := (if_neg c).symm.trans h
          refine lv_iconst (v := 0) hx hb dX2_rankAll_28 (by decide) ?_
          refine lv_istore (lv' := [(5, .int (0 : Int32)), (0, .ref (G.2.1 4)), (1, .ref (G.2.1 8)), (2, .int v3_2), (3, .int v3_3), (4, .int v3_4)]) hx hb dX2_rankAll_29 hl (by decide) rfl (fun ls hl => ?_)
          refine lv_iconst (v := 0) hx hb dX2_rankAll_31 (by decide) ?_
          refine lv_istore (lv' := [(6, .int (0 : Int32)), (5, .int (0 : Int32)), (0, .ref (G.2.1 4)), (1, .ref (G.2.1 8)), (2, .int v3_2), (3, .int v3_3), (4, .int v3_4)]) hx hb dX2_rankAll_32 hl (by decide) rfl (fun ls hl => ?_)
          refine L34 64 _ v3_2 v3_3 v3_4 (0 : Int32) (0 : Int32) σ _ _ _ h hP hS (lv_sub hl [2, 3, 4, 5, 6, 1, 0] rfl) (fun w34_2 w34_3 w34_4 w34_5 σ34 H locs ls h hP hS hl => ?_)
          refine lv_aload_n hx hb dX2_rankAll_72 rfl (lv_at hl 1 rfl) ?_
          refine lv_iload hx hb dX2_rankAll_73 (lv_at hl 4 rfl) ?_
          refine lv_iload hx hb dX2_rankAll_75 (lv_at hl 5 rfl) ?_
          obtain ⟨p4, gp4, h⟩ := Option.bind_eq_some_iff.mp h
          refine gw_cv (gw_rN (host := "Genericwood") X hP hS (gc_X8_put l G 8 ⟨by decide, by decide⟩ w34_4 w34_5 σ34 _ gp4) gk_X8_put gv_813 gv_403 rfl rfl (Nat.le_of_ble_eq_true rfl) hl.1 ⟨rfl, rfl⟩ ⟨Nat.le_of_ble_eq_true rfl, Nat.le_of_ble_eq_true rfl⟩ ⟨Nat.le_of_ble_eq_true rfl, Nat.le_of_ble_eq_true rfl⟩ dX2_rankAll_77) hS (fun H locs hP hS => ?_)
          refine lv_iinc (v := (w34_4 + (1 : Int32))) (lv' := [(4, .int (w34_4 + (1 : Int32))), (0, .ref (G.2.1 4)), (1, .ref (G.2.1 8)), (2, .int w34_2), (3, .int w34_3), (5, .int w34_5)]) hx hb dX2_rankAll_80 hl (k := 4) rfl rfl (by decide) rfl (fun ls hl => ?_)
          refine lv_goto (tgt := 3) hx hb dX2_rankAll_83 (by decide) ?_
          exact ih w34_2 w34_3 (w34_4 + (1 : Int32)) p4 _ _ _ h hP hS (lv_sub hl [1, 2, 3, 4, 0] rfl)
        · have h := (if_pos c).symm.trans h
          refine lv_iconst (v := 1) hx hb dX2_rankAll_18 (by decide) ?_
          refine lv_aload_n hx hb dX2_rankAll_19 rfl (lv_at hl 1 rfl) ?_
          refine lv_iload_n hx hb dX2_rankAll_20 rfl (lv_at hl 3 rfl) ?_
          obtain ⟨p5, gp5, h⟩ := Option.bind_eq_some_iff.mp h
          refine gw_ci (gw_rN (host := "Genericwood") X hP hS (gc_X8_at l G 8 ⟨by decide, by decide⟩ v3_3 σ _ gp5) gk_X8_at gv_311 gv_275 rfl rfl (Nat.le_of_ble_eq_true rfl) hl.1 ⟨rfl, rfl⟩ ⟨Nat.le_of_ble_eq_true rfl, Nat.le_of_ble_eq_true rfl⟩ ⟨Nat.le_of_ble_eq_true rfl, Nat.le_of_ble_eq_true rfl⟩ dX2_rankAll_21) hS (fun H locs hP hS => ?_)
          refine lv_iadd hx hb dX2_rankAll_24 ?_
          refine lv_goto (tgt := 29) hx hb dX2_rankAll_25 (by decide) ?_
          refine lv_istore (lv' := [(5, .int ((1 : Int32) + p5.1)), (0, .ref (G.2.1 4)), (1, .ref (G.2.1 8)), (2, .int v3_2), (3, .int v3_3), (4, .int v3_4)]) hx hb dX2_rankAll_29 hl (by decide) rfl (fun ls hl => ?_)
          refine lv_iconst (v := 0) hx hb dX2_rankAll_31 (by decide) ?_
          refine lv_istore (lv' := [(6, .int (0 : Int32)), (5, .int ((1 : Int32) + p5.1)), (0, .ref (G.2.1 4)), (1, .ref (G.2.1 8)), (2, .int v3_2), (3, .int v3_3), (4, .int v3_4)]) hx hb dX2_rankAll_32 hl (by decide) rfl (fun ls hl => ?_)
          refine L34 64 _ v3_2 v3_3 v3_4 ((1 : Int32) + p5.1) (0 : Int32) p5.2 _ _ _ h hP hS (lv_sub hl [2, 3, 4, 5, 6, 1, 0] rfl) (fun w34_2 w34_3 w34_4 w34_5 σ34 H locs ls h hP hS hl => ?_)
          refine lv_aload_n hx hb dX2_rankAll_72 rfl (lv_at hl 1 rfl) ?_
          refine lv_iload hx hb dX2_rankAll_73 (lv_at hl 4 rfl) ?_
          refine lv_iload hx hb dX2_rankAll_75 (lv_at hl 5 rfl) ?_
          obtain ⟨p6, gp6, h⟩ := Option.bind_eq_some_iff.mp h
          refine gw_cv (gw_rN (host := "Genericwood") X hP hS (gc_X8_put l G 8 ⟨by decide, by decide⟩ w34_4 w34_5 σ34 _ gp6) gk_X8_put gv_813 gv_403 rfl rfl (Nat.le_of_ble_eq_true rfl) hl.1 ⟨rfl, rfl⟩ ⟨Nat.le_of_ble_eq_true rfl, Nat.le_of_ble_eq_true rfl⟩ ⟨Nat.le_of_ble_eq_true rfl, Nat.le_of_ble_eq_true rfl⟩ dX2_rankAll_77) hS (fun H locs hP hS => ?_)
          refine lv_iinc (v := (w34_4 + (1 : Int32))) (lv' := [(4, .int (w34_4 + (1 : Int32))), (0, .ref (G.2.1 4)), (1, .ref (G.2.1 8)), (2, .int w34_2), (3, .int w34_3), (5, .int w34_5)]) hx hb dX2_rankAll_80 hl (k := 4) rfl rfl (by decide) rfl (fun ls hl => ?_)
          refine lv_goto (tgt := 3) hx hb dX2_rankAll_83 (by decide) ?_
          exact ih w34_2 w34_3 (w34_4 + (1 : Int32)) p6 _ _ _ h hP hS (lv_sub hl [1, 2, 3, 4, 0] rfl)
  unfold f_X2_rankAll_t at h
  refine lv_iconst (v := 0) hx hb dX2_rankAll_0 (by decide) ?_
  refine lv_istore (lv' := [(4, .int (0 : Int32)), (0, .ref (G.2.1 4)), (1, .ref (G.2.1 8)), (2, .int a1), (3, .int a2)]) hx hb dX2_rankAll_1 hl (by decide) rfl (fun ls hl => ?_)
  exact L3 64 a1 a2 (0 : Int32) σ _ _ _ h hP hS (lv_sub hl [1, 2, 3, 4, 0] rfl)
def f_X2_changed (σ : gw_S) : Option gw_S := ((f_X2_rankAll_h (-1 : Int32) (-1 : Int32) (gw_up σ 4 2 ((σ 4 2) + (1 : Int32)))).bind fun p1 => (some p1))
set_option maxHeartbeats 4000000 in
set_option maxRecDepth 100000 in
theorem gc_X2_changed (l : Launch) (G : gw_G) (σ : gw_S) (o : gw_S) (h : f_X2_changed σ = some o) : gw_M (fun sz => gw_QV G sz o) l yX2_changed cX2_changed 1 none { frames := 3, cells := 0, slots := 0, locals := 69 } G [.ref (G.2.1 4)] σ := by
  refine gw_en (own := RX2) (lv := [(0, .ref (G.2.1 4))]) (by decide +kernel) rfl (Nat.le_of_ble_eq_true rfl) rfl ?_
  intro p e s m below meth c ls X hl hP
  obtain ⟨hx, hb, hml, hown, hts, -, -, hT, hZ, -⟩ := id X
  have hS : va_S (gw_A G s.heap.size) s.heap s.heap [] := va_S.rf
  unfold f_X2_changed at h
  refine lv_aload_n hx hb dX2_changed_0 rfl (lv_at hl 0 rfl) ?_
  refine lv_dup hx hb dX2_changed_1 rfl ?_
  refine va_get (D := G.1) (ci := 5) (v := .int (σ 4 2)) (C := RX2) (T := TX2) (N := 9) hx hb hts gx_X2 hown hT.2.1 hP 4 rfl rfl 2 (by decide) (hts _ gv_73) (fun _ h9 => h9) rfl dX2_changed_2 ?_
  refine lv_iconst (v := 1) hx hb dX2_changed_5 (by decide) ?_
  refine lv_iadd hx hb dX2_changed_6 ?_
  refine va_put (D := G.1) (ci := 5) (v := .int ((σ 4 2) + (1 : Int32))) (ty := .int) (C := RX2) (T := TX2) (N := 9) hx hb hts gx_X2 tyX2 tyX2_ok nmX2 hown hT.2.1 hP (gw_D hT.1 s.heap.size _) hS 4 rfl rfl 2 (by decide) (hts _ gv_73) (fun _ h9 => h9) rfl gx_pI rfl rfl (Nat.le_of_ble_eq_true rfl) dX2_changed_7 (fun H locs hP _ hS => ?_)
  have hP : gw_P G (gw_up σ 4 2 ((σ 4 2) + (1 : Int32))) H := hP
  refine lv_aload_n hx hb dX2_changed_10 rfl (lv_at hl 0 rfl) ?_
  refine lv_aload_n hx hb dX2_changed_11 rfl (lv_at hl 0 rfl) ?_
  refine va_get (D := G.1) (ci := 5) (v := .ref (G.2.1 7)) (C := RX2) (T := TX2) (N := 9) hx hb hts gx_X2 hown hT.2.1 hP 4 rfl rfl 5 (by decide) (hts _ gv_76) (fun _ h9 => h9) rfl dX2_changed_12 ?_
  refine lv_iconst (v := -1) hx hb dX2_changed_15 (by decide) ?_
  refine lv_iconst (v := -1) hx hb dX2_changed_16 (by decide) ?_
  obtain ⟨p1, gp1, h⟩ := Option.bind_eq_some_iff.mp h
  refine gw_cv (gw_rV (C := RX2) X hP hS (gc_X2_rankAll_h l G (-1 : Int32) (-1 : Int32) (gw_up σ 4 2 ((σ 4 2) + (1 : Int32))) _ gp1) gk_X2_rankAll gv_806 ⟨gv_808, gv_s14⟩ (va_recv hT.2.1 hP (ci := 5) (q0 := 4) rfl rfl) rfl rfl (Nat.le_of_ble_eq_true rfl) hl.1 ⟨rfl, rfl⟩ ⟨Nat.le_of_ble_eq_true rfl, Nat.le_of_ble_eq_true rfl⟩ ⟨Nat.le_of_ble_eq_true rfl, Nat.le_of_ble_eq_true rfl⟩ dX2_changed_17) hS (fun H locs hP hS => ?_)
  exact gw_rv X hP hS h dX2_changed_20
def f_X2_add (σ : gw_S) : Option (Int32 × gw_S) := ((f_X2_changed  (gw_up σ 4 1 ((σ 4 1) + (1 : Int32)))).bind fun p1 => (some ((σ 4 1), p1)))
set_option maxHeartbeats 4000000 in
set_option maxRecDepth 100000 in
theorem gc_X2_add (l : Launch) (G : gw_G) (σ : gw_S) (o : (Int32 × gw_S)) (h : f_X2_add σ = some o) : gw_M (fun sz => gw_QI G sz o) l yX2_add cX2_add 2 (some .int) { frames := 4, cells := 0, slots := 0, locals := 89 } G [.ref (G.2.1 4)] σ := by
  refine gw_en (own := RX2) (lv := [(0, .ref (G.2.1 4))]) (by decide +kernel) rfl (Nat.le_of_ble_eq_true rfl) rfl ?_
  intro p e s m below meth c ls X hl hP
  obtain ⟨hx, hb, hml, hown, hts, -, -, hT, hZ, -⟩ := id X
  have hS : va_S (gw_A G s.heap.size) s.heap s.heap [] := va_S.rf
  unfold f_X2_add at h
  refine lv_aload_n hx hb dX2_add_0 rfl (lv_at hl 0 rfl) ?_
  refine va_get (D := G.1) (ci := 5) (v := .int (σ 4 1)) (C := RX2) (T := TX2) (N := 9) hx hb hts gx_X2 hown hT.2.1 hP 4 rfl rfl 1 (by decide) (hts _ gv_72) (fun _ h9 => h9) rfl dX2_add_1 ?_
  refine lv_istore_n (lv' := [(1, .int (σ 4 1)), (0, .ref (G.2.1 4))]) hx hb dX2_add_4 rfl hl (by decide) rfl (fun ls hl => ?_)
  refine lv_aload_n hx hb dX2_add_5 rfl (lv_at hl 1 rfl) ?_
  refine lv_dup hx hb dX2_add_6 rfl ?_
  refine va_get (D := G.1) (ci := 5) (v := .int (σ 4 1)) (C := RX2) (T := TX2) (N := 9) hx hb hts gx_X2 hown hT.2.1 hP 4 rfl rfl 1 (by decide) (hts _ gv_72) (fun _ h9 => h9) rfl dX2_add_7 ?_
  refine lv_iconst (v := 1) hx hb dX2_add_10 (by decide) ?_
  refine lv_iadd hx hb dX2_add_11 ?_
  refine va_put (D := G.1) (ci := 5) (v := .int ((σ 4 1) + (1 : Int32))) (ty := .int) (C := RX2) (T := TX2) (N := 9) hx hb hts gx_X2 tyX2 tyX2_ok nmX2 hown hT.2.1 hP (gw_D hT.1 s.heap.size _) hS 4 rfl rfl 1 (by decide) (hts _ gv_72) (fun _ h9 => h9) rfl gx_pI rfl rfl (Nat.le_of_ble_eq_true rfl) dX2_add_12 (fun H locs hP _ hS => ?_)
  have hP : gw_P G (gw_up σ 4 1 ((σ 4 1) + (1 : Int32))) H := hP
  refine lv_aload_n hx hb dX2_add_15 rfl (lv_at hl 1 rfl) ?_
  obtain ⟨p1, gp1, h⟩ := Option.bind_eq_some_iff.mp h
  refine gw_cv (gw_rV (C := RX2) X hP hS (gc_X2_changed l G  (gw_up σ 4 1 ((σ 4 1) + (1 : Int32))) _ gp1) gk_X2_changed gv_802 ⟨gv_804, gv_s13⟩ (va_recv hT.2.1 hP (ci := 5) (q0 := 4) rfl rfl) rfl rfl (Nat.le_of_ble_eq_true rfl) hl.1 ⟨rfl, rfl⟩ ⟨Nat.le_of_ble_eq_true rfl, Nat.le_of_ble_eq_true rfl⟩ ⟨Nat.le_of_ble_eq_true rfl, Nat.le_of_ble_eq_true rfl⟩ dX2_add_16) hS (fun H locs hP hS => ?_)
  refine lv_iload_n hx hb dX2_add_19 rfl (lv_at hl 0 rfl) ?_
  exact gw_ri X hP hS h dX2_add_20
def f_X2_addPair (a0 : Int32) (a1 : Int32) (a2 : Int32) (σ : gw_S) : Option gw_S := ((f_X2_pairsOf a0 σ).bind fun p1 => (if (4 : Int32) ≤ p1.1 then (some p1.2) else ((f_X8_put 6 ((a0 * (4 : Int32)) + p1.1) (a1 + ((16 : Int32) * a2)) p1.2).bind fun p2 => ((f_X8_put 5 a0 (p1.1 + (1 : Int32)) p2).bind fun p3 => ((f_X2_changed  p3).bind fun p4 => (some p4))))))
set_option maxHeartbeats 4000000 in
set_option maxRecDepth 100000 in
theorem gc_X2_addPair (l : Launch) (G : gw_G) (a0 : Int32) (a1 : Int32) (a2 : Int32) (σ : gw_S) (o : gw_S) (h : f_X2_addPair a0 a1 a2 σ = some o) : gw_M (fun sz => gw_QV G sz o) l yX2_addPair cX2_addPair 5 none { frames := 4, cells := 0, slots := 0, locals := 89 } G [.ref (G.2.1 4), .int a0, .int a1, .int a2] σ := by
  refine gw_en (own := RX2) (lv := [(0, .ref (G.2.1 4)), (1, .int a0), (2, .int a1), (3, .int a2)]) (by decide +kernel) rfl (Nat.le_of_ble_eq_true rfl) rfl ?_
  intro p e s m below meth c ls X hl hP
  obtain ⟨hx, hb, hml, hown, hts, -, -, hT, hZ, -⟩ := id X
  have hS : va_S (gw_A G s.heap.size) s.heap s.heap [] := va_S.rf
  unfold f_X2_addPair at h
  refine lv_aload_n hx hb dX2_addPair_0 rfl (lv_at hl 0 rfl) ?_
  refine lv_iload_n hx hb dX2_addPair_1 rfl (lv_at hl 1 rfl) ?_
  obtain ⟨p1, gp1, h⟩ := Option.bind_eq_some_iff.mp h
  refine gw_ci (gw_rV (C := RX2) X hP hS (gc_X2_pairsOf l G a0 σ _ gp1) gk_X2_pairsOf gv_810 ⟨gv_313, gv_314⟩ (va_recv hT.2.1 hP (ci := 5) (q0 := 4) rfl rfl) rfl rfl (Nat.le_of_ble_eq_true rfl) hl.1 ⟨rfl, rfl⟩ ⟨Nat.le_of_ble_eq_true rfl, Nat.le_of_ble_eq_true rfl⟩ ⟨Nat.le_of_ble_eq_true rfl, Nat.le_of_ble_eq_true rfl⟩ dX2_addPair_2) hS (fun H locs hP hS => ?_)
  refine lv_istore (lv' := [(4, .int p1.1), (0, .ref (G.2.1 4)), (1, .int a0), (2, .int a1), (3, .int a2)]) hx hb dX2_addPair_5 hl (by decide) rfl (fun ls hl => ?_)
  refine lv_iload hx hb dX2_addPair_7 (lv_at hl 0 rfl) ?_
  refine lv_iconst (v := 4) hx hb dX2_addPair_9 (by decide) ?_
  refine lv_icmp_ge (tgt := 48) hx hb dX2_addPair_10 (by decide) (fun c => ?_) (fun c => ?_)
  · have h := (if_pos c).symm.trans h
    exact gw_rv X hP hS h dX2_addPair_48
  · have h := (if_neg c).symm.trans h
    refine lv_aload_n hx hb dX2_addPair_13 rfl (lv_at hl 1 rfl) ?_
    refine va_get (D := G.1) (ci := 5) (v := .ref (G.2.1 6)) (C := RX2) (T := TX2) (N := 9) hx hb hts gx_X2 hown hT.2.1 hP 4 rfl rfl 4 (by decide) (hts _ gv_75) (fun _ h9 => h9) rfl dX2_addPair_14 ?_
    refine lv_iload_n hx hb dX2_addPair_17 rfl (lv_at hl 2 rfl) ?_
    refine lv_iconst (v := 4) hx hb dX2_addPair_18 (by decide) ?_
    refine lv_imul hx hb dX2_addPair_19 ?_
    refine lv_iload hx hb dX2_addPair_20 (lv_at hl 0 rfl) ?_
    refine lv_iadd hx hb dX2_addPair_22 ?_
    refine lv_iload_n hx hb dX2_addPair_23 rfl (lv_at hl 3 rfl) ?_
    refine lv_bipush (v := 16) hx hb dX2_addPair_24 (by decide) ?_
    refine lv_iload_n hx hb dX2_addPair_26 rfl (lv_at hl 4 rfl) ?_
    refine lv_imul hx hb dX2_addPair_27 ?_
    refine lv_iadd hx hb dX2_addPair_28 ?_
    obtain ⟨p2, gp2, h⟩ := Option.bind_eq_some_iff.mp h
    refine gw_cv (gw_rN (host := "Genericwood") X hP hS (gc_X8_put l G 6 ⟨by decide, by decide⟩ ((a0 * (4 : Int32)) + p1.1) (a1 + ((16 : Int32) * a2)) p1.2 _ gp2) gk_X8_put gv_813 gv_403 rfl rfl (Nat.le_of_ble_eq_true rfl) hl.1 ⟨rfl, rfl⟩ ⟨Nat.le_of_ble_eq_true rfl, Nat.le_of_ble_eq_true rfl⟩ ⟨Nat.le_of_ble_eq_true rfl, Nat.le_of_ble_eq_true rfl⟩ dX2_addPair_29) hS (fun H locs hP hS => ?_)
    refine lv_aload_n hx hb dX2_addPair_32 rfl (lv_at hl 1 rfl) ?_
    refine va_get (D := G.1) (ci := 5) (v := .ref (G.2.1 5)) (C := RX2) (T := TX2) (N := 9) hx hb hts gx_X2 hown hT.2.1 hP 4 rfl rfl 3 (by decide) (hts _ gv_74) (fun _ h9 => h9) rfl dX2_addPair_33 ?_
    refine lv_iload_n hx hb dX2_addPair_36 rfl (lv_at hl 2 rfl) ?_
    refine lv_iload hx hb dX2_addPair_37 (lv_at hl 0 rfl) ?_
    refine lv_iconst (v := 1) hx hb dX2_addPair_39 (by decide) ?_
    refine lv_iadd hx hb dX2_addPair_40 ?_
    obtain ⟨p3, gp3, h⟩ := Option.bind_eq_some_iff.mp h
    refine gw_cv (gw_rN (host := "Genericwood") X hP hS (gc_X8_put l G 5 ⟨by decide, by decide⟩ a0 (p1.1 + (1 : Int32)) p2 _ gp3) gk_X8_put gv_813 gv_403 rfl rfl (Nat.le_of_ble_eq_true rfl) hl.1 ⟨rfl, rfl⟩ ⟨Nat.le_of_ble_eq_true rfl, Nat.le_of_ble_eq_true rfl⟩ ⟨Nat.le_of_ble_eq_true rfl, Nat.le_of_ble_eq_true rfl⟩ dX2_addPair_41) hS (fun H locs hP hS => ?_)
    refine lv_aload_n hx hb dX2_addPair_44 rfl (lv_at hl 1 rfl) ?_
    obtain ⟨p4, gp4, h⟩ := Option.bind_eq_some_iff.mp h
    refine gw_cv (gw_rV (C := RX2) X hP hS (gc_X2_changed l G  p3 _ gp4) gk_X2_changed gv_802 ⟨gv_804, gv_s13⟩ (va_recv hT.2.1 hP (ci := 5) (q0 := 4) rfl rfl) rfl rfl (Nat.le_of_ble_eq_true rfl) hl.1 ⟨rfl, rfl⟩ ⟨Nat.le_of_ble_eq_true rfl, Nat.le_of_ble_eq_true rfl⟩ ⟨Nat.le_of_ble_eq_true rfl, Nat.le_of_ble_eq_true rfl⟩ dX2_addPair_45) hS (fun H locs hP hS => ?_)
    exact gw_rv X hP hS h dX2_addPair_48
def f_X2_dropPair (a0 : Int32) (σ : gw_S) : Option gw_S := ((f_X2_pairsOf a0 σ).bind fun p1 => ((f_X8_put 5 a0 (if (0 : Int32) < (p1.1 - (1 : Int32)) then (p1.1 - (1 : Int32)) else (0 : Int32)) p1.2).bind fun p2 => ((f_X2_changed  p2).bind fun p3 => (some p3))))
set_option maxHeartbeats 4000000 in
set_option maxRecDepth 100000 in
theorem gc_X2_dropPair (l : Launch) (G : gw_G) (a0 : Int32) (σ : gw_S) (o : gw_S) (h : f_X2_dropPair a0 σ = some o) : gw_M (fun sz => gw_QV G sz o) l yX2_dropPair cX2_dropPair 2 none { frames := 4, cells := 0, slots := 0, locals := 89 } G [.ref (G.2.1 4), .int a0] σ := by
  refine gw_en (own := RX2) (lv := [(0, .ref (G.2.1 4)), (1, .int a0)]) (by decide +kernel) rfl (Nat.le_of_ble_eq_true rfl) rfl ?_
  intro p e s m below meth c ls X hl hP
  obtain ⟨hx, hb, hml, hown, hts, -, -, hT, hZ, -⟩ := id X
  have hS : va_S (gw_A G s.heap.size) s.heap s.heap [] := va_S.rf
  unfold f_X2_dropPair at h
  refine lv_aload_n hx hb dX2_dropPair_0 rfl (lv_at hl 0 rfl) ?_
  refine va_get (D := G.1) (ci := 5) (v := .ref (G.2.1 5)) (C := RX2) (T := TX2) (N := 9) hx hb hts gx_X2 hown hT.2.1 hP 4 rfl rfl 3 (by decide) (hts _ gv_74) (fun _ h9 => h9) rfl dX2_dropPair_1 ?_
  refine lv_iload_n hx hb dX2_dropPair_4 rfl (lv_at hl 1 rfl) ?_
  refine lv_iconst (v := 0) hx hb dX2_dropPair_5 (by decide) ?_
  refine lv_aload_n hx hb dX2_dropPair_6 rfl (lv_at hl 0 rfl) ?_
  refine lv_iload_n hx hb dX2_dropPair_7 rfl (lv_at hl 1 rfl) ?_
  obtain ⟨p1, gp1, h⟩ := Option.bind_eq_some_iff.mp h
  refine gw_ci (gw_rV (C := RX2) X hP hS (gc_X2_pairsOf l G a0 σ _ gp1) gk_X2_pairsOf gv_810 ⟨gv_313, gv_314⟩ (va_recv hT.2.1 hP (ci := 5) (q0 := 4) rfl rfl) rfl rfl (Nat.le_of_ble_eq_true rfl) hl.1 ⟨rfl, rfl⟩ ⟨Nat.le_of_ble_eq_true rfl, Nat.le_of_ble_eq_true rfl⟩ ⟨Nat.le_of_ble_eq_true rfl, Nat.le_of_ble_eq_true rfl⟩ dX2_dropPair_8) hS (fun H locs hP hS => ?_)
  refine lv_iconst (v := 1) hx hb dX2_dropPair_11 (by decide) ?_
  refine lv_isub hx hb dX2_dropPair_12 ?_
  refine va_mmax hx hb (hml.trans hl.1.symm) hown (hts _ gv_812) (hts _ gx_mm1) (hts _ gx_mm2) (hts _ gx_mm3) (Nat.le_of_ble_eq_true rfl) (Nat.le_of_ble_eq_true rfl) (Nat.le_of_ble_eq_true rfl) (Nat.le_of_ble_eq_true rfl) dX2_dropPair_13 ?_
  obtain ⟨p2, gp2, h⟩ := Option.bind_eq_some_iff.mp h
  refine gw_cv (gw_rN (host := "Genericwood") X hP hS (gc_X8_put l G 5 ⟨by decide, by decide⟩ a0 (if (0 : Int32) < (p1.1 - (1 : Int32)) then (p1.1 - (1 : Int32)) else (0 : Int32)) p1.2 _ gp2) gk_X8_put gv_813 gv_403 rfl rfl (Nat.le_of_ble_eq_true rfl) hl.1 ⟨rfl, rfl⟩ ⟨Nat.le_of_ble_eq_true rfl, Nat.le_of_ble_eq_true rfl⟩ ⟨Nat.le_of_ble_eq_true rfl, Nat.le_of_ble_eq_true rfl⟩ dX2_dropPair_16) hS (fun H locs hP hS => ?_)
  refine lv_aload_n hx hb dX2_dropPair_19 rfl (lv_at hl 0 rfl) ?_
  obtain ⟨p3, gp3, h⟩ := Option.bind_eq_some_iff.mp h
  refine gw_cv (gw_rV (C := RX2) X hP hS (gc_X2_changed l G  p2 _ gp3) gk_X2_changed gv_802 ⟨gv_804, gv_s13⟩ (va_recv hT.2.1 hP (ci := 5) (q0 := 4) rfl rfl) rfl rfl (Nat.le_of_ble_eq_true rfl) hl.1 ⟨rfl, rfl⟩ ⟨Nat.le_of_ble_eq_true rfl, Nat.le_of_ble_eq_true rfl⟩ ⟨Nat.le_of_ble_eq_true rfl, Nat.le_of_ble_eq_true rfl⟩ dX2_dropPair_20) hS (fun H locs hP hS => ?_)
  exact gw_rv X hP hS h dX2_dropPair_23
def f_X2_wouldRiseTooHigh_L12 : Nat → Int32 → gw_S → Option (Int32 × gw_S)
  | 0, _, _ => none
  | n + 1, v12_3, σ => (if (σ 4 1) ≤ v12_3 then (some ((0 : Int32), σ)) else ((f_X8_at 8 v12_3 σ).bind fun p2 => (if p2.1 ≤ (3 : Int32) then (f_X2_wouldRiseTooHigh_L12 n (v12_3 + (1 : Int32)) p2.2) else (some ((1 : Int32), p2.2)))))
def f_X2_wouldRiseTooHigh (a0 : Int32) (a1 : Int32) (σ : gw_S) : Option (Int32 × gw_S) := ((f_X2_rankAll_t a0 a1 σ).bind fun p1 => (f_X2_wouldRiseTooHigh_L12 64 (0 : Int32) p1))
set_option maxHeartbeats 4000000 in
set_option maxRecDepth 100000 in
theorem gc_X2_wouldRiseTooHigh (l : Launch) (G : gw_G) (a0 : Int32) (a1 : Int32) (σ : gw_S) (o : (Int32 × gw_S)) (h : f_X2_wouldRiseTooHigh a0 a1 σ = some o) : gw_M (fun sz => gw_QZ G sz o) l yX2_wouldRiseTooHigh cX2_wouldRiseTooHigh 4 (some .boolean) { frames := 3, cells := 0, slots := 0, locals := 69 } G [.ref (G.2.1 4), .int a0, .int a1] σ := by
  refine gw_en (own := RX2) (lv := [(0, .ref (G.2.1 4)), (1, .int a0), (2, .int a1)]) (by decide +kernel) rfl (Nat.le_of_ble_eq_true rfl) rfl ?_
  intro p e s m below meth c ls X hl hP
  obtain ⟨hx, hb, hml, hown, hts, -, -, hT, hZ, -⟩ := id X
  have hS : va_S (gw_A G s.heap.size) s.heap s.heap [] := va_S.rf
  have L12 : ∀ (n : Nat) (v12_3 : Int32) (σ : gw_S) (H : Heap) (locs : List Loc) (ls : Array Slot), f_X2_wouldRiseTooHigh_L12 n v12_3 σ = some o → gw_P G σ H → va_S (gw_A G s.heap.size) s.heap H locs → lv_has ls 4 [(0, .ref (G.2.1 4)), (3, .int v12_3)] → W p l e { frames := 3, cells := 0, slots := 0, locals := 69 } s m [.ref (G.2.1 4), .int a0, .int a1].toArray below meth c H locs 0 0 (MQ below (gw_QZ G s.heap.size o) [.ref (G.2.1 4), .int a0, .int a1].toArray s 0 0 (gw_A G s.heap.size)) (F0 m 12 ls []) := by
    intro n
    induction n with
    | zero =>
      intro v12_3 σ H locs ls h
      exact absurd h (by rw [f_X2_wouldRiseTooHigh_L12.eq_1]; exact fun h => nomatch h)
    | succ n ih =>
      intro v12_3 σ H locs ls h hP hS hl
      rw [f_X2_wouldRiseTooHigh_L12.eq_2] at h
      refine lv_iload_n hx hb dX2_wouldRiseTooHigh_12 rfl (lv_at hl 1 rfl) ?_
      refine lv_aload_n hx hb dX2_wouldRiseTooHigh_13 rfl (lv_at hl 0 rfl) ?_
      refine va_get (D := G.1) (ci := 5) (v := .int (σ 4 1)) (C := RX2) (T := TX2) (N := 9) hx hb hts gx_X2 hown hT.2.1 hP 4 rfl rfl 1 (by decide) (hts _ gv_72) (fun _ h9 => h9) rfl dX2_wouldRiseTooHigh_14 ?_
      refine lv_icmp_ge (tgt := 40) hx hb dX2_wouldRiseTooHigh_17 (by decide) (fun c => ?_) (fun c => ?_)
      · have h := (if_pos c).symm.trans h
        refine lv_iconst (v := 0) hx hb dX2_wouldRiseTooHigh_40 (by decide) ?_
        exact gw_rz X hP hS rfl h dX2_wouldRiseTooHigh_41
      · have h := (if_neg c).symm.trans h
        refine lv_aload_n hx hb dX2_wouldRiseTooHigh_20 rfl (lv_at hl 0 rfl) ?_
        refine va_get (D := G.1) (ci := 5) (v := .ref (G.2.1 8)) (C := RX2) (T := TX2) (N := 9) hx hb hts gx_X2 hown hT.2.1 hP 4 rfl rfl 6 (by decide) (hts _ gv_77) (fun _ h9 => h9) rfl dX2_wouldRiseTooHigh_21 ?_
        refine lv_iload_n hx hb dX2_wouldRiseTooHigh_24 rfl (lv_at hl 1 rfl) ?_
        obtain ⟨p2, gp2, h⟩ := Option.bind_eq_some_iff.mp h
        refine gw_ci (gw_rN (host := "Genericwood") X hP hS (gc_X8_at l G 8 ⟨by decide, by decide⟩ v12_3 σ _ gp2) gk_X8_at gv_311 gv_275 rfl rfl (Nat.le_of_ble_eq_true rfl) hl.1 ⟨rfl, rfl⟩ ⟨Nat.le_of_ble_eq_true rfl, Nat.le_of_ble_eq_true rfl⟩ ⟨Nat.le_of_ble_eq_true rfl, Nat.le_of_ble_eq_true rfl⟩ dX2_wouldRiseTooHigh_25) hS (fun H locs hP hS => ?_)
        refine lv_iconst (v := 3) hx hb dX2_wouldRiseTooHigh_28 (by decide) ?_
        refine lv_icmp_le (tgt := 34) hx hb dX2_wouldRiseTooHigh_29 (by decide) (fun c => ?_) (fun c => ?_)
        · have h := (if_pos c).symm.trans h
          refine lv_iinc (v := (v12_3 + (1 : Int32))) (lv' := [(3, .int (v12_3 + (1 : Int32))), (0, .ref (G.2.1 4))]) hx hb dX2_wouldRiseTooHigh_34 hl (k := 1) rfl rfl (by decide) rfl (fun ls hl => ?_)
          refine lv_goto (tgt := 12) hx hb dX2_wouldRiseTooHigh_37 (by decide) ?_
          exact ih (v12_3 + (1 : Int32)) p2.2 _ _ _ h hP hS (lv_sub hl [1, 0] rfl)
        · have h := (if_neg c).symm.trans h
          refine lv_iconst (v := 1) hx hb dX2_wouldRiseTooHigh_32 (by decide) ?_
          exact gw_rz X hP hS rfl h dX2_wouldRiseTooHigh_33
  unfold f_X2_wouldRiseTooHigh at h
  refine lv_aload_n hx hb dX2_wouldRiseTooHigh_0 rfl (lv_at hl 0 rfl) ?_
  refine lv_aload_n hx hb dX2_wouldRiseTooHigh_1 rfl (lv_at hl 0 rfl) ?_
  refine va_get (D := G.1) (ci := 5) (v := .ref (G.2.1 8)) (C := RX2) (T := TX2) (N := 9) hx hb hts gx_X2 hown hT.2.1 hP 4 rfl rfl 6 (by decide) (hts _ gv_77) (fun _ h9 => h9) rfl dX2_wouldRiseTooHigh_2 ?_
  refine lv_iload_n hx hb dX2_wouldRiseTooHigh_5 rfl (lv_at hl 1 rfl) ?_
  refine lv_iload_n hx hb dX2_wouldRiseTooHigh_6 rfl (lv_at hl 2 rfl) ?_
  obtain ⟨p1, gp1, h⟩ := Option.bind_eq_some_iff.mp h
  refine gw_cv (gw_rV (C := RX2) X hP hS (gc_X2_rankAll_t l G a0 a1 σ _ gp1) gk_X2_rankAll gv_806 ⟨gv_808, gv_s14⟩ (va_recv hT.2.1 hP (ci := 5) (q0 := 4) rfl rfl) rfl rfl (Nat.le_of_ble_eq_true rfl) hl.1 ⟨rfl, rfl⟩ ⟨Nat.le_of_ble_eq_true rfl, Nat.le_of_ble_eq_true rfl⟩ ⟨Nat.le_of_ble_eq_true rfl, Nat.le_of_ble_eq_true rfl⟩ dX2_wouldRiseTooHigh_7) hS (fun H locs hP hS => ?_)
  refine lv_iconst (v := 0) hx hb dX2_wouldRiseTooHigh_10 (by decide) ?_
  refine lv_istore_n (lv' := [(3, .int (0 : Int32)), (0, .ref (G.2.1 4)), (1, .int a0), (2, .int a1)]) hx hb dX2_wouldRiseTooHigh_11 rfl hl (by decide) rfl (fun ls hl => ?_)
  exact L12 64 (0 : Int32) p1 _ _ _ h hP hS (lv_sub hl [1, 0] rfl)
def f_X2_standardOf (a0 : Int32) (σ : gw_S) : Option (Int32 × gw_S) := ((f_X8_at 10 a0 σ).bind fun p1 => (some ((p1.1 - (1 : Int32)), p1.2)))
set_option maxHeartbeats 4000000 in
set_option maxRecDepth 100000 in
theorem gc_X2_standardOf (l : Launch) (G : gw_G) (a0 : Int32) (σ : gw_S) (o : (Int32 × gw_S)) (h : f_X2_standardOf a0 σ = some o) : gw_M (fun sz => gw_QI G sz o) l yX2_standardOf cX2_standardOf 2 (some .int) { frames := 1, cells := 0, slots := 0, locals := 21 } G [.ref (G.2.1 4), .int a0] σ := by
  refine gw_en (own := RX2) (lv := [(0, .ref (G.2.1 4)), (1, .int a0)]) (by decide +kernel) rfl (Nat.le_of_ble_eq_true rfl) rfl ?_
  intro p e s m below meth c ls X hl hP
  obtain ⟨hx, hb, hml, hown, hts, -, -, hT, hZ, -⟩ := id X
  have hS : va_S (gw_A G s.heap.size) s.heap s.heap [] := va_S.rf
  unfold f_X2_standardOf at h
  refine lv_aload_n hx hb dX2_standardOf_0 rfl (lv_at hl 0 rfl) ?_
  refine va_get (D := G.1) (ci := 5) (v := .ref (G.2.1 10)) (C := RX2) (T := TX2) (N := 9) hx hb hts gx_X2 hown hT.2.1 hP 4 rfl rfl 8 (by decide) (hts _ gv_79) (fun _ h9 => h9) rfl dX2_standardOf_1 ?_
  refine lv_iload_n hx hb dX2_standardOf_4 rfl (lv_at hl 1 rfl) ?_
  obtain ⟨p1, gp1, h⟩ := Option.bind_eq_some_iff.mp h
  refine gw_ci (gw_rN (host := "Genericwood") X hP hS (gc_X8_at l G 10 ⟨by decide, by decide⟩ a0 σ _ gp1) gk_X8_at gv_311 gv_275 rfl rfl (Nat.le_of_ble_eq_true rfl) hl.1 ⟨rfl, rfl⟩ ⟨Nat.le_of_ble_eq_true rfl, Nat.le_of_ble_eq_true rfl⟩ ⟨Nat.le_of_ble_eq_true rfl, Nat.le_of_ble_eq_true rfl⟩ dX2_standardOf_5) hS (fun H locs hP hS => ?_)
  refine lv_iconst (v := 1) hx hb dX2_standardOf_8 (by decide) ?_
  refine lv_isub hx hb dX2_standardOf_9 ?_
  exact gw_ri X hP hS h dX2_standardOf_10
def f_X2_isStandard_L2 : Nat → Int32 → Int32 → gw_S → Option (Int32 × gw_S)
  | 0, _, _, _ => none
  | n + 1, v2_1, v2_2, σ => (if (16 : Int32) ≤ v2_2 then (some ((0 : Int32), σ)) else ((f_X2_standardOf v2_2 σ).bind fun p1 => (if p1.1 = v2_1 then (some ((1 : Int32), p1.2)) else (f_X2_isStandard_L2 n v2_1 (v2_2 + (1 : Int32)) p1.2))))
def f_X2_isStandard (a0 : Int32) (σ : gw_S) : Option (Int32 × gw_S) := (f_X2_isStandard_L2 64 a0 (0 : Int32) σ)
set_option maxHeartbeats 4000000 in
set_option maxRecDepth 100000 in
theorem gc_X2_isStandard (l : Launch) (G : gw_G) (a0 : Int32) (σ : gw_S) (o : (Int32 × gw_S)) (h : f_X2_isStandard a0 σ = some o) : gw_M (fun sz => gw_QZ G sz o) l yX2_isStandard cX2_isStandard 3 (some .boolean) { frames := 2, cells := 0, slots := 0, locals := 42 } G [.ref (G.2.1 4), .int a0] σ := by
  refine gw_en (own := RX2) (lv := [(0, .ref (G.2.1 4)), (1, .int a0)]) (by decide +kernel) rfl (Nat.le_of_ble_eq_true rfl) rfl ?_
  intro p e s m below meth c ls X hl hP
  obtain ⟨hx, hb, hml, hown, hts, -, -, hT, hZ, -⟩ := id X
  have hS : va_S (gw_A G s.heap.size) s.heap s.heap [] := va_S.rf
  have L2 : ∀ (n : Nat) (v2_1 : Int32) (v2_2 : Int32) (σ : gw_S) (H : Heap) (locs : List Loc) (ls : Array Slot), f_X2_isStandard_L2 n v2_1 v2_2 σ = some o → gw_P G σ H → va_S (gw_A G s.heap.size) s.heap H locs → lv_has ls 3 [(0, .ref (G.2.1 4)), (1, .int v2_1), (2, .int v2_2)] → W p l e { frames := 2, cells := 0, slots := 0, locals := 42 } s m [.ref (G.2.1 4), .int a0].toArray below meth c H locs 0 0 (MQ below (gw_QZ G s.heap.size o) [.ref (G.2.1 4), .int a0].toArray s 0 0 (gw_A G s.heap.size)) (F0 m 2 ls []) := by
    intro n
    induction n with
    | zero =>
      intro v2_1 v2_2 σ H locs ls h
      exact absurd h (by rw [f_X2_isStandard_L2.eq_1]; exact fun h => nomatch h)
    | succ n ih =>
      intro v2_1 v2_2 σ H locs ls h hP hS hl
      rw [f_X2_isStandard_L2.eq_2] at h
      refine lv_iload_n hx hb dX2_isStandard_2 rfl (lv_at hl 2 rfl) ?_
      refine lv_bipush (v := 16) hx hb dX2_isStandard_3 (by decide) ?_
      refine lv_icmp_ge (tgt := 25) hx hb dX2_isStandard_5 (by decide) (fun c => ?_) (fun c => ?_)
      · have h := (if_pos c).symm.trans h
        refine lv_iconst (v := 0) hx hb dX2_isStandard_25 (by decide) ?_
        exact gw_rz X hP hS rfl h dX2_isStandard_26
      · have h := (if_neg c).symm.trans h
        refine lv_aload_n hx hb dX2_isStandard_8 rfl (lv_at hl 0 rfl) ?_
        refine lv_iload_n hx hb dX2_isStandard_9 rfl (lv_at hl 2 rfl) ?_
        obtain ⟨p1, gp1, h⟩ := Option.bind_eq_some_iff.mp h
        refine gw_ci (gw_rV (C := RX2) X hP hS (gc_X2_standardOf l G v2_2 σ _ gp1) gk_X2_standardOf gv_835 ⟨gv_836, gv_837⟩ (va_recv hT.2.1 hP (ci := 5) (q0 := 4) rfl rfl) rfl rfl (Nat.le_of_ble_eq_true rfl) hl.1 ⟨rfl, rfl⟩ ⟨Nat.le_of_ble_eq_true rfl, Nat.le_of_ble_eq_true rfl⟩ ⟨Nat.le_of_ble_eq_true rfl, Nat.le_of_ble_eq_true rfl⟩ dX2_isStandard_10) hS (fun H locs hP hS => ?_)
        refine lv_iload_n hx hb dX2_isStandard_13 rfl (lv_at hl 1 rfl) ?_
        refine lv_icmp_ne (tgt := 19) hx hb dX2_isStandard_14 (by decide) (fun c => ?_) (fun c => ?_)
        · have h := (if_neg c).symm.trans h
          refine lv_iinc (v := (v2_2 + (1 : Int32))) (lv' := [(2, .int (v2_2 + (1 : Int32))), (0, .ref (G.2.1 4)), (1, .int v2_1)]) hx hb dX2_isStandard_19 hl (k := 2) rfl rfl (by decide) rfl (fun ls hl => ?_)
          refine lv_goto (tgt := 2) hx hb dX2_isStandard_22 (by decide) ?_
          exact ih v2_1 (v2_2 + (1 : Int32)) p1.2 _ _ _ h hP hS (lv_sub hl [1, 2, 0] rfl)
        · have h := (if_pos c).symm.trans h
          refine lv_iconst (v := 1) hx hb dX2_isStandard_17 (by decide) ?_
          exact gw_rz X hP hS rfl h dX2_isStandard_18
  unfold f_X2_isStandard at h
  refine lv_iconst (v := 0) hx hb dX2_isStandard_0 (by decide) ?_
  refine lv_istore_n (lv' := [(2, .int (0 : Int32)), (0, .ref (G.2.1 4)), (1, .int a0)]) hx hb dX2_isStandard_1 rfl hl (by decide) rfl (fun ls hl => ?_)
  exact L2 64 a0 (0 : Int32) σ _ _ _ h hP hS (lv_sub hl [1, 2, 0] rfl)
def f_X2_missingFor_L9 : Nat → Int32 → Int32 → Int32 → gw_S → Option (Int32 × gw_S)
  | 0, _, _, _, _ => none
  | n + 1, v9_2, v9_3, v9_4, σ => (if v9_4 < 0 then (some (v9_3, σ)) else ((f_X8_contains v9_2 v9_4 σ).bind fun p1 => (if p1.1 = 0 then (f_X2_missingFor_L9 n v9_2 v9_3 (v9_4 + (-1 : Int32)) p1.2) else ((f_X2_standardOf v9_4 p1.2).bind fun p2 => (if p2.1 = (-1 : Int32) then (f_X2_missingFor_L9 n (v9_2 ||| v9_4) (v9_3 ||| ((1 : Int32) <<< (v9_4 &&& 31))) (v9_4 + (-1 : Int32)) p2.2) else (f_X2_missingFor_L9 n (v9_2 ||| v9_4) v9_3 (v9_4 + (-1 : Int32)) p2.2))))))
def f_X2_missingFor (a0 : Int32) (σ : gw_S) : Option (Int32 × gw_S) := (f_X2_missingFor_L9 64 ((1 : Int32) <<< (a0 &&& 31)) (0 : Int32) a0 σ)
set_option maxHeartbeats 4000000 in
set_option maxRecDepth 100000 in
theorem gc_X2_missingFor (l : Launch) (G : gw_G) (a0 : Int32) (σ : gw_S) (o : (Int32 × gw_S)) (h : f_X2_missingFor a0 σ = some o) : gw_M (fun sz => gw_QI G sz o) l yX2_missingFor cX2_missingFor 5 (some .int) { frames := 2, cells := 0, slots := 0, locals := 42 } G [.ref (G.2.1 4), .int a0] σ := by
  refine gw_en (own := RX2) (lv := [(0, .ref (G.2.1 4)), (1, .int a0)]) (by decide +kernel) rfl (Nat.le_of_ble_eq_true rfl) rfl ?_
  intro p e s m below meth c ls X hl hP
  obtain ⟨hx, hb, hml, hown, hts, -, -, hT, hZ, -⟩ := id X
  have hS : va_S (gw_A G s.heap.size) s.heap s.heap [] := va_S.rf
  have L9 : ∀ (n : Nat) (v9_2 : Int32) (v9_3 : Int32) (v9_4 : Int32) (σ : gw_S) (H : Heap) (locs : List Loc) (ls : Array Slot), f_X2_missingFor_L9 n v9_2 v9_3 v9_4 σ = some o → gw_P G σ H → va_S (gw_A G s.heap.size) s.heap H locs → lv_has ls 5 [(0, .ref (G.2.1 4)), (2, .int v9_2), (3, .int v9_3), (4, .int v9_4)] → W p l e { frames := 2, cells := 0, slots := 0, locals := 42 } s m [.ref (G.2.1 4), .int a0].toArray below meth c H locs 0 0 (MQ below (gw_QI G s.heap.size o) [.ref (G.2.1 4), .int a0].toArray s 0 0 (gw_A G s.heap.size)) (F0 m 9 ls []) := by
    intro n
    induction n with
    | zero =>
      intro v9_2 v9_3 v9_4 σ H locs ls h
      exact absurd h (by rw [f_X2_missingFor_L9.eq_1]; exact fun h => nomatch h)
    | succ n ih =>
      intro v9_2 v9_3 v9_4 σ H locs ls h hP hS hl
      rw [f_X2_missingFor_L9.eq_2] at h
      refine lv_iload hx hb dX2_missingFor_9 (lv_at hl 3 rfl) ?_
      refine lv_if_lt (tgt := 51) hx hb dX2_missingFor_11 (by decide) (fun c => ?_) (fun c => ?_)
      · have h := (if_pos c).symm.trans h
        refine lv_iload_n hx hb dX2_missingFor_51 rfl (lv_at hl 2 rfl) ?_
        exact gw_ri X hP hS h dX2_missingFor_52
      · have h := (if_neg c).symm.trans h
        refine lv_iload_n hx hb dX2_missingFor_14 rfl (lv_at hl 1 rfl) ?_
        refine lv_iload hx hb dX2_missingFor_15 (lv_at hl 3 rfl) ?_
        obtain ⟨p1, gp1, h⟩ := Option.bind_eq_some_iff.mp h
        refine gw_cz (gw_rN (host := "Genericwood") X hP hS (gc_X8_contains l G v9_2 v9_4 σ _ gp1) gk_X8_contains gv_886 gv_278 rfl rfl (Nat.le_of_ble_eq_true rfl) hl.1 ⟨rfl, rfl⟩ ⟨Nat.le_of_ble_eq_true rfl, Nat.le_of_ble_eq_true rfl⟩ ⟨Nat.le_of_ble_eq_true rfl, Nat.le_of_ble_eq_true rfl⟩ dX2_missingFor_17) hS (fun H locs hb_p1 hP hS => ?_)
        refine lv_if_eq (tgt := 45) hx hb dX2_missingFor_20 (by decide) (fun c => ?_) (fun c => ?_)
        · have h := (if_pos c).symm.trans h
          refine lv_iinc (v := (v9_4 + (-1 : Int32))) (lv' := [(4, .int (v9_4 + (-1 : Int32))), (0, .ref (G.2.1 4)), (2, .int v9_2), (3, .int v9_3)]) hx hb dX2_missingFor_45 hl (k := 3) rfl rfl (by decide) rfl (fun ls hl => ?_)
          refine lv_goto (tgt := 9) hx hb dX2_missingFor_48 (by decide) ?_
          exact ih v9_2 v9_3 (v9_4 + (-1 : Int32)) p1.2 _ _ _ h hP hS (lv_sub hl [1, 2, 3, 0] rfl)
        · have h := (if_neg c).symm.trans h
          refine lv_iload_n hx hb dX2_missingFor_23 rfl (lv_at hl 1 rfl) ?_
          refine lv_iload hx hb dX2_missingFor_24 (lv_at hl 3 rfl) ?_
          refine lv_ior hx hb dX2_missingFor_26 ?_
          refine lv_istore_n (lv' := [(2, .int (v9_2 ||| v9_4)), (0, .ref (G.2.1 4)), (3, .int v9_3), (4, .int v9_4)]) hx hb dX2_missingFor_27 rfl hl (by decide) rfl (fun ls hl => ?_)
          refine lv_aload_n hx hb dX2_missingFor_28 rfl (lv_at hl 1 rfl) ?_
          refine lv_iload hx hb dX2_missingFor_29 (lv_at hl 3 rfl) ?_
          obtain ⟨p2, gp2, h⟩ := Option.bind_eq_some_iff.mp h
          refine gw_ci (gw_rV (C := RX2) X hP hS (gc_X2_standardOf l G v9_4 p1.2 _ gp2) gk_X2_standardOf gv_835 ⟨gv_836, gv_837⟩ (va_recv hT.2.1 hP (ci := 5) (q0 := 4) rfl rfl) rfl rfl (Nat.le_of_ble_eq_true rfl) hl.1 ⟨rfl, rfl⟩ ⟨Nat.le_of_ble_eq_true rfl, Nat.le_of_ble_eq_true rfl⟩ ⟨Nat.le_of_ble_eq_true rfl, Nat.le_of_ble_eq_true rfl⟩ dX2_missingFor_31) hS (fun H locs hP hS => ?_)
          refine lv_iconst (v := -1) hx hb dX2_missingFor_34 (by decide) ?_
          refine lv_icmp_ne (tgt := 45) hx hb dX2_missingFor_35 (by decide) (fun c => ?_) (fun c => ?_)
          · have h := (if_neg c).symm.trans h
            refine lv_iinc (v := (v9_4 + (-1 : Int32))) (lv' := [(4, .int (v9_4 + (-1 : Int32))), (2, .int (v9_2 ||| v9_4)), (0, .ref (G.2.1 4)), (3, .int v9_3)]) hx hb dX2_missingFor_45 hl (k := 3) rfl rfl (by decide) rfl (fun ls hl => ?_)
            refine lv_goto (tgt := 9) hx hb dX2_missingFor_48 (by decide) ?_
            exact ih (v9_2 ||| v9_4) v9_3 (v9_4 + (-1 : Int32)) p2.2 _ _ _ h hP hS (lv_sub hl [2, 1, 3, 0] rfl)
          · have h := (if_pos c).symm.trans h
            refine lv_iload_n hx hb dX2_missingFor_38 rfl (lv_at hl 2 rfl) ?_
            refine lv_iconst (v := 1) hx hb dX2_missingFor_39 (by decide) ?_
            refine lv_iload hx hb dX2_missingFor_40 (lv_at hl 3 rfl) ?_
            refine lv_ishl hx hb dX2_missingFor_42 ?_
            refine lv_ior hx hb dX2_missingFor_43 ?_
            refine lv_istore_n (lv' := [(3, .int (v9_3 ||| ((1 : Int32) <<< (v9_4 &&& 31)))), (2, .int (v9_2 ||| v9_4)), (0, .ref (G.2.1 4)), (4, .int v9_4)]) hx hb dX2_missingFor_44 rfl hl (by decide) rfl (fun ls hl => ?_)
            refine lv_iinc (v := (v9_4 + (-1 : Int32))) (lv' := [(4, .int (v9_4 + (-1 : Int32))), (3, .int (v9_3 ||| ((1 : Int32) <<< (v9_4 &&& 31)))), (2, .int (v9_2 ||| v9_4)), (0, .ref (G.2.1 4))]) hx hb dX2_missingFor_45 hl (k := 3) rfl rfl (by decide) rfl (fun ls hl => ?_)
            refine lv_goto (tgt := 9) hx hb dX2_missingFor_48 (by decide) ?_
            exact ih (v9_2 ||| v9_4) (v9_3 ||| ((1 : Int32) <<< (v9_4 &&& 31))) (v9_4 + (-1 : Int32)) p2.2 _ _ _ h hP hS (lv_sub hl [3, 2, 1, 0] rfl)
  unfold f_X2_missingFor at h
  refine lv_iconst (v := 1) hx hb dX2_missingFor_0 (by decide) ?_
  refine lv_iload_n hx hb dX2_missingFor_1 rfl (lv_at hl 1 rfl) ?_
  refine lv_ishl hx hb dX2_missingFor_2 ?_
  refine lv_istore_n (lv' := [(2, .int ((1 : Int32) <<< (a0 &&& 31))), (0, .ref (G.2.1 4)), (1, .int a0)]) hx hb dX2_missingFor_3 rfl hl (by decide) rfl (fun ls hl => ?_)
  refine lv_iconst (v := 0) hx hb dX2_missingFor_4 (by decide) ?_
  refine lv_istore_n (lv' := [(3, .int (0 : Int32)), (2, .int ((1 : Int32) <<< (a0 &&& 31))), (0, .ref (G.2.1 4)), (1, .int a0)]) hx hb dX2_missingFor_5 rfl hl (by decide) rfl (fun ls hl => ?_)
  refine lv_iload_n hx hb dX2_missingFor_6 rfl (lv_at hl 3 rfl) ?_
  refine lv_istore (lv' := [(4, .int a0), (3, .int (0 : Int32)), (2, .int ((1 : Int32) <<< (a0 &&& 31))), (0, .ref (G.2.1 4)), (1, .int a0)]) hx hb dX2_missingFor_7 hl (by decide) rfl (fun ls hl => ?_)
  exact L9 64 ((1 : Int32) <<< (a0 &&& 31)) (0 : Int32) a0 σ _ _ _ h hP hS (lv_sub hl [3, 2, 1, 0] rfl)
def f_X2_addStandard_L18 : Nat → Int32 → Int32 → Int32 → gw_S → Option gw_S
  | 0, _, _, _, _ => none
  | n + 1, v18_1, v18_2, v18_3, σ => (if (4 : Int32) ≤ v18_3 then (some σ) else ((f_X8_contains v18_1 v18_3 σ).bind fun p3 => (if p3.1 = 0 then (f_X2_addStandard_L18 n v18_1 v18_2 (v18_3 + (1 : Int32)) p3.2) else ((f_X2_standardOf v18_3 p3.2).bind fun p4 => ((f_X2_addPair v18_2 p4.1 (0 : Int32) p4.2).bind fun p5 => (f_X2_addStandard_L18 n v18_1 v18_2 (v18_3 + (1 : Int32)) p5))))))
def f_X2_addStandard (a0 : Int32) (σ : gw_S) : Option gw_S := ((f_X2_add  σ).bind fun p1 => ((f_X8_put 10 a0 (p1.1 + (1 : Int32)) p1.2).bind fun p2 => (f_X2_addStandard_L18 64 a0 p1.1 (0 : Int32) p2)))
set_option maxHeartbeats 4000000 in
set_option maxRecDepth 100000 in
theorem gc_X2_addStandard (l : Launch) (G : gw_G) (a0 : Int32) (σ : gw_S) (o : gw_S) (h : f_X2_addStandard a0 σ = some o) : gw_M (fun sz => gw_QV G sz o) l yX2_addStandard cX2_addStandard 4 none { frames := 5, cells := 0, slots := 0, locals := 113 } G [.ref (G.2.1 4), .int a0] σ := by
  refine gw_en (own := RX2) (lv := [(0, .ref (G.2.1 4)), (1, .int a0)]) (by decide +kernel) rfl (Nat.le_of_ble_eq_true rfl) rfl ?_
  intro p e s m below meth c ls X hl hP
  obtain ⟨hx, hb, hml, hown, hts, -, -, hT, hZ, -⟩ := id X
  have hS : va_S (gw_A G s.heap.size) s.heap s.heap [] := va_S.rf
  have L18 : ∀ (n : Nat) (v18_1 : Int32) (v18_2 : Int32) (v18_3 : Int32) (σ : gw_S) (H : Heap) (locs : List Loc) (ls : Array Slot), f_X2_addStandard_L18 n v18_1 v18_2 v18_3 σ = some o → gw_P G σ H → va_S (gw_A G s.heap.size) s.heap H locs → lv_has ls 4 [(0, .ref (G.2.1 4)), (1, .int v18_1), (2, .int v18_2), (3, .int v18_3)] → W p l e { frames := 5, cells := 0, slots := 0, locals := 113 } s m [.ref (G.2.1 4), .int a0].toArray below meth c H locs 0 0 (MQ below (gw_QV G s.heap.size o) [.ref (G.2.1 4), .int a0].toArray s 0 0 (gw_A G s.heap.size)) (F0 m 18 ls []) := by
    intro n
    induction n with
    | zero =>
      intro v18_1 v18_2 v18_3 σ H locs ls h
      exact absurd h (by rw [f_X2_addStandard_L18.eq_1]; exact fun h => nomatch h)
    | succ n ih =>
      intro v18_1 v18_2 v18_3 σ H locs ls h hP hS hl
      rw [f_X2_addStandard_L18.eq_2] at h
      refine lv_iload_n hx hb dX2_addStandard_18 rfl (lv_at hl 3 rfl) ?_
      refine lv_iconst (v := 4) hx hb dX2_addStandard_19 (by decide) ?_
      refine lv_icmp_ge (tgt := 48) hx hb dX2_addStandard_20 (by decide) (fun c => ?_) (fun c => ?_)
      · have h := (if_pos c).symm.trans h
        exact gw_rv X hP hS h dX2_addStandard_48
      · have h := (if_neg c).symm.trans h
        refine lv_iload_n hx hb dX2_addStandard_23 rfl (lv_at hl 1 rfl) ?_
        refine lv_iload_n hx hb dX2_addStandard_24 rfl (lv_at hl 3 rfl) ?_
        obtain ⟨p3, gp3, h⟩ := Option.bind_eq_some_iff.mp h
        refine gw_cz (gw_rN (host := "Genericwood") X hP hS (gc_X8_contains l G v18_1 v18_3 σ _ gp3) gk_X8_contains gv_886 gv_278 rfl rfl (Nat.le_of_ble_eq_true rfl) hl.1 ⟨rfl, rfl⟩ ⟨Nat.le_of_ble_eq_true rfl, Nat.le_of_ble_eq_true rfl⟩ ⟨Nat.le_of_ble_eq_true rfl, Nat.le_of_ble_eq_true rfl⟩ dX2_addStandard_25) hS (fun H locs hb_p3 hP hS => ?_)
        refine lv_if_eq (tgt := 42) hx hb dX2_addStandard_28 (by decide) (fun c => ?_) (fun c => ?_)
        · have h := (if_pos c).symm.trans h
          refine lv_iinc (v := (v18_3 + (1 : Int32))) (lv' := [(3, .int (v18_3 + (1 : Int32))), (0, .ref (G.2.1 4)), (1, .int v18_1), (2, .int v18_2)]) hx hb dX2_addStandard_42 hl (k := 3) rfl rfl (by decide) rfl (fun ls hl => ?_)
          refine lv_goto (tgt := 18) hx hb dX2_addStandard_45 (by decide) ?_
          exact ih v18_1 v18_2 (v18_3 + (1 : Int32)) p3.2 _ _ _ h hP hS (lv_sub hl [1, 2, 3, 0] rfl)
        · have h := (if_neg c).symm.trans h
          refine lv_aload_n hx hb dX2_addStandard_31 rfl (lv_at hl 0 rfl) ?_
          refine lv_iload_n hx hb dX2_addStandard_32 rfl (lv_at hl 2 rfl) ?_
          refine lv_aload_n hx hb dX2_addStandard_33 rfl (lv_at hl 0 rfl) ?_
          refine lv_iload_n hx hb dX2_addStandard_34 rfl (lv_at hl 3 rfl) ?_
          obtain ⟨p4, gp4, h⟩ := Option.bind_eq_some_iff.mp h
          refine gw_ci (gw_rV (C := RX2) X hP hS (gc_X2_standardOf l G v18_3 p3.2 _ gp4) gk_X2_standardOf gv_835 ⟨gv_836, gv_837⟩ (va_recv hT.2.1 hP (ci := 5) (q0 := 4) rfl rfl) rfl rfl (Nat.le_of_ble_eq_true rfl) hl.1 ⟨rfl, rfl⟩ ⟨Nat.le_of_ble_eq_true rfl, Nat.le_of_ble_eq_true rfl⟩ ⟨Nat.le_of_ble_eq_true rfl, Nat.le_of_ble_eq_true rfl⟩ dX2_addStandard_35) hS (fun H locs hP hS => ?_)
          refine lv_iconst (v := 0) hx hb dX2_addStandard_38 (by decide) ?_
          obtain ⟨p5, gp5, h⟩ := Option.bind_eq_some_iff.mp h
          refine gw_cv (gw_rV (C := RX2) X hP hS (gc_X2_addPair l G v18_2 p4.1 (0 : Int32) p4.2 _ gp5) gk_X2_addPair gv_892 ⟨gv_851, gv_852⟩ (va_recv hT.2.1 hP (ci := 5) (q0 := 4) rfl rfl) rfl rfl (Nat.le_of_ble_eq_true rfl) hl.1 ⟨rfl, rfl⟩ ⟨Nat.le_of_ble_eq_true rfl, Nat.le_of_ble_eq_true rfl⟩ ⟨Nat.le_of_ble_eq_true rfl, Nat.le_of_ble_eq_true rfl⟩ dX2_addStandard_39) hS (fun H locs hP hS => ?_)
          refine lv_iinc (v := (v18_3 + (1 : Int32))) (lv' := [(3, .int (v18_3 + (1 : Int32))), (0, .ref (G.2.1 4)), (1, .int v18_1), (2, .int v18_2)]) hx hb dX2_addStandard_42 hl (k := 3) rfl rfl (by decide) rfl (fun ls hl => ?_)
          refine lv_goto (tgt := 18) hx hb dX2_addStandard_45 (by decide) ?_
          exact ih v18_1 v18_2 (v18_3 + (1 : Int32)) p5 _ _ _ h hP hS (lv_sub hl [1, 2, 3, 0] rfl)
  unfold f_X2_addStandard at h
  refine lv_aload_n hx hb dX2_addStandard_0 rfl (lv_at hl 0 rfl) ?_
  obtain ⟨p1, gp1, h⟩ := Option.bind_eq_some_iff.mp h
  refine gw_ci (gw_rV (C := RX2) X hP hS (gc_X2_add l G  σ _ gp1) gk_X2_add gv_891 ⟨gv_799, gv_800⟩ (va_recv hT.2.1 hP (ci := 5) (q0 := 4) rfl rfl) rfl rfl (Nat.le_of_ble_eq_true rfl) hl.1 ⟨rfl, rfl⟩ ⟨Nat.le_of_ble_eq_true rfl, Nat.le_of_ble_eq_true rfl⟩ ⟨Nat.le_of_ble_eq_true rfl, Nat.le_of_ble_eq_true rfl⟩ dX2_addStandard_1) hS (fun H locs hP hS => ?_)
  refine lv_istore_n (lv' := [(2, .int p1.1), (0, .ref (G.2.1 4)), (1, .int a0)]) hx hb dX2_addStandard_4 rfl hl (by decide) rfl (fun ls hl => ?_)
  refine lv_aload_n hx hb dX2_addStandard_5 rfl (lv_at hl 1 rfl) ?_
  refine va_get (D := G.1) (ci := 5) (v := .ref (G.2.1 10)) (C := RX2) (T := TX2) (N := 9) hx hb hts gx_X2 hown hT.2.1 hP 4 rfl rfl 8 (by decide) (hts _ gv_79) (fun _ h9 => h9) rfl dX2_addStandard_6 ?_
  refine lv_iload_n hx hb dX2_addStandard_9 rfl (lv_at hl 2 rfl) ?_
  refine lv_iload_n hx hb dX2_addStandard_10 rfl (lv_at hl 0 rfl) ?_
  refine lv_iconst (v := 1) hx hb dX2_addStandard_11 (by decide) ?_
  refine lv_iadd hx hb dX2_addStandard_12 ?_
  obtain ⟨p2, gp2, h⟩ := Option.bind_eq_some_iff.mp h
  refine gw_cv (gw_rN (host := "Genericwood") X hP hS (gc_X8_put l G 10 ⟨by decide, by decide⟩ a0 (p1.1 + (1 : Int32)) p1.2 _ gp2) gk_X8_put gv_813 gv_403 rfl rfl (Nat.le_of_ble_eq_true rfl) hl.1 ⟨rfl, rfl⟩ ⟨Nat.le_of_ble_eq_true rfl, Nat.le_of_ble_eq_true rfl⟩ ⟨Nat.le_of_ble_eq_true rfl, Nat.le_of_ble_eq_true rfl⟩ dX2_addStandard_13) hS (fun H locs hP hS => ?_)
  refine lv_iconst (v := 0) hx hb dX2_addStandard_16 (by decide) ?_
  refine lv_istore_n (lv' := [(3, .int (0 : Int32)), (2, .int p1.1), (0, .ref (G.2.1 4)), (1, .int a0)]) hx hb dX2_addStandard_17 rfl hl (by decide) rfl (fun ls hl => ?_)
  exact L18 64 a0 p1.1 (0 : Int32) p2 _ _ _ h hP hS (lv_sub hl [2, 3, 1, 0] rfl)
def f_X2_isDrafted_L2 : Nat → Int32 → Int32 → Int32 → gw_S → Option (Int32 × gw_S)
  | 0, _, _, _, _ => none
  | n + 1, v2_1, v2_2, v2_3, σ => (if v2_1 ≤ v2_3 then (some ((0 : Int32), σ)) else ((f_X8_at 9 v2_3 σ).bind fun p1 => (if p1.1 = v2_2 then (some ((1 : Int32), p1.2)) else (f_X2_isDrafted_L2 n v2_1 v2_2 (v2_3 + (1 : Int32)) p1.2))))
def f_X2_isDrafted (a0 : Int32) (a1 : Int32) (σ : gw_S) : Option (Int32 × gw_S) := (f_X2_isDrafted_L2 64 a0 a1 (0 : Int32) σ)
set_option maxHeartbeats 4000000 in
set_option maxRecDepth 100000 in
theorem gc_X2_isDrafted (l : Launch) (G : gw_G) (a0 : Int32) (a1 : Int32) (σ : gw_S) (o : (Int32 × gw_S)) (h : f_X2_isDrafted a0 a1 σ = some o) : gw_M (fun sz => gw_QZ G sz o) l yX2_isDrafted cX2_isDrafted 4 (some .boolean) { frames := 1, cells := 0, slots := 0, locals := 21 } G [.ref (G.2.1 4), .int a0, .int a1] σ := by
  refine gw_en (own := RX2) (lv := [(0, .ref (G.2.1 4)), (1, .int a0), (2, .int a1)]) (by decide +kernel) rfl (Nat.le_of_ble_eq_true rfl) rfl ?_
  intro p e s m below meth c ls X hl hP
  obtain ⟨hx, hb, hml, hown, hts, -, -, hT, hZ, -⟩ := id X
  have hS : va_S (gw_A G s.heap.size) s.heap s.heap [] := va_S.rf
  have L2 : ∀ (n : Nat) (v2_1 : Int32) (v2_2 : Int32) (v2_3 : Int32) (σ : gw_S) (H : Heap) (locs : List Loc) (ls : Array Slot), f_X2_isDrafted_L2 n v2_1 v2_2 v2_3 σ = some o → gw_P G σ H → va_S (gw_A G s.heap.size) s.heap H locs → lv_has ls 4 [(0, .ref (G.2.1 4)), (1, .int v2_1), (2, .int v2_2), (3, .int v2_3)] → W p l e { frames := 1, cells := 0, slots := 0, locals := 21 } s m [.ref (G.2.1 4), .int a0, .int a1].toArray below meth c H locs 0 0 (MQ below (gw_QZ G s.heap.size o) [.ref (G.2.1 4), .int a0, .int a1].toArray s 0 0 (gw_A G s.heap.size)) (F0 m 2 ls []) := by
    intro n
    induction n with
    | zero =>
      intro v2_1 v2_2 v2_3 σ H locs ls h
      exact absurd h (by rw [f_X2_isDrafted_L2.eq_1]; exact fun h => nomatch h)
    | succ n ih =>
      intro v2_1 v2_2 v2_3 σ H locs ls h hP hS hl
      rw [f_X2_isDrafted_L2.eq_2] at h
      refine lv_iload_n hx hb dX2_isDrafted_2 rfl (lv_at hl 3 rfl) ?_
      refine lv_iload_n hx hb dX2_isDrafted_3 rfl (lv_at hl 1 rfl) ?_
      refine lv_icmp_ge (tgt := 27) hx hb dX2_isDrafted_4 (by decide) (fun c => ?_) (fun c => ?_)
      · have h := (if_pos c).symm.trans h
        refine lv_iconst (v := 0) hx hb dX2_isDrafted_27 (by decide) ?_
        exact gw_rz X hP hS rfl h dX2_isDrafted_28
      · have h := (if_neg c).symm.trans h
        refine lv_aload_n hx hb dX2_isDrafted_7 rfl (lv_at hl 0 rfl) ?_
        refine va_get (D := G.1) (ci := 5) (v := .ref (G.2.1 9)) (C := RX2) (T := TX2) (N := 9) hx hb hts gx_X2 hown hT.2.1 hP 4 rfl rfl 7 (by decide) (hts _ gv_78) (fun _ h9 => h9) rfl dX2_isDrafted_8 ?_
        refine lv_iload_n hx hb dX2_isDrafted_11 rfl (lv_at hl 3 rfl) ?_
        obtain ⟨p1, gp1, h⟩ := Option.bind_eq_some_iff.mp h
        refine gw_ci (gw_rN (host := "Genericwood") X hP hS (gc_X8_at l G 9 ⟨by decide, by decide⟩ v2_3 σ _ gp1) gk_X8_at gv_311 gv_275 rfl rfl (Nat.le_of_ble_eq_true rfl) hl.1 ⟨rfl, rfl⟩ ⟨Nat.le_of_ble_eq_true rfl, Nat.le_of_ble_eq_true rfl⟩ ⟨Nat.le_of_ble_eq_true rfl, Nat.le_of_ble_eq_true rfl⟩ dX2_isDrafted_12) hS (fun H locs hP hS => ?_)
        refine lv_iload_n hx hb dX2_isDrafted_15 rfl (lv_at hl 2 rfl) ?_
        refine lv_icmp_ne (tgt := 21) hx hb dX2_isDrafted_16 (by decide) (fun c => ?_) (fun c => ?_)
        · have h := (if_neg c).symm.trans h
          refine lv_iinc (v := (v2_3 + (1 : Int32))) (lv' := [(3, .int (v2_3 + (1 : Int32))), (0, .ref (G.2.1 4)), (1, .int v2_1), (2, .int v2_2)]) hx hb dX2_isDrafted_21 hl (k := 3) rfl rfl (by decide) rfl (fun ls hl => ?_)
          refine lv_goto (tgt := 2) hx hb dX2_isDrafted_24 (by decide) ?_
          exact ih v2_1 v2_2 (v2_3 + (1 : Int32)) p1.2 _ _ _ h hP hS (lv_sub hl [1, 2, 3, 0] rfl)
        · have h := (if_pos c).symm.trans h
          refine lv_iconst (v := 1) hx hb dX2_isDrafted_19 (by decide) ?_
          exact gw_rz X hP hS rfl h dX2_isDrafted_20
  unfold f_X2_isDrafted at h
  refine lv_iconst (v := 0) hx hb dX2_isDrafted_0 (by decide) ?_
  refine lv_istore_n (lv' := [(3, .int (0 : Int32)), (0, .ref (G.2.1 4)), (1, .int a0), (2, .int a1)]) hx hb dX2_isDrafted_1 rfl hl (by decide) rfl (fun ls hl => ?_)
  exact L2 64 a0 a1 (0 : Int32) σ _ _ _ h hP hS (lv_sub hl [1, 2, 3, 0] rfl)
def f_X2_draftPart_L44 : Nat → (Int32 → Int32 → Int32 → Int32 → gw_S → Option (Int32 × gw_S)) → Int32 → Int32 → Int32 → Int32 → Int32 → Int32 → gw_S → Option (Int32 × gw_S)
  | 0, _, _, _, _, _, _, _, _ => none
  | n + 1, K, v44_2, v44_3, v44_4, v44_5, v44_6, v44_7, σ => ((f_X3_size  σ).bind fun p5 => (if p5.1 ≤ v44_7 then (K v44_2 v44_3 v44_4 v44_5 p5.2) else ((f_X2_lower v44_2 v44_5 p5.2).bind fun p6 => ((f_X8_contains v44_6 v44_7 p6.2).bind fun p7 => (if p7.1 = 0 then (f_X2_draftPart_L44 n K v44_2 v44_3 v44_4 v44_5 v44_6 (v44_7 + (1 : Int32)) p7.2) else ((f_X2_isDrafted v44_4 (p6.1 + ((16 : Int32) * v44_7)) p7.2).bind fun p8 => (if p8.1 = 0 then (if v44_4 < (4 : Int32) then ((f_X8_put 9 v44_4 (p6.1 + ((16 : Int32) * v44_7)) p8.2).bind fun p9 => (f_X2_draftPart_L44 n K v44_2 v44_3 (v44_4 + (1 : Int32)) v44_5 v44_6 (v44_7 + (1 : Int32)) p9)) else (some ((5 : Int32), p8.2))) else (f_X2_draftPart_L44 n K v44_2 v44_3 v44_4 v44_5 v44_6 (v44_7 + (1 : Int32)) p8.2))))))))
def f_X2_draftPart_L6 : Nat → Int32 → Int32 → Int32 → Int32 → gw_S → Option (Int32 × gw_S)
  | 0, _, _, _, _, _ => none
  | n + 1, v6_2, v6_3, v6_4, v6_5, σ => ((f_X2_pairsOf v6_2 σ).bind fun p1 => (if p1.1 ≤ v6_5 then (some (v6_4, p1.2)) else ((f_X3_down v6_3 p1.2).bind fun p2 => ((f_X2_promise v6_2 v6_5 p2.2).bind fun p3 => ((f_X3_down p3.1 p3.2).bind fun p4 => (f_X2_draftPart_L44 64 (fun w44_2 w44_3 w44_4 w44_5 σ44 => (f_X2_draftPart_L6 n w44_2 w44_3 w44_4 (w44_5 + (1 : Int32)) σ44)) v6_2 v6_3 v6_4 v6_5 (p2.1 &&& p4.1) (0 : Int32) p4.2))))))
def f_X2_draftPart (a0 : Int32) (a1 : Int32) (a2 : Int32) (σ : gw_S) : Option (Int32 × gw_S) := (f_X2_draftPart_L6 64 a1 a2 a0 (0 : Int32) σ)
set_option maxHeartbeats 4000000 in
set_option maxRecDepth 100000 in
theorem gc_X2_draftPart (l : Launch) (G : gw_G) (a0 : Int32) (a1 : Int32) (a2 : Int32) (σ : gw_S) (o : (Int32 × gw_S)) (h : f_X2_draftPart a0 a1 a2 σ = some o) : gw_M (fun sz => gw_QI G sz o) l yX2_draftPart cX2_draftPart 9 (some .int) { frames := 2, cells := 0, slots := 0, locals := 44 } G [.ref (G.2.1 4), .int a0, .int a1, .int a2] σ := by
  refine gw_en (own := RX2) (lv := [(0, .ref (G.2.1 4)), (1, .int a0), (2, .int a1), (3, .int a2)]) (by decide +kernel) rfl (Nat.le_of_ble_eq_true rfl) rfl ?_
  intro p e s m below meth c ls X hl hP
  obtain ⟨hx, hb, hml, hown, hts, -, -, hT, hZ, -⟩ := id X
  have hS : va_S (gw_A G s.heap.size) s.heap s.heap [] := va_S.rf
  have L44 : ∀ (n : Nat) (K : Int32 → Int32 → Int32 → Int32 → gw_S → Option (Int32 × gw_S)) (v44_2 : Int32) (v44_3 : Int32) (v44_4 : Int32) (v44_5 : Int32) (v44_6 : Int32) (v44_7 : Int32) (σ : gw_S) (H : Heap) (locs : List Loc) (ls : Array Slot), f_X2_draftPart_L44 n K v44_2 v44_3 v44_4 v44_5 v44_6 v44_7 σ = some o → gw_P G σ H → va_S (gw_A G s.heap.size) s.heap H locs → lv_has ls 9 [(0, .ref (G.2.1 4)), (2, .int v44_2), (3, .int v44_3), (4, .int v44_4), (5, .int v44_5), (6, .int v44_6), (7, .int v44_7)] → (∀ (w2 : Int32) (w3 : Int32) (w4 : Int32) (w5 : Int32) (σ : gw_S) (H : Heap) (locs : List Loc) (ls : Array Slot), K w2 w3 w4 w5 σ = some o → gw_P G σ H → va_S (gw_A G s.heap.size) s.heap H locs → lv_has ls 9 [(0, .ref (G.2.1 4)), (2, .int w2), (3, .int w3), (4, .int w4), (5, .int w5)] → W p l e { frames := 2, cells := 0, slots := 0, locals := 44 } s m [.ref (G.2.1 4), .int a0, .int a1, .int a2].toArray below meth c H locs 0 0 (MQ below (gw_QI G s.heap.size o) [.ref (G.2.1 4), .int a0, .int a1, .int a2].toArray s 0 0 (gw_A G s.heap.size)) (F0 m 120 ls [])) → W p l e { frames := 2, cells := 0, slots := 0, locals := 44 } s m [.ref (G.2.1 4), .int a0, .int a1, .int a2].toArray below meth c H locs 0 0 (MQ below (gw_QI G s.heap.size o) [.ref (G.2.1 4), .int a0, .int a1, .int a2].toArray s 0 0 (gw_A G s.heap.size)) (F0 m 44 ls []) := by
    intro n K
    induction n with
    | zero =>
      intro v44_2 v44_3 v44_4 v44_5 v44_6 v44_7 σ H locs ls h
      exact absurd h (by rw [f_X2_draftPart_L44.eq_1]; exact fun h => nomatch h)
    | succ n ih =>
      intro v44_2 v44_3 v44_4 v44_5 v44_6 v44_7 σ H locs ls h hP hS hl hK
      rw [f_X2_draftPart_L44.eq_2] at h
      refine lv_iload hx hb dX2_draftPart_44 (lv_at hl 6 rfl) ?_
      refine lv_aload_n hx hb dX2_draftPart_46 rfl (lv_at hl 0 rfl) ?_
      refine va_get (D := G.1) (ci := 5) (v := .ref (G.2.1 1)) (C := RX2) (T := TX2) (N := 9) hx hb hts gx_X2 hown hT.2.1 hP 4 rfl rfl 0 (by decide) (hts _ gv_71) (fun _ h9 => h9) rfl dX2_draftPart_47 ?_
      obtain ⟨p5, gp5, h⟩ := Option.bind_eq_some_iff.mp h
      refine gw_ci (gw_rV (C := RX3) X hP hS (gc_X3_size l G  σ _ gp5) gk_X3_size gv_953 ⟨gv_259, gv_260⟩ (va_recv hT.2.1 hP (ci := 6) (q0 := 1) rfl rfl) rfl rfl (Nat.le_of_ble_eq_true rfl) hl.1 ⟨rfl, rfl⟩ ⟨Nat.le_of_ble_eq_true rfl, Nat.le_of_ble_eq_true rfl⟩ ⟨Nat.le_of_ble_eq_true rfl, Nat.le_of_ble_eq_true rfl⟩ dX2_draftPart_50) hS (fun H locs hP hS => ?_)
      refine lv_icmp_ge (tgt := 120) hx hb dX2_draftPart_53 (by decide) (fun c => ?_) (fun c => ?_)
      · have h := (if_pos c).symm.trans h
        exact hK v44_2 v44_3 v44_4 v44_5 p5.2 _ _ _ h hP hS (lv_sub hl [0, 1, 2, 3, 4] rfl)
      · have h := (if_neg c).symm.trans h
        refine lv_aload_n hx hb dX2_draftPart_56 rfl (lv_at hl 0 rfl) ?_
        refine lv_iload_n hx hb dX2_draftPart_57 rfl (lv_at hl 1 rfl) ?_
        refine lv_iload hx hb dX2_draftPart_58 (lv_at hl 4 rfl) ?_
        obtain ⟨p6, gp6, h⟩ := Option.bind_eq_some_iff.mp h
        refine gw_ci (gw_rV (C := RX2) X hP hS (gc_X2_lower l G v44_2 v44_5 p5.2 _ gp6) gk_X2_lower gv_811 ⟨gv_317, gv_318⟩ (va_recv hT.2.1 hP (ci := 5) (q0 := 4) rfl rfl) rfl rfl (Nat.le_of_ble_eq_true rfl) hl.1 ⟨rfl, rfl⟩ ⟨Nat.le_of_ble_eq_true rfl, Nat.le_of_ble_eq_true rfl⟩ ⟨Nat.le_of_ble_eq_true rfl, Nat.le_of_ble_eq_true rfl⟩ dX2_draftPart_60) hS (fun H locs hP hS => ?_)
        refine lv_bipush (v := 16) hx hb dX2_draftPart_63 (by decide) ?_
        refine lv_iload hx hb dX2_draftPart_65 (lv_at hl 6 rfl) ?_
        refine lv_imul hx hb dX2_draftPart_67 ?_
        refine lv_iadd hx hb dX2_draftPart_68 ?_
        refine lv_istore (lv' := [(8, .int (p6.1 + ((16 : Int32) * v44_7))), (0, .ref (G.2.1 4)), (2, .int v44_2), (3, .int v44_3), (4, .int v44_4), (5, .int v44_5), (6, .int v44_6), (7, .int v44_7)]) hx hb dX2_draftPart_69 hl (by decide) rfl (fun ls hl => ?_)
        refine lv_iload hx hb dX2_draftPart_71 (lv_at hl 6 rfl) ?_
        refine lv_iload hx hb dX2_draftPart_73 (lv_at hl 7 rfl) ?_
        obtain ⟨p7, gp7, h⟩ := Option.bind_eq_some_iff.mp h
        refine gw_cz (gw_rN (host := "Genericwood") X hP hS (gc_X8_contains l G v44_6 v44_7 p6.2 _ gp7) gk_X8_contains gv_886 gv_278 rfl rfl (Nat.le_of_ble_eq_true rfl) hl.1 ⟨rfl, rfl⟩ ⟨Nat.le_of_ble_eq_true rfl, Nat.le_of_ble_eq_true rfl⟩ ⟨Nat.le_of_ble_eq_true rfl, Nat.le_of_ble_eq_true rfl⟩ dX2_draftPart_75) hS (fun H locs hb_p7 hP hS => ?_)
        refine lv_if_eq (tgt := 114) hx hb dX2_draftPart_78 (by decide) (fun c => ?_) (fun c => ?_)
        · have h := (if_pos c).symm.trans h
          refine lv_iinc (v := (v44_7 + (1 : Int32))) (lv' := [(7, .int (v44_7 + (1 : Int32))), (8, .int (p6.1 + ((16 : Int32) * v44_7))), (0, .ref (G.2.1 4)), (2, .int v44_2), (3, .int v44_3), (4, .int v44_4), (5, .int v44_5), (6, .int v44_6)]) hx hb dX2_draftPart_114 hl (k := 7) rfl rfl (by decide) rfl (fun ls hl => ?_)
          refine lv_goto (tgt := 44) hx hb dX2_draftPart_117 (by decide) ?_
          exact ih v44_2 v44_3 v44_4 v44_5 v44_6 (v44_7 + (1 : Int32)) p7.2 _ _ _ h hP hS (lv_sub hl [2, 3, 4, 5, 6, 7, 0] rfl) hK
        · have h := (if_neg c).symm.trans h
          refine lv_aload_n hx hb dX2_draftPart_81 rfl (lv_at hl 1 rfl) ?_
          refine lv_iload hx hb dX2_draftPart_82 (lv_at hl 4 rfl) ?_
          refine lv_iload hx hb dX2_draftPart_84 (lv_at hl 0 rfl) ?_
          obtain ⟨p8, gp8, h⟩ := Option.bind_eq_some_iff.mp h
          refine gw_cz (gw_rV (C := RX2) X hP hS (gc_X2_isDrafted l G v44_4 (p6.1 + ((16 : Int32) * v44_7)) p7.2 _ gp8) gk_X2_isDrafted gv_954 ⟨gv_956, gv_s17⟩ (va_recv hT.2.1 hP (ci := 5) (q0 := 4) rfl rfl) rfl rfl (Nat.le_of_ble_eq_true rfl) hl.1 ⟨rfl, rfl⟩ ⟨Nat.le_of_ble_eq_true rfl, Nat.le_of_ble_eq_true rfl⟩ ⟨Nat.le_of_ble_eq_true rfl, Nat.le_of_ble_eq_true rfl⟩ dX2_draftPart_86) hS (fun H locs hb_p8 hP hS => ?_)
          refine lv_if_ne (tgt := 114) hx hb dX2_draftPart_89 (by decide) (fun c => ?_) (fun c => ?_)
          · have h := (if_neg c).symm.trans h
            refine lv_iinc (v := (v44_7 + (1 : Int32))) (lv' := [(7, .int (v44_7 + (1 : Int32))), (8, .int (p6.1 + ((16 : Int32) * v44_7))), (0, .ref (G.2.1 4)), (2, .int v44_2), (3, .int v44_3), (4, .int v44_4), (5, .int v44_5), (6, .int v44_6)]) hx hb dX2_draftPart_114 hl (k := 7) rfl rfl (by decide) rfl (fun ls hl => ?_)
            refine lv_goto (tgt := 44) hx hb dX2_draftPart_117 (by decide) ?_
            exact ih v44_2 v44_3 v44_4 v44_5 v44_6 (v44_7 + (1 : Int32)) p8.2 _ _ _ h hP hS (lv_sub hl [2, 3, 4, 5, 6, 7, 0] rfl) hK
          · have h := (if_pos c).symm.trans h
            refine lv_iload hx hb dX2_draftPart_92 (lv_at hl 4 rfl) ?_
            refine lv_iconst (v := 4) hx hb dX2_draftPart_94 (by decide) ?_
            refine lv_icmp_lt (tgt := 100) hx hb dX2_draftPart_95 (by decide) (fun c => ?_) (fun c => ?_)
            · have h := (if_pos c).symm.trans h
              refine lv_aload_n hx hb dX2_draftPart_100 rfl (lv_at hl 1 rfl) ?_
              refine va_get (D := G.1) (ci := 5) (v := .ref (G.2.1 9)) (C := RX2) (T := TX2) (N := 9) hx hb hts gx_X2 hown hT.2.1 hP 4 rfl rfl 7 (by decide) (hts _ gv_78) (fun _ h9 => h9) rfl dX2_draftPart_101 ?_
              refine lv_iload hx hb dX2_draftPart_104 (lv_at hl 4 rfl) ?_
              refine lv_iload hx hb dX2_draftPart_106 (lv_at hl 0 rfl) ?_
              obtain ⟨p9, gp9, h⟩ := Option.bind_eq_some_iff.mp h
              refine gw_cv (gw_rN (host := "Genericwood") X hP hS (gc_X8_put l G 9 ⟨by decide, by decide⟩ v44_4 (p6.1 + ((16 : Int32) * v44_7)) p8.2 _ gp9) gk_X8_put gv_813 gv_403 rfl rfl (Nat.le_of_ble_eq_true rfl) hl.1 ⟨rfl, rfl⟩ ⟨Nat.le_of_ble_eq_true rfl, Nat.le_of_ble_eq_true rfl⟩ ⟨Nat.le_of_ble_eq_true rfl, Nat.le_of_ble_eq_true rfl⟩ dX2_draftPart_108) hS (fun H locs hP hS => ?_)
              refine lv_iinc (v := (v44_4 + (1 : Int32))) (lv' := [(4, .int (v44_4 + (1 : Int32))), (8, .int (p6.1 + ((16 : Int32) * v44_7))), (0, .ref (G.2.1 4)), (2, .int v44_2), (3, .int v44_3), (5, .int v44_5), (6, .int v44_6), (7, .int v44_7)]) hx hb dX2_draftPart_111 hl (k := 4) rfl rfl (by decide) rfl (fun ls hl => ?_)
              refine lv_iinc (v := (v44_7 + (1 : Int32))) (lv' := [(7, .int (v44_7 + (1 : Int32))), (4, .int (v44_4 + (1 : Int32))), (8, .int (p6.1 + ((16 : Int32) * v44_7))), (0, .ref (G.2.1 4)), (2, .int v44_2), (3, .int v44_3), (5, .int v44_5), (6, .int v44_6)]) hx hb dX2_draftPart_114 hl (k := 7) rfl rfl (by decide) rfl (fun ls hl => ?_)
              refine lv_goto (tgt := 44) hx hb dX2_draftPart_117 (by decide) ?_
              exact ih v44_2 v44_3 (v44_4 + (1 : Int32)) v44_5 v44_6 (v44_7 + (1 : Int32)) p9 _ _ _ h hP hS (lv_sub hl [3, 4, 5, 1, 6, 7, 0] rfl) hK
            · have h := (if_neg c).symm.trans h
              refine lv_iconst (v := 5) hx hb dX2_draftPart_98 (by decide) ?_
              exact gw_ri X hP hS h dX2_draftPart_99
  have L6 : ∀ (n : Nat) (v6_2 : Int32) (v6_3 : Int32) (v6_4 : Int32) (v6_5 : Int32) (σ : gw_S) (H : Heap) (locs : List Loc) (ls : Array Slot), f_X2_draftPart_L6 n v6_2 v6_3 v6_4 v6_5 σ = some o → gw_P G σ H → va_S (gw_A G s.heap.size) s.heap H locs → lv_has ls 9 [(0, .ref (G.2.1 4)), (2, .int v6_2), (3, .int v6_3), (4, .int v6_4), (5, .int v6_5)] → W p l e { frames := 2, cells := 0, slots := 0, locals := 44 } s m [.ref (G.2.1 4), .int a0, .int a1, .int a2].toArray below meth c H locs 0 0 (MQ below (gw_QI G s.heap.size o) [.ref (G.2.1 4), .int a0, .int a1, .int a2].toArray s 0 0 (gw_A G s.heap.size)) (F0 m 6 ls []) := by
    intro n
    induction n with
    | zero =>
      intro v6_2 v6_3 v6_4 v6_5 σ H locs ls h
      exact absurd h (by rw [f_X2_draftPart_L6.eq_1]; exact fun h => nomatch h)
    | succ n ih =>
      intro v6_2 v6_3 v6_4 v6_5 σ H locs ls h hP hS hl
      rw [f_X2_draftPart_L6.eq_2] at h
      refine lv_iload hx hb dX2_draftPart_6 (lv_at hl 4 rfl) ?_
      refine lv_aload_n hx hb dX2_draftPart_8 rfl (lv_at hl 0 rfl) ?_
      refine lv_iload_n hx hb dX2_draftPart_9 rfl (lv_at hl 1 rfl) ?_
      obtain ⟨p1, gp1, h⟩ := Option.bind_eq_some_iff.mp h
      refine gw_ci (gw_rV (C := RX2) X hP hS (gc_X2_pairsOf l G v6_2 σ _ gp1) gk_X2_pairsOf gv_810 ⟨gv_313, gv_314⟩ (va_recv hT.2.1 hP (ci := 5) (q0 := 4) rfl rfl) rfl rfl (Nat.le_of_ble_eq_true rfl) hl.1 ⟨rfl, rfl⟩ ⟨Nat.le_of_ble_eq_true rfl, Nat.le_of_ble_eq_true rfl⟩ ⟨Nat.le_of_ble_eq_true rfl, Nat.le_of_ble_eq_true rfl⟩ dX2_draftPart_10) hS (fun H locs hP hS => ?_)
      refine lv_icmp_ge (tgt := 126) hx hb dX2_draftPart_13 (by decide) (fun c => ?_) (fun c => ?_)
      · have h := (if_pos c).symm.trans h
        refine lv_iload hx hb dX2_draftPart_126 (lv_at hl 3 rfl) ?_
        exact gw_ri X hP hS h dX2_draftPart_128
      · have h := (if_neg c).symm.trans h
        refine lv_aload_n hx hb dX2_draftPart_16 rfl (lv_at hl 0 rfl) ?_
        refine va_get (D := G.1) (ci := 5) (v := .ref (G.2.1 1)) (C := RX2) (T := TX2) (N := 9) hx hb hts gx_X2 hown hT.2.1 hP 4 rfl rfl 0 (by decide) (hts _ gv_71) (fun _ h9 => h9) rfl dX2_draftPart_17 ?_
        refine lv_iload_n hx hb dX2_draftPart_20 rfl (lv_at hl 2 rfl) ?_
        obtain ⟨p2, gp2, h⟩ := Option.bind_eq_some_iff.mp h
        refine gw_ci (gw_rV (C := RX3) X hP hS (gc_X3_down l G v6_3 p1.2 _ gp2) gk_X3_down gv_952 ⟨gv_271, gv_272⟩ (va_recv hT.2.1 hP (ci := 6) (q0 := 1) rfl rfl) rfl rfl (Nat.le_of_ble_eq_true rfl) hl.1 ⟨rfl, rfl⟩ ⟨Nat.le_of_ble_eq_true rfl, Nat.le_of_ble_eq_true rfl⟩ ⟨Nat.le_of_ble_eq_true rfl, Nat.le_of_ble_eq_true rfl⟩ dX2_draftPart_21) hS (fun H locs hP hS => ?_)
        refine lv_aload_n hx hb dX2_draftPart_24 rfl (lv_at hl 0 rfl) ?_
        refine va_get (D := G.1) (ci := 5) (v := .ref (G.2.1 1)) (C := RX2) (T := TX2) (N := 9) hx hb hts gx_X2 hown hT.2.1 hP 4 rfl rfl 0 (by decide) (hts _ gv_71) (fun _ h9 => h9) rfl dX2_draftPart_25 ?_
        refine lv_aload_n hx hb dX2_draftPart_28 rfl (lv_at hl 0 rfl) ?_
        refine lv_iload_n hx hb dX2_draftPart_29 rfl (lv_at hl 1 rfl) ?_
        refine lv_iload hx hb dX2_draftPart_30 (lv_at hl 4 rfl) ?_
        obtain ⟨p3, gp3, h⟩ := Option.bind_eq_some_iff.mp h
        refine gw_ci (gw_rV (C := RX2) X hP hS (gc_X2_promise l G v6_2 v6_5 p2.2 _ gp3) gk_X2_promise gv_843 ⟨gv_321, gv_322⟩ (va_recv hT.2.1 hP (ci := 5) (q0 := 4) rfl rfl) rfl rfl (Nat.le_of_ble_eq_true rfl) hl.1 ⟨rfl, rfl⟩ ⟨Nat.le_of_ble_eq_true rfl, Nat.le_of_ble_eq_true rfl⟩ ⟨Nat.le_of_ble_eq_true rfl, Nat.le_of_ble_eq_true rfl⟩ dX2_draftPart_32) hS (fun H locs hP hS => ?_)
        obtain ⟨p4, gp4, h⟩ := Option.bind_eq_some_iff.mp h
        refine gw_ci (gw_rV (C := RX3) X hP hS (gc_X3_down l G p3.1 p3.2 _ gp4) gk_X3_down gv_952 ⟨gv_271, gv_272⟩ (va_recv hT.2.1 hP (ci := 6) (q0 := 1) rfl rfl) rfl rfl (Nat.le_of_ble_eq_true rfl) hl.1 ⟨rfl, rfl⟩ ⟨Nat.le_of_ble_eq_true rfl, Nat.le_of_ble_eq_true rfl⟩ ⟨Nat.le_of_ble_eq_true rfl, Nat.le_of_ble_eq_true rfl⟩ dX2_draftPart_35) hS (fun H locs hP hS => ?_)
        refine lv_iand hx hb dX2_draftPart_38 ?_
        refine lv_istore (lv' := [(6, .int (p2.1 &&& p4.1)), (0, .ref (G.2.1 4)), (2, .int v6_2), (3, .int v6_3), (4, .int v6_4), (5, .int v6_5)]) hx hb dX2_draftPart_39 hl (by decide) rfl (fun ls hl => ?_)
        refine lv_iconst (v := 0) hx hb dX2_draftPart_41 (by decide) ?_
        refine lv_istore (lv' := [(7, .int (0 : Int32)), (6, .int (p2.1 &&& p4.1)), (0, .ref (G.2.1 4)), (2, .int v6_2), (3, .int v6_3), (4, .int v6_4), (5, .int v6_5)]) hx hb dX2_draftPart_42 hl (by decide) rfl (fun ls hl => ?_)
        refine L44 64 _ v6_2 v6_3 v6_4 v6_5 (p2.1 &&& p4.1) (0 : Int32) p4.2 _ _ _ h hP hS (lv_sub hl [2, 3, 4, 5, 6, 1, 0] rfl) (fun w44_2 w44_3 w44_4 w44_5 σ44 H locs ls h hP hS hl => ?_)
        refine lv_iinc (v := (w44_5 + (1 : Int32))) (lv' := [(5, .int (w44_5 + (1 : Int32))), (0, .ref (G.2.1 4)), (2, .int w44_2), (3, .int w44_3), (4, .int w44_4)]) hx hb dX2_draftPart_120 hl (k := 4) rfl rfl (by decide) rfl (fun ls hl => ?_)
        refine lv_goto (tgt := 6) hx hb dX2_draftPart_123 (by decide) ?_
        exact ih w44_2 w44_3 w44_4 (w44_5 + (1 : Int32)) σ44 _ _ _ h hP hS (lv_sub hl [1, 2, 3, 4, 0] rfl)
  unfold f_X2_draftPart at h
  refine lv_iload_n hx hb dX2_draftPart_0 rfl (lv_at hl 1 rfl) ?_
  refine lv_istore (lv' := [(4, .int a0), (0, .ref (G.2.1 4)), (1, .int a0), (2, .int a1), (3, .int a2)]) hx hb dX2_draftPart_1 hl (by decide) rfl (fun ls hl => ?_)
  refine lv_iconst (v := 0) hx hb dX2_draftPart_3 (by decide) ?_
  refine lv_istore (lv' := [(5, .int (0 : Int32)), (4, .int a0), (0, .ref (G.2.1 4)), (1, .int a0), (2, .int a1), (3, .int a2)]) hx hb dX2_draftPart_4 hl (by decide) rfl (fun ls hl => ?_)
  exact L6 64 a1 a2 a0 (0 : Int32) σ _ _ _ h hP hS (lv_sub hl [2, 4, 5, 1, 0] rfl)
def f_X2_draft (a0 : Int32) (a1 : Int32) (a2 : Int32) (a3 : Int32) (σ : gw_S) : Option (Int32 × gw_S) := ((f_X2_draftPart (0 : Int32) a0 a1 σ).bind fun p1 => (if p1.1 ≤ (4 : Int32) then ((f_X2_draftPart p1.1 a2 a3 p1.2).bind fun p2 => (some (p2.1, p2.2))) else (some (p1.1, p1.2))))
set_option maxHeartbeats 4000000 in
set_option maxRecDepth 100000 in
theorem gc_X2_draft (l : Launch) (G : gw_G) (a0 : Int32) (a1 : Int32) (a2 : Int32) (a3 : Int32) (σ : gw_S) (o : (Int32 × gw_S)) (h : f_X2_draft a0 a1 a2 a3 σ = some o) : gw_M (fun sz => gw_QI G sz o) l yX2_draft cX2_draft 6 (some .int) { frames := 3, cells := 0, slots := 0, locals := 72 } G [.ref (G.2.1 4), .int a0, .int a1, .int a2, .int a3] σ := by
  refine gw_en (own := RX2) (lv := [(0, .ref (G.2.1 4)), (1, .int a0), (2, .int a1), (3, .int a2), (4, .int a3)]) (by decide +kernel) rfl (Nat.le_of_ble_eq_true rfl) rfl ?_
  intro p e s m below meth c ls X hl hP
  obtain ⟨hx, hb, hml, hown, hts, -, -, hT, hZ, -⟩ := id X
  have hS : va_S (gw_A G s.heap.size) s.heap s.heap [] := va_S.rf
  unfold f_X2_draft at h
  refine lv_aload_n hx hb dX2_draft_0 rfl (lv_at hl 0 rfl) ?_
  refine lv_iconst (v := 0) hx hb dX2_draft_1 (by decide) ?_
  refine lv_iload_n hx hb dX2_draft_2 rfl (lv_at hl 1 rfl) ?_
  refine lv_iload_n hx hb dX2_draft_3 rfl (lv_at hl 2 rfl) ?_
  obtain ⟨p1, gp1, h⟩ := Option.bind_eq_some_iff.mp h
  refine gw_ci (gw_rV (C := RX2) X hP hS (gc_X2_draftPart l G (0 : Int32) a0 a1 σ _ gp1) gk_X2_draftPart gv_948 ⟨gv_950, gv_s16⟩ (va_recv hT.2.1 hP (ci := 5) (q0 := 4) rfl rfl) rfl rfl (Nat.le_of_ble_eq_true rfl) hl.1 ⟨rfl, rfl⟩ ⟨Nat.le_of_ble_eq_true rfl, Nat.le_of_ble_eq_true rfl⟩ ⟨Nat.le_of_ble_eq_true rfl, Nat.le_of_ble_eq_true rfl⟩ dX2_draft_4) hS (fun H locs hP hS => ?_)
  refine lv_istore (lv' := [(5, .int p1.1), (0, .ref (G.2.1 4)), (1, .int a0), (2, .int a1), (3, .int a2), (4, .int a3)]) hx hb dX2_draft_7 hl (by decide) rfl (fun ls hl => ?_)
  refine lv_iload hx hb dX2_draft_9 (lv_at hl 0 rfl) ?_
  refine lv_iconst (v := 4) hx hb dX2_draft_11 (by decide) ?_
  refine lv_icmp_le (tgt := 20) hx hb dX2_draft_12 (by decide) (fun c => ?_) (fun c => ?_)
  · have h := (if_pos c).symm.trans h
    refine lv_aload_n hx hb dX2_draft_20 rfl (lv_at hl 1 rfl) ?_
    refine lv_iload hx hb dX2_draft_21 (lv_at hl 0 rfl) ?_
    refine lv_iload_n hx hb dX2_draft_23 rfl (lv_at hl 4 rfl) ?_
    refine lv_iload hx hb dX2_draft_24 (lv_at hl 5 rfl) ?_
    obtain ⟨p2, gp2, h⟩ := Option.bind_eq_some_iff.mp h
    refine gw_ci (gw_rV (C := RX2) X hP hS (gc_X2_draftPart l G p1.1 a2 a3 p1.2 _ gp2) gk_X2_draftPart gv_948 ⟨gv_950, gv_s16⟩ (va_recv hT.2.1 hP (ci := 5) (q0 := 4) rfl rfl) rfl rfl (Nat.le_of_ble_eq_true rfl) hl.1 ⟨rfl, rfl⟩ ⟨Nat.le_of_ble_eq_true rfl, Nat.le_of_ble_eq_true rfl⟩ ⟨Nat.le_of_ble_eq_true rfl, Nat.le_of_ble_eq_true rfl⟩ dX2_draft_26) hS (fun H locs hP hS => ?_)
    exact gw_ri X hP hS h dX2_draft_29
  · have h := (if_neg c).symm.trans h
    refine lv_iload hx hb dX2_draft_15 (lv_at hl 0 rfl) ?_
    refine lv_goto (tgt := 29) hx hb dX2_draft_17 (by decide) ?_
    exact gw_ri X hP hS h dX2_draft_29
def f_X2_addDraft_L7 : Nat → Int32 → Int32 → Int32 → gw_S → Option (Int32 × gw_S)
  | 0, _, _, _, _ => none
  | n + 1, v7_1, v7_2, v7_3, σ => (if v7_1 ≤ v7_3 then (some (v7_2, σ)) else ((f_X8_at 9 v7_3 σ).bind fun p2 => ((f_X8_at 9 v7_3 p2.2).bind fun p3 => ((f_X2_addPair v7_2 (p2.1 &&& (15 : Int32)) (p3.1 >>> ((4 : Int32) &&& 31)) p3.2).bind fun p4 => (f_X2_addDraft_L7 n v7_1 v7_2 (v7_3 + (1 : Int32)) p4)))))
def f_X2_addDraft (a0 : Int32) (σ : gw_S) : Option (Int32 × gw_S) := ((f_X2_add  σ).bind fun p1 => (f_X2_addDraft_L7 64 a0 p1.1 (0 : Int32) p1.2))
set_option maxHeartbeats 4000000 in
set_option maxRecDepth 100000 in
theorem gc_X2_addDraft (l : Launch) (G : gw_G) (a0 : Int32) (σ : gw_S) (o : (Int32 × gw_S)) (h : f_X2_addDraft a0 σ = some o) : gw_M (fun sz => gw_QI G sz o) l yX2_addDraft cX2_addDraft 4 (some .int) { frames := 5, cells := 0, slots := 0, locals := 113 } G [.ref (G.2.1 4), .int a0] σ := by
  refine gw_en (own := RX2) (lv := [(0, .ref (G.2.1 4)), (1, .int a0)]) (by decide +kernel) rfl (Nat.le_of_ble_eq_true rfl) rfl ?_
  intro p e s m below meth c ls X hl hP
  obtain ⟨hx, hb, hml, hown, hts, -, -, hT, hZ, -⟩ := id X
  have hS : va_S (gw_A G s.heap.size) s.heap s.heap [] := va_S.rf
  have L7 : ∀ (n : Nat) (v7_1 : Int32) (v7_2 : Int32) (v7_3 : Int32) (σ : gw_S) (H : Heap) (locs : List Loc) (ls : Array Slot), f_X2_addDraft_L7 n v7_1 v7_2 v7_3 σ = some o → gw_P G σ H → va_S (gw_A G s.heap.size) s.heap H locs → lv_has ls 4 [(0, .ref (G.2.1 4)), (1, .int v7_1), (2, .int v7_2), (3, .int v7_3)] → W p l e { frames := 5, cells := 0, slots := 0, locals := 113 } s m [.ref (G.2.1 4), .int a0].toArray below meth c H locs 0 0 (MQ below (gw_QI G s.heap.size o) [.ref (G.2.1 4), .int a0].toArray s 0 0 (gw_A G s.heap.size)) (F0 m 7 ls []) := by
    intro n
    induction n with
    | zero =>
      intro v7_1 v7_2 v7_3 σ H locs ls h
      exact absurd h (by rw [f_X2_addDraft_L7.eq_1]; exact fun h => nomatch h)
    | succ n ih =>
      intro v7_1 v7_2 v7_3 σ H locs ls h hP hS hl
      rw [f_X2_addDraft_L7.eq_2] at h
      refine lv_iload_n hx hb dX2_addDraft_7 rfl (lv_at hl 3 rfl) ?_
      refine lv_iload_n hx hb dX2_addDraft_8 rfl (lv_at hl 1 rfl) ?_
      refine lv_icmp_ge (tgt := 44) hx hb dX2_addDraft_9 (by decide) (fun c => ?_) (fun c => ?_)
      · have h := (if_pos c).symm.trans h
        refine lv_iload_n hx hb dX2_addDraft_44 rfl (lv_at hl 2 rfl) ?_
        exact gw_ri X hP hS h dX2_addDraft_45
      · have h := (if_neg c).symm.trans h
        refine lv_aload_n hx hb dX2_addDraft_12 rfl (lv_at hl 0 rfl) ?_
        refine lv_iload_n hx hb dX2_addDraft_13 rfl (lv_at hl 2 rfl) ?_
        refine lv_aload_n hx hb dX2_addDraft_14 rfl (lv_at hl 0 rfl) ?_
        refine va_get (D := G.1) (ci := 5) (v := .ref (G.2.1 9)) (C := RX2) (T := TX2) (N := 9) hx hb hts gx_X2 hown hT.2.1 hP 4 rfl rfl 7 (by decide) (hts _ gv_78) (fun _ h9 => h9) rfl dX2_addDraft_15 ?_
        refine lv_iload_n hx hb dX2_addDraft_18 rfl (lv_at hl 3 rfl) ?_
        obtain ⟨p2, gp2, h⟩ := Option.bind_eq_some_iff.mp h
        refine gw_ci (gw_rN (host := "Genericwood") X hP hS (gc_X8_at l G 9 ⟨by decide, by decide⟩ v7_3 σ _ gp2) gk_X8_at gv_311 gv_275 rfl rfl (Nat.le_of_ble_eq_true rfl) hl.1 ⟨rfl, rfl⟩ ⟨Nat.le_of_ble_eq_true rfl, Nat.le_of_ble_eq_true rfl⟩ ⟨Nat.le_of_ble_eq_true rfl, Nat.le_of_ble_eq_true rfl⟩ dX2_addDraft_19) hS (fun H locs hP hS => ?_)
        refine lv_bipush (v := 15) hx hb dX2_addDraft_22 (by decide) ?_
        refine lv_iand hx hb dX2_addDraft_24 ?_
        refine lv_aload_n hx hb dX2_addDraft_25 rfl (lv_at hl 0 rfl) ?_
        refine va_get (D := G.1) (ci := 5) (v := .ref (G.2.1 9)) (C := RX2) (T := TX2) (N := 9) hx hb hts gx_X2 hown hT.2.1 hP 4 rfl rfl 7 (by decide) (hts _ gv_78) (fun _ h9 => h9) rfl dX2_addDraft_26 ?_
        refine lv_iload_n hx hb dX2_addDraft_29 rfl (lv_at hl 3 rfl) ?_
        obtain ⟨p3, gp3, h⟩ := Option.bind_eq_some_iff.mp h
        refine gw_ci (gw_rN (host := "Genericwood") X hP hS (gc_X8_at l G 9 ⟨by decide, by decide⟩ v7_3 p2.2 _ gp3) gk_X8_at gv_311 gv_275 rfl rfl (Nat.le_of_ble_eq_true rfl) hl.1 ⟨rfl, rfl⟩ ⟨Nat.le_of_ble_eq_true rfl, Nat.le_of_ble_eq_true rfl⟩ ⟨Nat.le_of_ble_eq_true rfl, Nat.le_of_ble_eq_true rfl⟩ dX2_addDraft_30) hS (fun H locs hP hS => ?_)
        refine lv_iconst (v := 4) hx hb dX2_addDraft_33 (by decide) ?_
        refine lv_ishr hx hb dX2_addDraft_34 ?_
        obtain ⟨p4, gp4, h⟩ := Option.bind_eq_some_iff.mp h
        refine gw_cv (gw_rV (C := RX2) X hP hS (gc_X2_addPair l G v7_2 (p2.1 &&& (15 : Int32)) (p3.1 >>> ((4 : Int32) &&& 31)) p3.2 _ gp4) gk_X2_addPair gv_892 ⟨gv_851, gv_852⟩ (va_recv hT.2.1 hP (ci := 5) (q0 := 4) rfl rfl) rfl rfl (Nat.le_of_ble_eq_true rfl) hl.1 ⟨rfl, rfl⟩ ⟨Nat.le_of_ble_eq_true rfl, Nat.le_of_ble_eq_true rfl⟩ ⟨Nat.le_of_ble_eq_true rfl, Nat.le_of_ble_eq_true rfl⟩ dX2_addDraft_35) hS (fun H locs hP hS => ?_)
        refine lv_iinc (v := (v7_3 + (1 : Int32))) (lv' := [(3, .int (v7_3 + (1 : Int32))), (0, .ref (G.2.1 4)), (1, .int v7_1), (2, .int v7_2)]) hx hb dX2_addDraft_38 hl (k := 3) rfl rfl (by decide) rfl (fun ls hl => ?_)
        refine lv_goto (tgt := 7) hx hb dX2_addDraft_41 (by decide) ?_
        exact ih v7_1 v7_2 (v7_3 + (1 : Int32)) p4 _ _ _ h hP hS (lv_sub hl [1, 2, 3, 0] rfl)
  unfold f_X2_addDraft at h
  refine lv_aload_n hx hb dX2_addDraft_0 rfl (lv_at hl 0 rfl) ?_
  obtain ⟨p1, gp1, h⟩ := Option.bind_eq_some_iff.mp h
  refine gw_ci (gw_rV (C := RX2) X hP hS (gc_X2_add l G  σ _ gp1) gk_X2_add gv_891 ⟨gv_799, gv_800⟩ (va_recv hT.2.1 hP (ci := 5) (q0 := 4) rfl rfl) rfl rfl (Nat.le_of_ble_eq_true rfl) hl.1 ⟨rfl, rfl⟩ ⟨Nat.le_of_ble_eq_true rfl, Nat.le_of_ble_eq_true rfl⟩ ⟨Nat.le_of_ble_eq_true rfl, Nat.le_of_ble_eq_true rfl⟩ dX2_addDraft_1) hS (fun H locs hP hS => ?_)
  refine lv_istore_n (lv' := [(2, .int p1.1), (0, .ref (G.2.1 4)), (1, .int a0)]) hx hb dX2_addDraft_4 rfl hl (by decide) rfl (fun ls hl => ?_)
  refine lv_iconst (v := 0) hx hb dX2_addDraft_5 (by decide) ?_
  refine lv_istore_n (lv' := [(3, .int (0 : Int32)), (2, .int p1.1), (0, .ref (G.2.1 4)), (1, .int a0)]) hx hb dX2_addDraft_6 rfl hl (by decide) rfl (fun ls hl => ?_)
  exact L7 64 a0 p1.1 (0 : Int32) p1.2 _ _ _ h hP hS (lv_sub hl [2, 3, 1, 0] rfl)
end
section
theorem gv_139 : Cond.fieldLink RX4 7 "Genericwood$Valued" "order" "LGenericwood$Order;" ∈ gw_L := gw_tab 139 (by decide +kernel) (by decide +kernel)
theorem gv_140 : Cond.sameField "Genericwood$Valued" "Genericwood$Way" "order" "LGenericwood$Order;" ∈ gw_L := gw_tab 140 (by decide +kernel) (by decide +kernel)
theorem gv_243 : Cond.code yX3_ends cX3_ends 1 (some .int) ∈ gw_L := gw_tab 243 (by decide +kernel) (by decide +kernel)
theorem gk_X3_ends : gw_K yX3_ends cX3_ends 1 (some .int) 0 := ⟨gv_243, gv_2, by decide +kernel, by decide +kernel⟩
theorem gv_241 : Cond.instanceMethod yX3_ends ∈ gw_L := gw_tab 241 (by decide +kernel) (by decide +kernel)
theorem gv_377 : Cond.methodLink RX4 13 yX3_ends ∈ gw_L := gw_tab 377 (by decide +kernel) (by decide +kernel)
theorem gv_242 : Cond.selects RX3 yX3_ends yX3_ends ∈ gw_L := gw_tab 242 (by decide +kernel) (by decide +kernel)
theorem gv_400 : Cond.code yX3_endsOf cX3_endsOf 2 (some .int) ∈ gw_L := gw_tab 400 (by decide +kernel) (by decide +kernel)
theorem gk_X3_endsOf : gw_K yX3_endsOf cX3_endsOf 2 (some .int) 1 := ⟨gv_400, gv_2, by decide +kernel, by decide +kernel⟩
theorem gv_398 : Cond.instanceMethod yX3_endsOf ∈ gw_L := gw_tab 398 (by decide +kernel) (by decide +kernel)
theorem gv_397 : Cond.methodLink RX4 19 yX3_endsOf ∈ gw_L := gw_tab 397 (by decide +kernel) (by decide +kernel)
theorem gv_399 : Cond.selects RX3 yX3_endsOf yX3_endsOf ∈ gw_L := gw_tab 399 (by decide +kernel) (by decide +kernel)
theorem gv_137 : Cond.fieldLink RX6 7 "Genericwood$Weak" "order" "LGenericwood$Order;" ∈ gw_L := gw_tab 137 (by decide +kernel) (by decide +kernel)
theorem gv_138 : Cond.sameField "Genericwood$Weak" "Genericwood$Way" "order" "LGenericwood$Order;" ∈ gw_L := gw_tab 138 (by decide +kernel) (by decide +kernel)
theorem gv_373 : Cond.code yX3_all cX3_all 1 (some .int) ∈ gw_L := gw_tab 373 (by decide +kernel) (by decide +kernel)
theorem gk_X3_all : gw_K yX3_all cX3_all 1 (some .int) 0 := ⟨gv_373, gv_2, by decide +kernel, by decide +kernel⟩
theorem gv_371 : Cond.instanceMethod yX3_all ∈ gw_L := gw_tab 371 (by decide +kernel) (by decide +kernel)
theorem gv_370 : Cond.methodLink RX6 13 yX3_all ∈ gw_L := gw_tab 370 (by decide +kernel) (by decide +kernel)
theorem gv_372 : Cond.selects RX3 yX3_all yX3_all ∈ gw_L := gw_tab 372 (by decide +kernel) (by decide +kernel)
theorem gv_428 : Cond.code yX3_avoiding cX3_avoiding 4 (some .int) ∈ gw_L := gw_tab 428 (by decide +kernel) (by decide +kernel)
theorem gk_X3_avoiding : gw_K yX3_avoiding cX3_avoiding 4 (some .int) 1 := ⟨gv_428, gv_2, by decide +kernel, by decide +kernel⟩
theorem gv_426 : Cond.instanceMethod yX3_avoiding ∈ gw_L := gw_tab 426 (by decide +kernel) (by decide +kernel)
theorem gv_468 : Cond.methodLink RX6 19 yX3_avoiding ∈ gw_L := gw_tab 468 (by decide +kernel) (by decide +kernel)
theorem gv_427 : Cond.selects RX3 yX3_avoiding yX3_avoiding ∈ gw_L := gw_tab 427 (by decide +kernel) (by decide +kernel)
theorem gv_390 : Cond.methodLink RX6 23 yX3_down ∈ gw_L := gw_tab 390 (by decide +kernel) (by decide +kernel)
theorem gv_389 : Cond.methodLink RX6 26 yX3_size ∈ gw_L := gw_tab 389 (by decide +kernel) (by decide +kernel)
theorem gv_391 : Cond.methodLinkNest RX6 29 yX8_isPart "Genericwood" ∈ gw_L := gw_tab 391 (by decide +kernel) (by decide +kernel)
theorem gv_392 : Cond.static yX8_isPart ∈ gw_L := gw_tab 392 (by decide +kernel) (by decide +kernel)
theorem gv_393 : Cond.code yX8_isPart cX8_isPart 2 (some .boolean) ∈ gw_L := gw_tab 393 (by decide +kernel) (by decide +kernel)
theorem gk_X8_isPart : gw_K yX8_isPart cX8_isPart 2 (some .boolean) 2 := ⟨gv_393, gv_1, by decide +kernel, by decide +kernel⟩
theorem gv_141 : Cond.fieldLink RX0 7 "Genericwood$Forced" "order" "LGenericwood$Order;" ∈ gw_L := gw_tab 141 (by decide +kernel) (by decide +kernel)
theorem gv_142 : Cond.sameField "Genericwood$Forced" "Genericwood$Way" "order" "LGenericwood$Order;" ∈ gw_L := gw_tab 142 (by decide +kernel) (by decide +kernel)
theorem gv_425 : Cond.methodLink RX0 13 yX3_avoiding ∈ gw_L := gw_tab 425 (by decide +kernel) (by decide +kernel)
def f_X4_whole_V (σ : gw_S) : Option (Int32 × gw_S) := ((f_X3_ends  σ).bind fun p1 => (some (p1.1, p1.2)))
set_option maxHeartbeats 4000000 in
set_option maxRecDepth 100000 in
theorem gc_X4_whole_V (l : Launch) (G : gw_G) (σ : gw_S) (o : (Int32 × gw_S)) (h : f_X4_whole_V σ = some o) : gw_M (fun sz => gw_QI G sz o) l yX4_whole cX4_whole 1 (some .int) { frames := 1, cells := 0, slots := 0, locals := 20 } G [.ref (G.2.1 18)] σ := by
  refine gw_en (own := RX4) (lv := [(0, .ref (G.2.1 18))]) (by decide +kernel) rfl (Nat.le_of_ble_eq_true rfl) rfl ?_
  intro p e s m below meth c ls X hl hP
  obtain ⟨hx, hb, hml, hown, hts, -, -, hT, hZ, -⟩ := id X
  have hS : va_S (gw_A G s.heap.size) s.heap s.heap [] := va_S.rf
  unfold f_X4_whole_V at h
  refine lv_aload_n hx hb dX4_whole_0 rfl (lv_at hl 0 rfl) ?_
  refine va_get (D := G.1) (ci := 7) (v := .ref (G.2.1 1)) (C := RX4) (T := TX4) (N := 7) hx hb hts gx_X4 hown hT.2.1 hP 18 rfl rfl 0 (by decide) (hts _ gv_139) (fun x9 h9 => u_same (hts _ gv_140) x9 h9) rfl dX4_whole_1 ?_
  obtain ⟨p1, gp1, h⟩ := Option.bind_eq_some_iff.mp h
  refine gw_ci (gw_rV (C := RX3) X hP hS (gc_X3_ends l G  σ _ gp1) gk_X3_ends gv_377 ⟨gv_241, gv_242⟩ (va_recv hT.2.1 hP (ci := 6) (q0 := 1) rfl rfl) rfl rfl (Nat.le_of_ble_eq_true rfl) hl.1 ⟨rfl, rfl⟩ ⟨Nat.le_of_ble_eq_true rfl, Nat.le_of_ble_eq_true rfl⟩ ⟨Nat.le_of_ble_eq_true rfl, Nat.le_of_ble_eq_true rfl⟩ dX4_whole_4) hS (fun H locs hP hS => ?_)
  exact gw_ri X hP hS h dX4_whole_7
def f_X4_denied_V (a0 : Int32) (σ : gw_S) : Option (Int32 × gw_S) := ((f_X3_ends  σ).bind fun p1 => (some ((p1.1 &&& (a0 ^^^ (-1 : Int32))), p1.2)))
set_option maxHeartbeats 4000000 in
set_option maxRecDepth 100000 in
theorem gc_X4_denied_V (l : Launch) (G : gw_G) (a0 : Int32) (σ : gw_S) (o : (Int32 × gw_S)) (h : f_X4_denied_V a0 σ = some o) : gw_M (fun sz => gw_QI G sz o) l yX4_denied cX4_denied 2 (some .int) { frames := 1, cells := 0, slots := 0, locals := 20 } G [.ref (G.2.1 18), .int a0] σ := by
  refine gw_en (own := RX4) (lv := [(0, .ref (G.2.1 18)), (1, .int a0)]) (by decide +kernel) rfl (Nat.le_of_ble_eq_true rfl) rfl ?_
  intro p e s m below meth c ls X hl hP
  obtain ⟨hx, hb, hml, hown, hts, -, -, hT, hZ, -⟩ := id X
  have hS : va_S (gw_A G s.heap.size) s.heap s.heap [] := va_S.rf
  unfold f_X4_denied_V at h
  refine lv_aload_n hx hb dX4_denied_0 rfl (lv_at hl 0 rfl) ?_
  refine va_get (D := G.1) (ci := 7) (v := .ref (G.2.1 1)) (C := RX4) (T := TX4) (N := 7) hx hb hts gx_X4 hown hT.2.1 hP 18 rfl rfl 0 (by decide) (hts _ gv_139) (fun x9 h9 => u_same (hts _ gv_140) x9 h9) rfl dX4_denied_1 ?_
  obtain ⟨p1, gp1, h⟩ := Option.bind_eq_some_iff.mp h
  refine gw_ci (gw_rV (C := RX3) X hP hS (gc_X3_ends l G  σ _ gp1) gk_X3_ends gv_377 ⟨gv_241, gv_242⟩ (va_recv hT.2.1 hP (ci := 6) (q0 := 1) rfl rfl) rfl rfl (Nat.le_of_ble_eq_true rfl) hl.1 ⟨rfl, rfl⟩ ⟨Nat.le_of_ble_eq_true rfl, Nat.le_of_ble_eq_true rfl⟩ ⟨Nat.le_of_ble_eq_true rfl, Nat.le_of_ble_eq_true rfl⟩ dX4_denied_4) hS (fun H locs hP hS => ?_)
  refine lv_iload_n hx hb dX4_denied_7 rfl (lv_at hl 1 rfl) ?_
  refine lv_iconst (v := -1) hx hb dX4_denied_8 (by decide) ?_
  refine lv_ixor hx hb dX4_denied_9 ?_
  refine lv_iand hx hb dX4_denied_10 ?_
  exact gw_ri X hP hS h dX4_denied_11
def f_X4_along_V (a0 : Int32) (a1 : Int32) (σ : gw_S) : Option (Int32 × gw_S) := ((f_X3_endsOf a0 σ).bind fun p1 => (some ((p1.1 &&& a1), p1.2)))
set_option maxHeartbeats 4000000 in
set_option maxRecDepth 100000 in
theorem gc_X4_along_V (l : Launch) (G : gw_G) (a0 : Int32) (a1 : Int32) (σ : gw_S) (o : (Int32 × gw_S)) (h : f_X4_along_V a0 a1 σ = some o) : gw_M (fun sz => gw_QI G sz o) l yX4_along cX4_along 3 (some .int) { frames := 2, cells := 0, slots := 0, locals := 42 } G [.ref (G.2.1 18), .int a0, .int a1] σ := by
  refine gw_en (own := RX4) (lv := [(0, .ref (G.2.1 18)), (1, .int a0), (2, .int a1)]) (by decide +kernel) rfl (Nat.le_of_ble_eq_true rfl) rfl ?_
  intro p e s m below meth c ls X hl hP
  obtain ⟨hx, hb, hml, hown, hts, -, -, hT, hZ, -⟩ := id X
  have hS : va_S (gw_A G s.heap.size) s.heap s.heap [] := va_S.rf
  unfold f_X4_along_V at h
  refine lv_aload_n hx hb dX4_along_0 rfl (lv_at hl 0 rfl) ?_
  refine va_get (D := G.1) (ci := 7) (v := .ref (G.2.1 1)) (C := RX4) (T := TX4) (N := 7) hx hb hts gx_X4 hown hT.2.1 hP 18 rfl rfl 0 (by decide) (hts _ gv_139) (fun x9 h9 => u_same (hts _ gv_140) x9 h9) rfl dX4_along_1 ?_
  refine lv_iload_n hx hb dX4_along_4 rfl (lv_at hl 1 rfl) ?_
  obtain ⟨p1, gp1, h⟩ := Option.bind_eq_some_iff.mp h
  refine gw_ci (gw_rV (C := RX3) X hP hS (gc_X3_endsOf l G a0 σ _ gp1) gk_X3_endsOf gv_397 ⟨gv_398, gv_399⟩ (va_recv hT.2.1 hP (ci := 6) (q0 := 1) rfl rfl) rfl rfl (Nat.le_of_ble_eq_true rfl) hl.1 ⟨rfl, rfl⟩ ⟨Nat.le_of_ble_eq_true rfl, Nat.le_of_ble_eq_true rfl⟩ ⟨Nat.le_of_ble_eq_true rfl, Nat.le_of_ble_eq_true rfl⟩ dX4_along_5) hS (fun H locs hP hS => ?_)
  refine lv_iload_n hx hb dX4_along_8 rfl (lv_at hl 2 rfl) ?_
  refine lv_iand hx hb dX4_along_9 ?_
  exact gw_ri X hP hS h dX4_along_10
def f_X4_unless_V (a0 : Int32) (a1 : Int32) (σ : gw_S) : Option (Int32 × gw_S) := ((f_X3_ends  σ).bind fun p1 => ((f_X3_endsOf a0 p1.2).bind fun p2 => (some (((p1.1 &&& (p2.1 ^^^ (-1 : Int32))) ||| a1), p2.2))))
set_option maxHeartbeats 4000000 in
set_option maxRecDepth 100000 in
theorem gc_X4_unless_V (l : Launch) (G : gw_G) (a0 : Int32) (a1 : Int32) (σ : gw_S) (o : (Int32 × gw_S)) (h : f_X4_unless_V a0 a1 σ = some o) : gw_M (fun sz => gw_QI G sz o) l yX4_unless cX4_unless 3 (some .int) { frames := 2, cells := 0, slots := 0, locals := 42 } G [.ref (G.2.1 18), .int a0, .int a1] σ := by
  refine gw_en (own := RX4) (lv := [(0, .ref (G.2.1 18)), (1, .int a0), (2, .int a1)]) (by decide +kernel) rfl (Nat.le_of_ble_eq_true rfl) rfl ?_
  intro p e s m below meth c ls X hl hP
  obtain ⟨hx, hb, hml, hown, hts, -, -, hT, hZ, -⟩ := id X
  have hS : va_S (gw_A G s.heap.size) s.heap s.heap [] := va_S.rf
  unfold f_X4_unless_V at h
  refine lv_aload_n hx hb dX4_unless_0 rfl (lv_at hl 0 rfl) ?_
  refine va_get (D := G.1) (ci := 7) (v := .ref (G.2.1 1)) (C := RX4) (T := TX4) (N := 7) hx hb hts gx_X4 hown hT.2.1 hP 18 rfl rfl 0 (by decide) (hts _ gv_139) (fun x9 h9 => u_same (hts _ gv_140) x9 h9) rfl dX4_unless_1 ?_
  obtain ⟨p1, gp1, h⟩ := Option.bind_eq_some_iff.mp h
  refine gw_ci (gw_rV (C := RX3) X hP hS (gc_X3_ends l G  σ _ gp1) gk_X3_ends gv_377 ⟨gv_241, gv_242⟩ (va_recv hT.2.1 hP (ci := 6) (q0 := 1) rfl rfl) rfl rfl (Nat.le_of_ble_eq_true rfl) hl.1 ⟨rfl, rfl⟩ ⟨Nat.le_of_ble_eq_true rfl, Nat.le_of_ble_eq_true rfl⟩ ⟨Nat.le_of_ble_eq_true rfl, Nat.le_of_ble_eq_true rfl⟩ dX4_unless_4) hS (fun H locs hP hS => ?_)
  refine lv_aload_n hx hb dX4_unless_7 rfl (lv_at hl 0 rfl) ?_
  refine va_get (D := G.1) (ci := 7) (v := .ref (G.2.1 1)) (C := RX4) (T := TX4) (N := 7) hx hb hts gx_X4 hown hT.2.1 hP 18 rfl rfl 0 (by decide) (hts _ gv_139) (fun x9 h9 => u_same (hts _ gv_140) x9 h9) rfl dX4_unless_8 ?_
  refine lv_iload_n hx hb dX4_unless_11 rfl (lv_at hl 1 rfl) ?_
  obtain ⟨p2, gp2, h⟩ := Option.bind_eq_some_iff.mp h
  refine gw_ci (gw_rV (C := RX3) X hP hS (gc_X3_endsOf l G a0 p1.2 _ gp2) gk_X3_endsOf gv_397 ⟨gv_398, gv_399⟩ (va_recv hT.2.1 hP (ci := 6) (q0 := 1) rfl rfl) rfl rfl (Nat.le_of_ble_eq_true rfl) hl.1 ⟨rfl, rfl⟩ ⟨Nat.le_of_ble_eq_true rfl, Nat.le_of_ble_eq_true rfl⟩ ⟨Nat.le_of_ble_eq_true rfl, Nat.le_of_ble_eq_true rfl⟩ dX4_unless_12) hS (fun H locs hP hS => ?_)
  refine lv_iconst (v := -1) hx hb dX4_unless_15 (by decide) ?_
  refine lv_ixor hx hb dX4_unless_16 ?_
  refine lv_iand hx hb dX4_unless_17 ?_
  refine lv_iload_n hx hb dX4_unless_18 rfl (lv_at hl 2 rfl) ?_
  refine lv_ior hx hb dX4_unless_19 ?_
  exact gw_ri X hP hS h dX4_unless_20
def f_X4_settled_V (a0 : Int32) (σ : gw_S) : Option (Int32 × gw_S) := (some (a0, σ))
set_option maxHeartbeats 4000000 in
set_option maxRecDepth 100000 in
theorem gc_X4_settled_V (l : Launch) (G : gw_G) (a0 : Int32) (σ : gw_S) (o : (Int32 × gw_S)) (h : f_X4_settled_V a0 σ = some o) : gw_M (fun sz => gw_QI G sz o) l yX4_settled cX4_settled 2 (some .int) { frames := 0, cells := 0, slots := 0, locals := 0 } G [.ref (G.2.1 18), .int a0] σ := by
  refine gw_en (own := RX4) (lv := [(0, .ref (G.2.1 18)), (1, .int a0)]) (by decide +kernel) rfl (Nat.le_of_ble_eq_true rfl) rfl ?_
  intro p e s m below meth c ls X hl hP
  obtain ⟨hx, hb, hml, hown, hts, -, -, hT, hZ, -⟩ := id X
  have hS : va_S (gw_A G s.heap.size) s.heap s.heap [] := va_S.rf
  unfold f_X4_settled_V at h
  refine lv_iload_n hx hb dX4_settled_0 rfl (lv_at hl 1 rfl) ?_
  exact gw_ri X hP hS h dX4_settled_1
def f_X6_whole_F (σ : gw_S) : Option (Int32 × gw_S) := ((f_X3_all  σ).bind fun p1 => (some (p1.1, p1.2)))
set_option maxHeartbeats 4000000 in
set_option maxRecDepth 100000 in
theorem gc_X6_whole_F (l : Launch) (G : gw_G) (σ : gw_S) (o : (Int32 × gw_S)) (h : f_X6_whole_F σ = some o) : gw_M (fun sz => gw_QI G sz o) l yX6_whole cX6_whole 1 (some .int) { frames := 1, cells := 0, slots := 0, locals := 20 } G [.ref (G.2.1 22)] σ := by
  refine gw_en (own := RX6) (lv := [(0, .ref (G.2.1 22))]) (by decide +kernel) rfl (Nat.le_of_ble_eq_true rfl) rfl ?_
  intro p e s m below meth c ls X hl hP
  obtain ⟨hx, hb, hml, hown, hts, -, -, hT, hZ, -⟩ := id X
  have hS : va_S (gw_A G s.heap.size) s.heap s.heap [] := va_S.rf
  unfold f_X6_whole_F at h
  refine lv_aload_n hx hb dX6_whole_0 rfl (lv_at hl 0 rfl) ?_
  refine va_get (D := G.1) (ci := 3) (v := .ref (G.2.1 1)) (C := RX0) (T := TX0) (N := 7) hx hb hts gx_X0 hown hT.2.1 hP 22 rfl rfl 0 (by decide) (hts _ gv_137) (fun x9 h9 => u_same (hts _ gv_138) x9 h9) rfl dX6_whole_1 ?_
  obtain ⟨p1, gp1, h⟩ := Option.bind_eq_some_iff.mp h
  refine gw_ci (gw_rV (C := RX3) X hP hS (gc_X3_all l G  σ _ gp1) gk_X3_all gv_370 ⟨gv_371, gv_372⟩ (va_recv hT.2.1 hP (ci := 6) (q0 := 1) rfl rfl) rfl rfl (Nat.le_of_ble_eq_true rfl) hl.1 ⟨rfl, rfl⟩ ⟨Nat.le_of_ble_eq_true rfl, Nat.le_of_ble_eq_true rfl⟩ ⟨Nat.le_of_ble_eq_true rfl, Nat.le_of_ble_eq_true rfl⟩ dX6_whole_4) hS (fun H locs hP hS => ?_)
  exact gw_ri X hP hS h dX6_whole_7
def f_X6_denied_F (a0 : Int32) (σ : gw_S) : Option (Int32 × gw_S) := ((f_X3_avoiding a0 σ).bind fun p1 => (some (p1.1, p1.2)))
set_option maxHeartbeats 4000000 in
set_option maxRecDepth 100000 in
theorem gc_X6_denied_F (l : Launch) (G : gw_G) (a0 : Int32) (σ : gw_S) (o : (Int32 × gw_S)) (h : f_X6_denied_F a0 σ = some o) : gw_M (fun sz => gw_QI G sz o) l yX6_denied cX6_denied 2 (some .int) { frames := 2, cells := 0, slots := 0, locals := 44 } G [.ref (G.2.1 22), .int a0] σ := by
  refine gw_en (own := RX6) (lv := [(0, .ref (G.2.1 22)), (1, .int a0)]) (by decide +kernel) rfl (Nat.le_of_ble_eq_true rfl) rfl ?_
  intro p e s m below meth c ls X hl hP
  obtain ⟨hx, hb, hml, hown, hts, -, -, hT, hZ, -⟩ := id X
  have hS : va_S (gw_A G s.heap.size) s.heap s.heap [] := va_S.rf
  unfold f_X6_denied_F at h
  refine lv_aload_n hx hb dX6_denied_0 rfl (lv_at hl 0 rfl) ?_
  refine va_get (D := G.1) (ci := 3) (v := .ref (G.2.1 1)) (C := RX0) (T := TX0) (N := 7) hx hb hts gx_X0 hown hT.2.1 hP 22 rfl rfl 0 (by decide) (hts _ gv_137) (fun x9 h9 => u_same (hts _ gv_138) x9 h9) rfl dX6_denied_1 ?_
  refine lv_iload_n hx hb dX6_denied_4 rfl (lv_at hl 1 rfl) ?_
  obtain ⟨p1, gp1, h⟩ := Option.bind_eq_some_iff.mp h
  refine gw_ci (gw_rV (C := RX3) X hP hS (gc_X3_avoiding l G a0 σ _ gp1) gk_X3_avoiding gv_468 ⟨gv_426, gv_427⟩ (va_recv hT.2.1 hP (ci := 6) (q0 := 1) rfl rfl) rfl rfl (Nat.le_of_ble_eq_true rfl) hl.1 ⟨rfl, rfl⟩ ⟨Nat.le_of_ble_eq_true rfl, Nat.le_of_ble_eq_true rfl⟩ ⟨Nat.le_of_ble_eq_true rfl, Nat.le_of_ble_eq_true rfl⟩ dX6_denied_5) hS (fun H locs hP hS => ?_)
  exact gw_ri X hP hS h dX6_denied_8
def f_X6_along_F (a0 : Int32) (a1 : Int32) (σ : gw_S) : Option (Int32 × gw_S) := ((f_X3_down a0 σ).bind fun p1 => (some ((p1.1 &&& a1), p1.2)))
set_option maxHeartbeats 4000000 in
set_option maxRecDepth 100000 in
theorem gc_X6_along_F (l : Launch) (G : gw_G) (a0 : Int32) (a1 : Int32) (σ : gw_S) (o : (Int32 × gw_S)) (h : f_X6_along_F a0 a1 σ = some o) : gw_M (fun sz => gw_QI G sz o) l yX6_along cX6_along 3 (some .int) { frames := 2, cells := 0, slots := 0, locals := 42 } G [.ref (G.2.1 22), .int a0, .int a1] σ := by
  refine gw_en (own := RX6) (lv := [(0, .ref (G.2.1 22)), (1, .int a0), (2, .int a1)]) (by decide +kernel) rfl (Nat.le_of_ble_eq_true rfl) rfl ?_
  intro p e s m below meth c ls X hl hP
  obtain ⟨hx, hb, hml, hown, hts, -, -, hT, hZ, -⟩ := id X
  have hS : va_S (gw_A G s.heap.size) s.heap s.heap [] := va_S.rf
  unfold f_X6_along_F at h
  refine lv_aload_n hx hb dX6_along_0 rfl (lv_at hl 0 rfl) ?_
  refine va_get (D := G.1) (ci := 3) (v := .ref (G.2.1 1)) (C := RX0) (T := TX0) (N := 7) hx hb hts gx_X0 hown hT.2.1 hP 22 rfl rfl 0 (by decide) (hts _ gv_137) (fun x9 h9 => u_same (hts _ gv_138) x9 h9) rfl dX6_along_1 ?_
  refine lv_iload_n hx hb dX6_along_4 rfl (lv_at hl 1 rfl) ?_
  obtain ⟨p1, gp1, h⟩ := Option.bind_eq_some_iff.mp h
  refine gw_ci (gw_rV (C := RX3) X hP hS (gc_X3_down l G a0 σ _ gp1) gk_X3_down gv_390 ⟨gv_271, gv_272⟩ (va_recv hT.2.1 hP (ci := 6) (q0 := 1) rfl rfl) rfl rfl (Nat.le_of_ble_eq_true rfl) hl.1 ⟨rfl, rfl⟩ ⟨Nat.le_of_ble_eq_true rfl, Nat.le_of_ble_eq_true rfl⟩ ⟨Nat.le_of_ble_eq_true rfl, Nat.le_of_ble_eq_true rfl⟩ dX6_along_5) hS (fun H locs hP hS => ?_)
  refine lv_iload_n hx hb dX6_along_8 rfl (lv_at hl 2 rfl) ?_
  refine lv_iand hx hb dX6_along_9 ?_
  exact gw_ri X hP hS h dX6_along_10
def f_X6_unless_F_L5 : Nat → Int32 → Int32 → Int32 → Int32 → gw_S → Option (Int32 × gw_S)
  | 0, _, _, _, _, _ => none
  | n + 1, v5_1, v5_2, v5_3, v5_4, σ => ((f_X3_size  σ).bind fun p1 => (if p1.1 ≤ v5_4 then (some (v5_3, p1.2)) else ((f_X3_down v5_4 p1.2).bind fun p2 => ((f_X3_down v5_1 p2.2).bind fun p3 => ((f_X8_isPart (p2.1 &&& p3.1) v5_2 p3.2).bind fun p4 => (if p4.1 = 0 then (f_X6_unless_F_L5 n v5_1 v5_2 v5_3 (v5_4 + (1 : Int32)) p4.2) else (f_X6_unless_F_L5 n v5_1 v5_2 (v5_3 ||| ((1 : Int32) <<< (v5_4 &&& 31))) (v5_4 + (1 : Int32)) p4.2)))))))
def f_X6_unless_F (a0 : Int32) (a1 : Int32) (σ : gw_S) : Option (Int32 × gw_S) := (f_X6_unless_F_L5 64 a0 a1 (0 : Int32) (0 : Int32) σ)
set_option maxHeartbeats 4000000 in
set_option maxRecDepth 100000 in
theorem gc_X6_unless_F (l : Launch) (G : gw_G) (a0 : Int32) (a1 : Int32) (σ : gw_S) (o : (Int32 × gw_S)) (h : f_X6_unless_F a0 a1 σ = some o) : gw_M (fun sz => gw_QI G sz o) l yX6_unless cX6_unless 5 (some .int) { frames := 2, cells := 0, slots := 0, locals := 42 } G [.ref (G.2.1 22), .int a0, .int a1] σ := by
  refine gw_en (own := RX6) (lv := [(0, .ref (G.2.1 22)), (1, .int a0), (2, .int a1)]) (by decide +kernel) rfl (Nat.le_of_ble_eq_true rfl) rfl ?_
  intro p e s m below meth c ls X hl hP
  obtain ⟨hx, hb, hml, hown, hts, -, -, hT, hZ, -⟩ := id X
  have hS : va_S (gw_A G s.heap.size) s.heap s.heap [] := va_S.rf
  have L5 : ∀ (n : Nat) (v5_1 : Int32) (v5_2 : Int32) (v5_3 : Int32) (v5_4 : Int32) (σ : gw_S) (H : Heap) (locs : List Loc) (ls : Array Slot), f_X6_unless_F_L5 n v5_1 v5_2 v5_3 v5_4 σ = some o → gw_P G σ H → va_S (gw_A G s.heap.size) s.heap H locs → lv_has ls 5 [(0, .ref (G.2.1 22)), (1, .int v5_1), (2, .int v5_2), (3, .int v5_3), (4, .int v5_4)] → W p l e { frames := 2, cells := 0, slots := 0, locals := 42 } s m [.ref (G.2.1 22), .int a0, .int a1].toArray below meth c H locs 0 0 (MQ below (gw_QI G s.heap.size o) [.ref (G.2.1 22), .int a0, .int a1].toArray s 0 0 (gw_A G s.heap.size)) (F0 m 5 ls []) := by
    intro n
    induction n with
    | zero =>
      intro v5_1 v5_2 v5_3 v5_4 σ H locs ls h
      exact absurd h (by rw [f_X6_unless_F_L5.eq_1]; exact fun h => nomatch h)
    | succ n ih =>
      intro v5_1 v5_2 v5_3 v5_4 σ H locs ls h hP hS hl
      rw [f_X6_unless_F_L5.eq_2] at h
      refine lv_iload hx hb dX6_unless_5 (lv_at hl 4 rfl) ?_
      refine lv_aload_n hx hb dX6_unless_7 rfl (lv_at hl 0 rfl) ?_
      refine va_get (D := G.1) (ci := 3) (v := .ref (G.2.1 1)) (C := RX0) (T := TX0) (N := 7) hx hb hts gx_X0 hown hT.2.1 hP 22 rfl rfl 0 (by decide) (hts _ gv_137) (fun x9 h9 => u_same (hts _ gv_138) x9 h9) rfl dX6_unless_8 ?_
      obtain ⟨p1, gp1, h⟩ := Option.bind_eq_some_iff.mp h
      refine gw_ci (gw_rV (C := RX3) X hP hS (gc_X3_size l G  σ _ gp1) gk_X3_size gv_389 ⟨gv_259, gv_260⟩ (va_recv hT.2.1 hP (ci := 6) (q0 := 1) rfl rfl) rfl rfl (Nat.le_of_ble_eq_true rfl) hl.1 ⟨rfl, rfl⟩ ⟨Nat.le_of_ble_eq_true rfl, Nat.le_of_ble_eq_true rfl⟩ ⟨Nat.le_of_ble_eq_true rfl, Nat.le_of_ble_eq_true rfl⟩ dX6_unless_11) hS (fun H locs hP hS => ?_)
      refine lv_icmp_ge (tgt := 55) hx hb dX6_unless_14 (by decide) (fun c => ?_) (fun c => ?_)
      · have h := (if_pos c).symm.trans h
        refine lv_iload_n hx hb dX6_unless_55 rfl (lv_at hl 3 rfl) ?_
        exact gw_ri X hP hS h dX6_unless_56
      · have h := (if_neg c).symm.trans h
        refine lv_aload_n hx hb dX6_unless_17 rfl (lv_at hl 0 rfl) ?_
        refine va_get (D := G.1) (ci := 3) (v := .ref (G.2.1 1)) (C := RX0) (T := TX0) (N := 7) hx hb hts gx_X0 hown hT.2.1 hP 22 rfl rfl 0 (by decide) (hts _ gv_137) (fun x9 h9 => u_same (hts _ gv_138) x9 h9) rfl dX6_unless_18 ?_
        refine lv_iload hx hb dX6_unless_21 (lv_at hl 4 rfl) ?_
        obtain ⟨p2, gp2, h⟩ := Option.bind_eq_some_iff.mp h
        refine gw_ci (gw_rV (C := RX3) X hP hS (gc_X3_down l G v5_4 p1.2 _ gp2) gk_X3_down gv_390 ⟨gv_271, gv_272⟩ (va_recv hT.2.1 hP (ci := 6) (q0 := 1) rfl rfl) rfl rfl (Nat.le_of_ble_eq_true rfl) hl.1 ⟨rfl, rfl⟩ ⟨Nat.le_of_ble_eq_true rfl, Nat.le_of_ble_eq_true rfl⟩ ⟨Nat.le_of_ble_eq_true rfl, Nat.le_of_ble_eq_true rfl⟩ dX6_unless_23) hS (fun H locs hP hS => ?_)
        refine lv_aload_n hx hb dX6_unless_26 rfl (lv_at hl 0 rfl) ?_
        refine va_get (D := G.1) (ci := 3) (v := .ref (G.2.1 1)) (C := RX0) (T := TX0) (N := 7) hx hb hts gx_X0 hown hT.2.1 hP 22 rfl rfl 0 (by decide) (hts _ gv_137) (fun x9 h9 => u_same (hts _ gv_138) x9 h9) rfl dX6_unless_27 ?_
        refine lv_iload_n hx hb dX6_unless_30 rfl (lv_at hl 1 rfl) ?_
        obtain ⟨p3, gp3, h⟩ := Option.bind_eq_some_iff.mp h
        refine gw_ci (gw_rV (C := RX3) X hP hS (gc_X3_down l G v5_1 p2.2 _ gp3) gk_X3_down gv_390 ⟨gv_271, gv_272⟩ (va_recv hT.2.1 hP (ci := 6) (q0 := 1) rfl rfl) rfl rfl (Nat.le_of_ble_eq_true rfl) hl.1 ⟨rfl, rfl⟩ ⟨Nat.le_of_ble_eq_true rfl, Nat.le_of_ble_eq_true rfl⟩ ⟨Nat.le_of_ble_eq_true rfl, Nat.le_of_ble_eq_true rfl⟩ dX6_unless_31) hS (fun H locs hP hS => ?_)
        refine lv_iand hx hb dX6_unless_34 ?_
        refine lv_iload_n hx hb dX6_unless_35 rfl (lv_at hl 2 rfl) ?_
        obtain ⟨p4, gp4, h⟩ := Option.bind_eq_some_iff.mp h
        refine gw_cz (gw_rN (host := "Genericwood") X hP hS (gc_X8_isPart l G (p2.1 &&& p3.1) v5_2 p3.2 _ gp4) gk_X8_isPart gv_391 gv_392 rfl rfl (Nat.le_of_ble_eq_true rfl) hl.1 ⟨rfl, rfl⟩ ⟨Nat.le_of_ble_eq_true rfl, Nat.le_of_ble_eq_true rfl⟩ ⟨Nat.le_of_ble_eq_true rfl, Nat.le_of_ble_eq_true rfl⟩ dX6_unless_36) hS (fun H locs hb_p4 hP hS => ?_)
        refine lv_if_eq (tgt := 49) hx hb dX6_unless_39 (by decide) (fun c => ?_) (fun c => ?_)
        · have h := (if_pos c).symm.trans h
          refine lv_iinc (v := (v5_4 + (1 : Int32))) (lv' := [(4, .int (v5_4 + (1 : Int32))), (0, .ref (G.2.1 22)), (1, .int v5_1), (2, .int v5_2), (3, .int v5_3)]) hx hb dX6_unless_49 hl (k := 4) rfl rfl (by decide) rfl (fun ls hl => ?_)
          refine lv_goto (tgt := 5) hx hb dX6_unless_52 (by decide) ?_
          exact ih v5_1 v5_2 v5_3 (v5_4 + (1 : Int32)) p4.2 _ _ _ h hP hS (lv_sub hl [1, 2, 3, 4, 0] rfl)
        · have h := (if_neg c).symm.trans h
          refine lv_iload_n hx hb dX6_unless_42 rfl (lv_at hl 3 rfl) ?_
          refine lv_iconst (v := 1) hx hb dX6_unless_43 (by decide) ?_
          refine lv_iload hx hb dX6_unless_44 (lv_at hl 4 rfl) ?_
          refine lv_ishl hx hb dX6_unless_46 ?_
          refine lv_ior hx hb dX6_unless_47 ?_
          refine lv_istore_n (lv' := [(3, .int (v5_3 ||| ((1 : Int32) <<< (v5_4 &&& 31)))), (0, .ref (G.2.1 22)), (1, .int v5_1), (2, .int v5_2), (4, .int v5_4)]) hx hb dX6_unless_48 rfl hl (by decide) rfl (fun ls hl => ?_)
          refine lv_iinc (v := (v5_4 + (1 : Int32))) (lv' := [(4, .int (v5_4 + (1 : Int32))), (3, .int (v5_3 ||| ((1 : Int32) <<< (v5_4 &&& 31)))), (0, .ref (G.2.1 22)), (1, .int v5_1), (2, .int v5_2)]) hx hb dX6_unless_49 hl (k := 4) rfl rfl (by decide) rfl (fun ls hl => ?_)
          refine lv_goto (tgt := 5) hx hb dX6_unless_52 (by decide) ?_
          exact ih v5_1 v5_2 (v5_3 ||| ((1 : Int32) <<< (v5_4 &&& 31))) (v5_4 + (1 : Int32)) p4.2 _ _ _ h hP hS (lv_sub hl [2, 3, 4, 1, 0] rfl)
  unfold f_X6_unless_F at h
  refine lv_iconst (v := 0) hx hb dX6_unless_0 (by decide) ?_
  refine lv_istore_n (lv' := [(3, .int (0 : Int32)), (0, .ref (G.2.1 22)), (1, .int a0), (2, .int a1)]) hx hb dX6_unless_1 rfl hl (by decide) rfl (fun ls hl => ?_)
  refine lv_iconst (v := 0) hx hb dX6_unless_2 (by decide) ?_
  refine lv_istore (lv' := [(4, .int (0 : Int32)), (3, .int (0 : Int32)), (0, .ref (G.2.1 22)), (1, .int a0), (2, .int a1)]) hx hb dX6_unless_3 hl (by decide) rfl (fun ls hl => ?_)
  exact L5 64 a0 a1 (0 : Int32) (0 : Int32) σ _ _ _ h hP hS (lv_sub hl [2, 3, 4, 1, 0] rfl)
def f_X6_whole_W (σ : gw_S) : Option (Int32 × gw_S) := ((f_X3_all  σ).bind fun p1 => (some (p1.1, p1.2)))
set_option maxHeartbeats 4000000 in
set_option maxRecDepth 100000 in
theorem gc_X6_whole_W (l : Launch) (G : gw_G) (σ : gw_S) (o : (Int32 × gw_S)) (h : f_X6_whole_W σ = some o) : gw_M (fun sz => gw_QI G sz o) l yX6_whole cX6_whole 1 (some .int) { frames := 1, cells := 0, slots := 0, locals := 20 } G [.ref (G.2.1 26)] σ := by
  refine gw_en (own := RX6) (lv := [(0, .ref (G.2.1 26))]) (by decide +kernel) rfl (Nat.le_of_ble_eq_true rfl) rfl ?_
  intro p e s m below meth c ls X hl hP
  obtain ⟨hx, hb, hml, hown, hts, -, -, hT, hZ, -⟩ := id X
  have hS : va_S (gw_A G s.heap.size) s.heap s.heap [] := va_S.rf
  unfold f_X6_whole_W at h
  refine lv_aload_n hx hb dX6_whole_0 rfl (lv_at hl 0 rfl) ?_
  refine va_get (D := G.1) (ci := 8) (v := .ref (G.2.1 1)) (C := RX6) (T := TX6) (N := 7) hx hb hts gx_X6 hown hT.2.1 hP 26 rfl rfl 0 (by decide) (hts _ gv_137) (fun x9 h9 => u_same (hts _ gv_138) x9 h9) rfl dX6_whole_1 ?_
  obtain ⟨p1, gp1, h⟩ := Option.bind_eq_some_iff.mp h
  refine gw_ci (gw_rV (C := RX3) X hP hS (gc_X3_all l G  σ _ gp1) gk_X3_all gv_370 ⟨gv_371, gv_372⟩ (va_recv hT.2.1 hP (ci := 6) (q0 := 1) rfl rfl) rfl rfl (Nat.le_of_ble_eq_true rfl) hl.1 ⟨rfl, rfl⟩ ⟨Nat.le_of_ble_eq_true rfl, Nat.le_of_ble_eq_true rfl⟩ ⟨Nat.le_of_ble_eq_true rfl, Nat.le_of_ble_eq_true rfl⟩ dX6_whole_4) hS (fun H locs hP hS => ?_)
  exact gw_ri X hP hS h dX6_whole_7
def f_X6_denied_W (a0 : Int32) (σ : gw_S) : Option (Int32 × gw_S) := ((f_X3_avoiding a0 σ).bind fun p1 => (some (p1.1, p1.2)))
set_option maxHeartbeats 4000000 in
set_option maxRecDepth 100000 in
theorem gc_X6_denied_W (l : Launch) (G : gw_G) (a0 : Int32) (σ : gw_S) (o : (Int32 × gw_S)) (h : f_X6_denied_W a0 σ = some o) : gw_M (fun sz => gw_QI G sz o) l yX6_denied cX6_denied 2 (some .int) { frames := 2, cells := 0, slots := 0, locals := 44 } G [.ref (G.2.1 26), .int a0] σ := by
  refine gw_en (own := RX6) (lv := [(0, .ref (G.2.1 26)), (1, .int a0)]) (by decide +kernel) rfl (Nat.le_of_ble_eq_true rfl) rfl ?_
  intro p e s m below meth c ls X hl hP
  obtain ⟨hx, hb, hml, hown, hts, -, -, hT, hZ, -⟩ := id X
  have hS : va_S (gw_A G s.heap.size) s.heap s.heap [] := va_S.rf
  unfold f_X6_denied_W at h
  refine lv_aload_n hx hb dX6_denied_0 rfl (lv_at hl 0 rfl) ?_
  refine va_get (D := G.1) (ci := 8) (v := .ref (G.2.1 1)) (C := RX6) (T := TX6) (N := 7) hx hb hts gx_X6 hown hT.2.1 hP 26 rfl rfl 0 (by decide) (hts _ gv_137) (fun x9 h9 => u_same (hts _ gv_138) x9 h9) rfl dX6_denied_1 ?_
  refine lv_iload_n hx hb dX6_denied_4 rfl (lv_at hl 1 rfl) ?_
  obtain ⟨p1, gp1, h⟩ := Option.bind_eq_some_iff.mp h
  refine gw_ci (gw_rV (C := RX3) X hP hS (gc_X3_avoiding l G a0 σ _ gp1) gk_X3_avoiding gv_468 ⟨gv_426, gv_427⟩ (va_recv hT.2.1 hP (ci := 6) (q0 := 1) rfl rfl) rfl rfl (Nat.le_of_ble_eq_true rfl) hl.1 ⟨rfl, rfl⟩ ⟨Nat.le_of_ble_eq_true rfl, Nat.le_of_ble_eq_true rfl⟩ ⟨Nat.le_of_ble_eq_true rfl, Nat.le_of_ble_eq_true rfl⟩ dX6_denied_5) hS (fun H locs hP hS => ?_)
  exact gw_ri X hP hS h dX6_denied_8
def f_X6_along_W (a0 : Int32) (a1 : Int32) (σ : gw_S) : Option (Int32 × gw_S) := ((f_X3_down a0 σ).bind fun p1 => (some ((p1.1 &&& a1), p1.2)))
set_option maxHeartbeats 4000000 in
set_option maxRecDepth 100000 in
theorem gc_X6_along_W (l : Launch) (G : gw_G) (a0 : Int32) (a1 : Int32) (σ : gw_S) (o : (Int32 × gw_S)) (h : f_X6_along_W a0 a1 σ = some o) : gw_M (fun sz => gw_QI G sz o) l yX6_along cX6_along 3 (some .int) { frames := 2, cells := 0, slots := 0, locals := 42 } G [.ref (G.2.1 26), .int a0, .int a1] σ := by
  refine gw_en (own := RX6) (lv := [(0, .ref (G.2.1 26)), (1, .int a0), (2, .int a1)]) (by decide +kernel) rfl (Nat.le_of_ble_eq_true rfl) rfl ?_
  intro p e s m below meth c ls X hl hP
  obtain ⟨hx, hb, hml, hown, hts, -, -, hT, hZ, -⟩ := id X
  have hS : va_S (gw_A G s.heap.size) s.heap s.heap [] := va_S.rf
  unfold f_X6_along_W at h
  refine lv_aload_n hx hb dX6_along_0 rfl (lv_at hl 0 rfl) ?_
  refine va_get (D := G.1) (ci := 8) (v := .ref (G.2.1 1)) (C := RX6) (T := TX6) (N := 7) hx hb hts gx_X6 hown hT.2.1 hP 26 rfl rfl 0 (by decide) (hts _ gv_137) (fun x9 h9 => u_same (hts _ gv_138) x9 h9) rfl dX6_along_1 ?_
  refine lv_iload_n hx hb dX6_along_4 rfl (lv_at hl 1 rfl) ?_
  obtain ⟨p1, gp1, h⟩ := Option.bind_eq_some_iff.mp h
  refine gw_ci (gw_rV (C := RX3) X hP hS (gc_X3_down l G a0 σ _ gp1) gk_X3_down gv_390 ⟨gv_271, gv_272⟩ (va_recv hT.2.1 hP (ci := 6) (q0 := 1) rfl rfl) rfl rfl (Nat.le_of_ble_eq_true rfl) hl.1 ⟨rfl, rfl⟩ ⟨Nat.le_of_ble_eq_true rfl, Nat.le_of_ble_eq_true rfl⟩ ⟨Nat.le_of_ble_eq_true rfl, Nat.le_of_ble_eq_true rfl⟩ dX6_along_5) hS (fun H locs hP hS => ?_)
  refine lv_iload_n hx hb dX6_along_8 rfl (lv_at hl 2 rfl) ?_
  refine lv_iand hx hb dX6_along_9 ?_
  exact gw_ri X hP hS h dX6_along_10
def f_X6_unless_W_L5 : Nat → Int32 → Int32 → Int32 → Int32 → gw_S → Option (Int32 × gw_S)
  | 0, _, _, _, _, _ => none
  | n + 1, v5_1, v5_2, v5_3, v5_4, σ => ((f_X3_size  σ).bind fun p1 => (if p1.1 ≤ v5_4 then (some (v5_3, p1.2)) else ((f_X3_down v5_4 p1.2).bind fun p2 => ((f_X3_down v5_1 p2.2).bind fun p3 => ((f_X8_isPart (p2.1 &&& p3.1) v5_2 p3.2).bind fun p4 => (if p4.1 = 0 then (f_X6_unless_W_L5 n v5_1 v5_2 v5_3 (v5_4 + (1 : Int32)) p4.2) else (f_X6_unless_W_L5 n v5_1 v5_2 (v5_3 ||| ((1 : Int32) <<< (v5_4 &&& 31))) (v5_4 + (1 : Int32)) p4.2)))))))
def f_X6_unless_W (a0 : Int32) (a1 : Int32) (σ : gw_S) : Option (Int32 × gw_S) := (f_X6_unless_W_L5 64 a0 a1 (0 : Int32) (0 : Int32) σ)
set_option maxHeartbeats 4000000 in
set_option maxRecDepth 100000 in
theorem gc_X6_unless_W (l : Launch) (G : gw_G) (a0 : Int32) (a1 : Int32) (σ : gw_S) (o : (Int32 × gw_S)) (h : f_X6_unless_W a0 a1 σ = some o) : gw_M (fun sz => gw_QI G sz o) l yX6_unless cX6_unless 5 (some .int) { frames := 2, cells := 0, slots := 0, locals := 42 } G [.ref (G.2.1 26), .int a0, .int a1] σ := by
  refine gw_en (own := RX6) (lv := [(0, .ref (G.2.1 26)), (1, .int a0), (2, .int a1)]) (by decide +kernel) rfl (Nat.le_of_ble_eq_true rfl) rfl ?_
  intro p e s m below meth c ls X hl hP
  obtain ⟨hx, hb, hml, hown, hts, -, -, hT, hZ, -⟩ := id X
  have hS : va_S (gw_A G s.heap.size) s.heap s.heap [] := va_S.rf
  have L5 : ∀ (n : Nat) (v5_1 : Int32) (v5_2 : Int32) (v5_3 : Int32) (v5_4 : Int32) (σ : gw_S) (H : Heap) (locs : List Loc) (ls : Array Slot), f_X6_unless_W_L5 n v5_1 v5_2 v5_3 v5_4 σ = some o → gw_P G σ H → va_S (gw_A G s.heap.size) s.heap H locs → lv_has ls 5 [(0, .ref (G.2.1 26)), (1, .int v5_1), (2, .int v5_2), (3, .int v5_3), (4, .int v5_4)] → W p l e { frames := 2, cells := 0, slots := 0, locals := 42 } s m [.ref (G.2.1 26), .int a0, .int a1].toArray below meth c H locs 0 0 (MQ below (gw_QI G s.heap.size o) [.ref (G.2.1 26), .int a0, .int a1].toArray s 0 0 (gw_A G s.heap.size)) (F0 m 5 ls []) := by
    intro n
    induction n with
    | zero =>
      intro v5_1 v5_2 v5_3 v5_4 σ H locs ls h
      exact absurd h (by rw [f_X6_unless_W_L5.eq_1]; exact fun h => nomatch h)
    | succ n ih =>
      intro v5_1 v5_2 v5_3 v5_4 σ H locs ls h hP hS hl
      rw [f_X6_unless_W_L5.eq_2] at h
      refine lv_iload hx hb dX6_unless_5 (lv_at hl 4 rfl) ?_
      refine lv_aload_n hx hb dX6_unless_7 rfl (lv_at hl 0 rfl) ?_
      refine va_get (D := G.1) (ci := 8) (v := .ref (G.2.1 1)) (C := RX6) (T := TX6) (N := 7) hx hb hts gx_X6 hown hT.2.1 hP 26 rfl rfl 0 (by decide) (hts _ gv_137) (fun x9 h9 => u_same (hts _ gv_138) x9 h9) rfl dX6_unless_8 ?_
      obtain ⟨p1, gp1, h⟩ := Option.bind_eq_some_iff.mp h
      refine gw_ci (gw_rV (C := RX3) X hP hS (gc_X3_size l G  σ _ gp1) gk_X3_size gv_389 ⟨gv_259, gv_260⟩ (va_recv hT.2.1 hP (ci := 6) (q0 := 1) rfl rfl) rfl rfl (Nat.le_of_ble_eq_true rfl) hl.1 ⟨rfl, rfl⟩ ⟨Nat.le_of_ble_eq_true rfl, Nat.le_of_ble_eq_true rfl⟩ ⟨Nat.le_of_ble_eq_true rfl, Nat.le_of_ble_eq_true rfl⟩ dX6_unless_11) hS (fun H locs hP hS => ?_)
      refine lv_icmp_ge (tgt := 55) hx hb dX6_unless_14 (by decide) (fun c => ?_) (fun c => ?_)
      · have h := (if_pos c).symm.trans h
        refine lv_iload_n hx hb dX6_unless_55 rfl (lv_at hl 3 rfl) ?_
        exact gw_ri X hP hS h dX6_unless_56
      · have h := (if_neg c).symm.trans h
        refine lv_aload_n hx hb dX6_unless_17 rfl (lv_at hl 0 rfl) ?_
        refine va_get (D := G.1) (ci := 8) (v := .ref (G.2.1 1)) (C := RX6) (T := TX6) (N := 7) hx hb hts gx_X6 hown hT.2.1 hP 26 rfl rfl 0 (by decide) (hts _ gv_137) (fun x9 h9 => u_same (hts _ gv_138) x9 h9) rfl dX6_unless_18 ?_
        refine lv_iload hx hb dX6_unless_21 (lv_at hl 4 rfl) ?_
        obtain ⟨p2, gp2, h⟩ := Option.bind_eq_some_iff.mp h
        refine gw_ci (gw_rV (C := RX3) X hP hS (gc_X3_down l G v5_4 p1.2 _ gp2) gk_X3_down gv_390 ⟨gv_271, gv_272⟩ (va_recv hT.2.1 hP (ci := 6) (q0 := 1) rfl rfl) rfl rfl (Nat.le_of_ble_eq_true rfl) hl.1 ⟨rfl, rfl⟩ ⟨Nat.le_of_ble_eq_true rfl, Nat.le_of_ble_eq_true rfl⟩ ⟨Nat.le_of_ble_eq_true rfl, Nat.le_of_ble_eq_true rfl⟩ dX6_unless_23) hS (fun H locs hP hS => ?_)
        refine lv_aload_n hx hb dX6_unless_26 rfl (lv_at hl 0 rfl) ?_
        refine va_get (D := G.1) (ci := 8) (v := .ref (G.2.1 1)) (C := RX6) (T := TX6) (N := 7) hx hb hts gx_X6 hown hT.2.1 hP 26 rfl rfl 0 (by decide) (hts _ gv_137) (fun x9 h9 => u_same (hts _ gv_138) x9 h9) rfl dX6_unless_27 ?_
        refine lv_iload_n hx hb dX6_unless_30 rfl (lv_at hl 1 rfl) ?_
        obtain ⟨p3, gp3, h⟩ := Option.bind_eq_some_iff.mp h
        refine gw_ci (gw_rV (C := RX3) X hP hS (gc_X3_down l G v5_1 p2.2 _ gp3) gk_X3_down gv_390 ⟨gv_271, gv_272⟩ (va_recv hT.2.1 hP (ci := 6) (q0 := 1) rfl rfl) rfl rfl (Nat.le_of_ble_eq_true rfl) hl.1 ⟨rfl, rfl⟩ ⟨Nat.le_of_ble_eq_true rfl, Nat.le_of_ble_eq_true rfl⟩ ⟨Nat.le_of_ble_eq_true rfl, Nat.le_of_ble_eq_true rfl⟩ dX6_unless_31) hS (fun H locs hP hS => ?_)
        refine lv_iand hx hb dX6_unless_34 ?_
        refine lv_iload_n hx hb dX6_unless_35 rfl (lv_at hl 2 rfl) ?_
        obtain ⟨p4, gp4, h⟩ := Option.bind_eq_some_iff.mp h
        refine gw_cz (gw_rN (host := "Genericwood") X hP hS (gc_X8_isPart l G (p2.1 &&& p3.1) v5_2 p3.2 _ gp4) gk_X8_isPart gv_391 gv_392 rfl rfl (Nat.le_of_ble_eq_true rfl) hl.1 ⟨rfl, rfl⟩ ⟨Nat.le_of_ble_eq_true rfl, Nat.le_of_ble_eq_true rfl⟩ ⟨Nat.le_of_ble_eq_true rfl, Nat.le_of_ble_eq_true rfl⟩ dX6_unless_36) hS (fun H locs hb_p4 hP hS => ?_)
        refine lv_if_eq (tgt := 49) hx hb dX6_unless_39 (by decide) (fun c => ?_) (fun c => ?_)
        · have h := (if_pos c).symm.trans h
          refine lv_iinc (v := (v5_4 + (1 : Int32))) (lv' := [(4, .int (v5_4 + (1 : Int32))), (0, .ref (G.2.1 26)), (1, .int v5_1), (2, .int v5_2), (3, .int v5_3)]) hx hb dX6_unless_49 hl (k := 4) rfl rfl (by decide) rfl (fun ls hl => ?_)
          refine lv_goto (tgt := 5) hx hb dX6_unless_52 (by decide) ?_
          exact ih v5_1 v5_2 v5_3 (v5_4 + (1 : Int32)) p4.2 _ _ _ h hP hS (lv_sub hl [1, 2, 3, 4, 0] rfl)
        · have h := (if_neg c).symm.trans h
          refine lv_iload_n hx hb dX6_unless_42 rfl (lv_at hl 3 rfl) ?_
          refine lv_iconst (v := 1) hx hb dX6_unless_43 (by decide) ?_
          refine lv_iload hx hb dX6_unless_44 (lv_at hl 4 rfl) ?_
          refine lv_ishl hx hb dX6_unless_46 ?_
          refine lv_ior hx hb dX6_unless_47 ?_
          refine lv_istore_n (lv' := [(3, .int (v5_3 ||| ((1 : Int32) <<< (v5_4 &&& 31)))), (0, .ref (G.2.1 26)), (1, .int v5_1), (2, .int v5_2), (4, .int v5_4)]) hx hb dX6_unless_48 rfl hl (by decide) rfl (fun ls hl => ?_)
          refine lv_iinc (v := (v5_4 + (1 : Int32))) (lv' := [(4, .int (v5_4 + (1 : Int32))), (3, .int (v5_3 ||| ((1 : Int32) <<< (v5_4 &&& 31)))), (0, .ref (G.2.1 26)), (1, .int v5_1), (2, .int v5_2)]) hx hb dX6_unless_49 hl (k := 4) rfl rfl (by decide) rfl (fun ls hl => ?_)
          refine lv_goto (tgt := 5) hx hb dX6_unless_52 (by decide) ?_
          exact ih v5_1 v5_2 (v5_3 ||| ((1 : Int32) <<< (v5_4 &&& 31))) (v5_4 + (1 : Int32)) p4.2 _ _ _ h hP hS (lv_sub hl [2, 3, 4, 1, 0] rfl)
  unfold f_X6_unless_W at h
  refine lv_iconst (v := 0) hx hb dX6_unless_0 (by decide) ?_
  refine lv_istore_n (lv' := [(3, .int (0 : Int32)), (0, .ref (G.2.1 26)), (1, .int a0), (2, .int a1)]) hx hb dX6_unless_1 rfl hl (by decide) rfl (fun ls hl => ?_)
  refine lv_iconst (v := 0) hx hb dX6_unless_2 (by decide) ?_
  refine lv_istore (lv' := [(4, .int (0 : Int32)), (3, .int (0 : Int32)), (0, .ref (G.2.1 26)), (1, .int a0), (2, .int a1)]) hx hb dX6_unless_3 hl (by decide) rfl (fun ls hl => ?_)
  exact L5 64 a0 a1 (0 : Int32) (0 : Int32) σ _ _ _ h hP hS (lv_sub hl [2, 3, 4, 1, 0] rfl)
def f_X6_settled_W (a0 : Int32) (σ : gw_S) : Option (Int32 × gw_S) := (some (a0, σ))
set_option maxHeartbeats 4000000 in
set_option maxRecDepth 100000 in
theorem gc_X6_settled_W (l : Launch) (G : gw_G) (a0 : Int32) (σ : gw_S) (o : (Int32 × gw_S)) (h : f_X6_settled_W a0 σ = some o) : gw_M (fun sz => gw_QI G sz o) l yX6_settled cX6_settled 2 (some .int) { frames := 0, cells := 0, slots := 0, locals := 0 } G [.ref (G.2.1 26), .int a0] σ := by
  refine gw_en (own := RX6) (lv := [(0, .ref (G.2.1 26)), (1, .int a0)]) (by decide +kernel) rfl (Nat.le_of_ble_eq_true rfl) rfl ?_
  intro p e s m below meth c ls X hl hP
  obtain ⟨hx, hb, hml, hown, hts, -, -, hT, hZ, -⟩ := id X
  have hS : va_S (gw_A G s.heap.size) s.heap s.heap [] := va_S.rf
  unfold f_X6_settled_W at h
  refine lv_iload_n hx hb dX6_settled_0 rfl (lv_at hl 1 rfl) ?_
  exact gw_ri X hP hS h dX6_settled_1
def f_X0_settled_F (a0 : Int32) (σ : gw_S) : Option (Int32 × gw_S) := ((f_X3_avoiding a0 σ).bind fun p1 => ((f_X3_avoiding p1.1 p1.2).bind fun p2 => (some (p2.1, p2.2))))
set_option maxHeartbeats 4000000 in
set_option maxRecDepth 100000 in
theorem gc_X0_settled_F (l : Launch) (G : gw_G) (a0 : Int32) (σ : gw_S) (o : (Int32 × gw_S)) (h : f_X0_settled_F a0 σ = some o) : gw_M (fun sz => gw_QI G sz o) l yX0_settled cX0_settled 2 (some .int) { frames := 2, cells := 0, slots := 0, locals := 44 } G [.ref (G.2.1 22), .int a0] σ := by
  refine gw_en (own := RX0) (lv := [(0, .ref (G.2.1 22)), (1, .int a0)]) (by decide +kernel) rfl (Nat.le_of_ble_eq_true rfl) rfl ?_
  intro p e s m below meth c ls X hl hP
  obtain ⟨hx, hb, hml, hown, hts, -, -, hT, hZ, -⟩ := id X
  have hS : va_S (gw_A G s.heap.size) s.heap s.heap [] := va_S.rf
  unfold f_X0_settled_F at h
  refine lv_aload_n hx hb dX0_settled_0 rfl (lv_at hl 0 rfl) ?_
  refine va_get (D := G.1) (ci := 3) (v := .ref (G.2.1 1)) (C := RX0) (T := TX0) (N := 7) hx hb hts gx_X0 hown hT.2.1 hP 22 rfl rfl 0 (by decide) (hts _ gv_141) (fun x9 h9 => u_same (hts _ gv_142) x9 h9) rfl dX0_settled_1 ?_
  refine lv_aload_n hx hb dX0_settled_4 rfl (lv_at hl 0 rfl) ?_
  refine va_get (D := G.1) (ci := 3) (v := .ref (G.2.1 1)) (C := RX0) (T := TX0) (N := 7) hx hb hts gx_X0 hown hT.2.1 hP 22 rfl rfl 0 (by decide) (hts _ gv_141) (fun x9 h9 => u_same (hts _ gv_142) x9 h9) rfl dX0_settled_5 ?_
  refine lv_iload_n hx hb dX0_settled_8 rfl (lv_at hl 1 rfl) ?_
  obtain ⟨p1, gp1, h⟩ := Option.bind_eq_some_iff.mp h
  refine gw_ci (gw_rV (C := RX3) X hP hS (gc_X3_avoiding l G a0 σ _ gp1) gk_X3_avoiding gv_425 ⟨gv_426, gv_427⟩ (va_recv hT.2.1 hP (ci := 6) (q0 := 1) rfl rfl) rfl rfl (Nat.le_of_ble_eq_true rfl) hl.1 ⟨rfl, rfl⟩ ⟨Nat.le_of_ble_eq_true rfl, Nat.le_of_ble_eq_true rfl⟩ ⟨Nat.le_of_ble_eq_true rfl, Nat.le_of_ble_eq_true rfl⟩ dX0_settled_9) hS (fun H locs hP hS => ?_)
  obtain ⟨p2, gp2, h⟩ := Option.bind_eq_some_iff.mp h
  refine gw_ci (gw_rV (C := RX3) X hP hS (gc_X3_avoiding l G p1.1 p1.2 _ gp2) gk_X3_avoiding gv_425 ⟨gv_426, gv_427⟩ (va_recv hT.2.1 hP (ci := 6) (q0 := 1) rfl rfl) rfl rfl (Nat.le_of_ble_eq_true rfl) hl.1 ⟨rfl, rfl⟩ ⟨Nat.le_of_ble_eq_true rfl, Nat.le_of_ble_eq_true rfl⟩ ⟨Nat.le_of_ble_eq_true rfl, Nat.le_of_ble_eq_true rfl⟩ dX0_settled_12) hS (fun H locs hP hS => ?_)
  exact gw_ri X hP hS h dX0_settled_15
end
