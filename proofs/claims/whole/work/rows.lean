section
-- ===== PART A: goes FIRST, ahead of the names: the tables' words, and 'selects' of the private methods out of them =====
/-- a private method of a class that the tables say can be made, by its rows of tables_1 -/
def lw_okq (q : MethodName × Nat) : Prop := (q.1.cls ≠ "java/lang/invoke/MethodHandle" ∧ q.1.cls ≠ "java/lang/invoke/VarHandle") ∧ Cond.instantiable q.1.cls q.2 ∈ tables_1 ∧ Cond.privateMethod q.1 ∈ tables_1 ∧ Cond.instanceMethod q.1 ∈ tables_1
theorem lw_p0 : lw_okq (⟨"java/lang/Throwable", "fillInStackTrace", "(I)Ljava/lang/Throwable;"⟩, 6) := ⟨⟨by decide +kernel, by decide +kernel⟩, List.mem_of_getElem? (i := 491) (by decide +kernel), List.mem_of_getElem? (i := 489) (by decide +kernel), List.mem_of_getElem? (i := 490) (by decide +kernel)⟩
theorem lw_p1 : lw_okq (⟨"FloodStones$History", "slotAt", "(I)LFloodStones$River;"⟩, 3) := ⟨⟨by decide +kernel, by decide +kernel⟩, List.mem_of_getElem? (i := 197) (by decide +kernel), List.mem_of_getElem? (i := 524) (by decide +kernel), List.mem_of_getElem? (i := 525) (by decide +kernel)⟩
theorem lw_p2 : lw_okq (⟨"FloodStones$Marks", "countLower", "(II)I"⟩, 6) := ⟨⟨by decide +kernel, by decide +kernel⟩, List.mem_of_getElem? (i := 144) (by decide +kernel), List.mem_of_getElem? (i := 919) (by decide +kernel), List.mem_of_getElem? (i := 920) (by decide +kernel)⟩
theorem lw_p3 : lw_okq (⟨"FloodStones$River", "isAhead", "(II[I)Z"⟩, 6) := ⟨⟨by decide +kernel, by decide +kernel⟩, List.mem_of_getElem? (i := 45) (by decide +kernel), List.mem_of_getElem? (i := 981) (by decide +kernel), List.mem_of_getElem? (i := 982) (by decide +kernel)⟩
theorem lw_p4 : lw_okq (⟨"FloodStones$Text", "readCommand", "(I)Z"⟩, 6) := ⟨⟨by decide +kernel, by decide +kernel⟩, List.mem_of_getElem? (i := 236) (by decide +kernel), List.mem_of_getElem? (i := 1029) (by decide +kernel), List.mem_of_getElem? (i := 1030) (by decide +kernel)⟩
theorem lw_p5 : lw_okq (⟨"FloodStones$Text", "signHere", "()C"⟩, 6) := ⟨⟨by decide +kernel, by decide +kernel⟩, List.mem_of_getElem? (i := 236) (by decide +kernel), List.mem_of_getElem? (i := 1033) (by decide +kernel), List.mem_of_getElem? (i := 1034) (by decide +kernel)⟩
theorem lw_p6 : lw_okq (⟨"FloodStones$Text", "readNumber", "(Z)I"⟩, 6) := ⟨⟨by decide +kernel, by decide +kernel⟩, List.mem_of_getElem? (i := 236) (by decide +kernel), List.mem_of_getElem? (i := 1101) (by decide +kernel), List.mem_of_getElem? (i := 1102) (by decide +kernel)⟩
theorem lw_p7 : lw_okq (⟨"FloodStones$Text", "readDigit", "()I"⟩, 6) := ⟨⟨by decide +kernel, by decide +kernel⟩, List.mem_of_getElem? (i := 236) (by decide +kernel), List.mem_of_getElem? (i := 1105) (by decide +kernel), List.mem_of_getElem? (i := 1106) (by decide +kernel)⟩
theorem lw_p8 : lw_okq (⟨"FloodStones", "isRefused", "(I)Z"⟩, 10) := ⟨⟨by decide +kernel, by decide +kernel⟩, List.mem_of_getElem? (i := 37) (by decide +kernel), List.mem_of_getElem? (i := 1114) (by decide +kernel), List.mem_of_getElem? (i := 1115) (by decide +kernel)⟩
theorem lw_p9 : lw_okq (⟨"FloodStones", "carryOut", "(I)V"⟩, 10) := ⟨⟨by decide +kernel, by decide +kernel⟩, List.mem_of_getElem? (i := 37) (by decide +kernel), List.mem_of_getElem? (i := 1128) (by decide +kernel), List.mem_of_getElem? (i := 1129) (by decide +kernel)⟩
theorem lw_p10 : lw_okq (⟨"FloodStonesModel", "refuses", "(II)I"⟩, 20) := ⟨⟨by decide +kernel, by decide +kernel⟩, List.mem_of_getElem? (i := 1491) (by decide +kernel), List.mem_of_getElem? (i := 1569) (by decide +kernel), List.mem_of_getElem? (i := 1570) (by decide +kernel)⟩
theorem lw_p11 : lw_okq (⟨"FloodStonesModel", "keeps", "([I)V"⟩, 20) := ⟨⟨by decide +kernel, by decide +kernel⟩, List.mem_of_getElem? (i := 1491) (by decide +kernel), List.mem_of_getElem? (i := 1573) (by decide +kernel), List.mem_of_getElem? (i := 1574) (by decide +kernel)⟩
theorem lw_p12 : lw_okq (⟨"FloodStonesModel", "lays", "(III)V"⟩, 20) := ⟨⟨by decide +kernel, by decide +kernel⟩, List.mem_of_getElem? (i := 1491) (by decide +kernel), List.mem_of_getElem? (i := 1580) (by decide +kernel), List.mem_of_getElem? (i := 1581) (by decide +kernel)⟩
theorem lw_p13 : lw_okq (⟨"FloodStonesModel", "ofYear", "(I)I"⟩, 20) := ⟨⟨by decide +kernel, by decide +kernel⟩, List.mem_of_getElem? (i := 1491) (by decide +kernel), List.mem_of_getElem? (i := 1588) (by decide +kernel), List.mem_of_getElem? (i := 1589) (by decide +kernel)⟩
theorem lw_p14 : lw_okq (⟨"FloodStonesModel", "ofFlood", "(II)I"⟩, 20) := ⟨⟨by decide +kernel, by decide +kernel⟩, List.mem_of_getElem? (i := 1491) (by decide +kernel), List.mem_of_getElem? (i := 1592) (by decide +kernel), List.mem_of_getElem? (i := 1593) (by decide +kernel)⟩
theorem lw_p15 : lw_okq (⟨"FloodStonesModel", "isStone", "(I)Z"⟩, 20) := ⟨⟨by decide +kernel, by decide +kernel⟩, List.mem_of_getElem? (i := 1491) (by decide +kernel), List.mem_of_getElem? (i := 1611) (by decide +kernel), List.mem_of_getElem? (i := 1612) (by decide +kernel)⟩
def lw_privs_1 : List (MethodName × Nat) := [(⟨"java/lang/Throwable", "fillInStackTrace", "(I)Ljava/lang/Throwable;"⟩, 6), (⟨"FloodStones$History", "slotAt", "(I)LFloodStones$River;"⟩, 3), (⟨"FloodStones$Marks", "countLower", "(II)I"⟩, 6), (⟨"FloodStones$River", "isAhead", "(II[I)Z"⟩, 6), (⟨"FloodStones$Text", "readCommand", "(I)Z"⟩, 6), (⟨"FloodStones$Text", "signHere", "()C"⟩, 6), (⟨"FloodStones$Text", "readNumber", "(Z)I"⟩, 6), (⟨"FloodStones$Text", "readDigit", "()I"⟩, 6), (⟨"FloodStones", "isRefused", "(I)Z"⟩, 10), (⟨"FloodStones", "carryOut", "(I)V"⟩, 10), (⟨"FloodStonesModel", "refuses", "(II)I"⟩, 20), (⟨"FloodStonesModel", "keeps", "([I)V"⟩, 20), (⟨"FloodStonesModel", "lays", "(III)V"⟩, 20), (⟨"FloodStonesModel", "ofYear", "(I)I"⟩, 20), (⟨"FloodStonesModel", "ofFlood", "(II)I"⟩, 20), (⟨"FloodStonesModel", "isStone", "(I)Z"⟩, 20)]
theorem lw_r1 : ∀ q ∈ lw_privs_1, lw_okq q := List.forall_mem_cons.mpr ⟨lw_p0, List.forall_mem_cons.mpr ⟨lw_p1, List.forall_mem_cons.mpr ⟨lw_p2, List.forall_mem_cons.mpr ⟨lw_p3, List.forall_mem_cons.mpr ⟨lw_p4, List.forall_mem_cons.mpr ⟨lw_p5, List.forall_mem_cons.mpr ⟨lw_p6, List.forall_mem_cons.mpr ⟨lw_p7, List.forall_mem_cons.mpr ⟨lw_p8, List.forall_mem_cons.mpr ⟨lw_p9, List.forall_mem_cons.mpr ⟨lw_p10, List.forall_mem_cons.mpr ⟨lw_p11, List.forall_mem_cons.mpr ⟨lw_p12, List.forall_mem_cons.mpr ⟨lw_p13, List.forall_mem_cons.mpr ⟨lw_p14, List.forall_mem_cons.mpr ⟨lw_p15, fun _ h => absurd h List.not_mem_nil⟩⟩⟩⟩⟩⟩⟩⟩⟩⟩⟩⟩⟩⟩⟩⟩
theorem lw_p16 : lw_okq (⟨"FloodStonesModel", "isFlood", "(I)Z"⟩, 20) := ⟨⟨by decide +kernel, by decide +kernel⟩, List.mem_of_getElem? (i := 1491) (by decide +kernel), List.mem_of_getElem? (i := 1615) (by decide +kernel), List.mem_of_getElem? (i := 1616) (by decide +kernel)⟩
theorem lw_p17 : lw_okq (⟨"FloodStonesModel", "isChisel", "(I)Z"⟩, 20) := ⟨⟨by decide +kernel, by decide +kernel⟩, List.mem_of_getElem? (i := 1491) (by decide +kernel), List.mem_of_getElem? (i := 1619) (by decide +kernel), List.mem_of_getElem? (i := 1620) (by decide +kernel)⟩
theorem lw_p18 : lw_okq (⟨"FloodStonesModel", "placeOf", "(II)I"⟩, 20) := ⟨⟨by decide +kernel, by decide +kernel⟩, List.mem_of_getElem? (i := 1491) (by decide +kernel), List.mem_of_getElem? (i := 1623) (by decide +kernel), List.mem_of_getElem? (i := 1624) (by decide +kernel)⟩
theorem lw_p19 : lw_okq (⟨"FloodStonesModel", "of", "(II)I"⟩, 20) := ⟨⟨by decide +kernel, by decide +kernel⟩, List.mem_of_getElem? (i := 1491) (by decide +kernel), List.mem_of_getElem? (i := 1627) (by decide +kernel), List.mem_of_getElem? (i := 1628) (by decide +kernel)⟩
theorem lw_p20 : lw_okq (⟨"FloodStonesModel", "ofMark", "(III)I"⟩, 20) := ⟨⟨by decide +kernel, by decide +kernel⟩, List.mem_of_getElem? (i := 1491) (by decide +kernel), List.mem_of_getElem? (i := 1631) (by decide +kernel), List.mem_of_getElem? (i := 1632) (by decide +kernel)⟩
theorem lw_p21 : lw_okq (⟨"FloodStonesModel", "heightNow", "(II)I"⟩, 20) := ⟨⟨by decide +kernel, by decide +kernel⟩, List.mem_of_getElem? (i := 1491) (by decide +kernel), List.mem_of_getElem? (i := 1635) (by decide +kernel), List.mem_of_getElem? (i := 1636) (by decide +kernel)⟩
theorem lw_p22 : lw_okq (⟨"FloodStonesModel", "levelOf", "(II)I"⟩, 20) := ⟨⟨by decide +kernel, by decide +kernel⟩, List.mem_of_getElem? (i := 1491) (by decide +kernel), List.mem_of_getElem? (i := 1639) (by decide +kernel), List.mem_of_getElem? (i := 1640) (by decide +kernel)⟩
theorem lw_p23 : lw_okq (⟨"FloodStonesModel", "shiftOf", "(I)I"⟩, 20) := ⟨⟨by decide +kernel, by decide +kernel⟩, List.mem_of_getElem? (i := 1491) (by decide +kernel), List.mem_of_getElem? (i := 1643) (by decide +kernel), List.mem_of_getElem? (i := 1644) (by decide +kernel)⟩
theorem lw_p24 : lw_okq (⟨"FloodStonesModel", "placeAt", "(II)I"⟩, 20) := ⟨⟨by decide +kernel, by decide +kernel⟩, List.mem_of_getElem? (i := 1491) (by decide +kernel), List.mem_of_getElem? (i := 1647) (by decide +kernel), List.mem_of_getElem? (i := 1648) (by decide +kernel)⟩
theorem lw_p25 : lw_okq (⟨"FloodStonesModel", "drops", "(II)V"⟩, 20) := ⟨⟨by decide +kernel, by decide +kernel⟩, List.mem_of_getElem? (i := 1491) (by decide +kernel), List.mem_of_getElem? (i := 1655) (by decide +kernel), List.mem_of_getElem? (i := 1656) (by decide +kernel)⟩
theorem lw_p26 : lw_okq (⟨"FloodStonesModel", "yearGoes", "()I"⟩, 20) := ⟨⟨by decide +kernel, by decide +kernel⟩, List.mem_of_getElem? (i := 1491) (by decide +kernel), List.mem_of_getElem? (i := 1675) (by decide +kernel), List.mem_of_getElem? (i := 1676) (by decide +kernel)⟩
theorem lw_p27 : lw_okq (⟨"FloodStonesModel", "weathers", "(I)I"⟩, 20) := ⟨⟨by decide +kernel, by decide +kernel⟩, List.mem_of_getElem? (i := 1491) (by decide +kernel), List.mem_of_getElem? (i := 1685) (by decide +kernel), List.mem_of_getElem? (i := 1686) (by decide +kernel)⟩
theorem lw_p28 : lw_okq (⟨"FloodStonesModel", "fails", "(I)Z"⟩, 20) := ⟨⟨by decide +kernel, by decide +kernel⟩, List.mem_of_getElem? (i := 1491) (by decide +kernel), List.mem_of_getElem? (i := 1693) (by decide +kernel), List.mem_of_getElem? (i := 1694) (by decide +kernel)⟩
theorem lw_p29 : lw_okq (⟨"FloodStonesModel", "doubtsOn", "(I)I"⟩, 20) := ⟨⟨by decide +kernel, by decide +kernel⟩, List.mem_of_getElem? (i := 1491) (by decide +kernel), List.mem_of_getElem? (i := 1697) (by decide +kernel), List.mem_of_getElem? (i := 1698) (by decide +kernel)⟩
theorem lw_p30 : lw_okq (⟨"FloodStonesModel", "doubtsOf", "(II)I"⟩, 20) := ⟨⟨by decide +kernel, by decide +kernel⟩, List.mem_of_getElem? (i := 1491) (by decide +kernel), List.mem_of_getElem? (i := 1701) (by decide +kernel), List.mem_of_getElem? (i := 1702) (by decide +kernel)⟩
theorem lw_p31 : lw_okq (⟨"FloodStonesModel", "areInDoubt", "(III)Z"⟩, 20) := ⟨⟨by decide +kernel, by decide +kernel⟩, List.mem_of_getElem? (i := 1491) (by decide +kernel), List.mem_of_getElem? (i := 1705) (by decide +kernel), List.mem_of_getElem? (i := 1706) (by decide +kernel)⟩
def lw_privs_2 : List (MethodName × Nat) := [(⟨"FloodStonesModel", "isFlood", "(I)Z"⟩, 20), (⟨"FloodStonesModel", "isChisel", "(I)Z"⟩, 20), (⟨"FloodStonesModel", "placeOf", "(II)I"⟩, 20), (⟨"FloodStonesModel", "of", "(II)I"⟩, 20), (⟨"FloodStonesModel", "ofMark", "(III)I"⟩, 20), (⟨"FloodStonesModel", "heightNow", "(II)I"⟩, 20), (⟨"FloodStonesModel", "levelOf", "(II)I"⟩, 20), (⟨"FloodStonesModel", "shiftOf", "(I)I"⟩, 20), (⟨"FloodStonesModel", "placeAt", "(II)I"⟩, 20), (⟨"FloodStonesModel", "drops", "(II)V"⟩, 20), (⟨"FloodStonesModel", "yearGoes", "()I"⟩, 20), (⟨"FloodStonesModel", "weathers", "(I)I"⟩, 20), (⟨"FloodStonesModel", "fails", "(I)Z"⟩, 20), (⟨"FloodStonesModel", "doubtsOn", "(I)I"⟩, 20), (⟨"FloodStonesModel", "doubtsOf", "(II)I"⟩, 20), (⟨"FloodStonesModel", "areInDoubt", "(III)Z"⟩, 20)]
theorem lw_r2 : ∀ q ∈ lw_privs_2, lw_okq q := List.forall_mem_cons.mpr ⟨lw_p16, List.forall_mem_cons.mpr ⟨lw_p17, List.forall_mem_cons.mpr ⟨lw_p18, List.forall_mem_cons.mpr ⟨lw_p19, List.forall_mem_cons.mpr ⟨lw_p20, List.forall_mem_cons.mpr ⟨lw_p21, List.forall_mem_cons.mpr ⟨lw_p22, List.forall_mem_cons.mpr ⟨lw_p23, List.forall_mem_cons.mpr ⟨lw_p24, List.forall_mem_cons.mpr ⟨lw_p25, List.forall_mem_cons.mpr ⟨lw_p26, List.forall_mem_cons.mpr ⟨lw_p27, List.forall_mem_cons.mpr ⟨lw_p28, List.forall_mem_cons.mpr ⟨lw_p29, List.forall_mem_cons.mpr ⟨lw_p30, List.forall_mem_cons.mpr ⟨lw_p31, fun _ h => absurd h List.not_mem_nil⟩⟩⟩⟩⟩⟩⟩⟩⟩⟩⟩⟩⟩⟩⟩⟩
theorem lw_p32 : lw_okq (⟨"FloodStonesModel", "trueOf", "(II)I"⟩, 20) := ⟨⟨by decide +kernel, by decide +kernel⟩, List.mem_of_getElem? (i := 1491) (by decide +kernel), List.mem_of_getElem? (i := 1709) (by decide +kernel), List.mem_of_getElem? (i := 1710) (by decide +kernel)⟩
theorem lw_p33 : lw_okq (⟨"FloodStonesModel", "marksFor", "(I)I"⟩, 20) := ⟨⟨by decide +kernel, by decide +kernel⟩, List.mem_of_getElem? (i := 1491) (by decide +kernel), List.mem_of_getElem? (i := 1717) (by decide +kernel), List.mem_of_getElem? (i := 1718) (by decide +kernel)⟩
theorem lw_p34 : lw_okq (⟨"FloodStonesModel", "doubtsFor", "(I)I"⟩, 20) := ⟨⟨by decide +kernel, by decide +kernel⟩, List.mem_of_getElem? (i := 1491) (by decide +kernel), List.mem_of_getElem? (i := 1721) (by decide +kernel), List.mem_of_getElem? (i := 1722) (by decide +kernel)⟩
theorem lw_p35 : lw_okq (⟨"FloodStonesModel", "credit", "(I)I"⟩, 20) := ⟨⟨by decide +kernel, by decide +kernel⟩, List.mem_of_getElem? (i := 1491) (by decide +kernel), List.mem_of_getElem? (i := 1725) (by decide +kernel), List.mem_of_getElem? (i := 1726) (by decide +kernel)⟩
theorem lw_p36 : lw_okq (⟨"FloodStonesModel", "goneIn", "(I)I"⟩, 20) := ⟨⟨by decide +kernel, by decide +kernel⟩, List.mem_of_getElem? (i := 1491) (by decide +kernel), List.mem_of_getElem? (i := 1745) (by decide +kernel), List.mem_of_getElem? (i := 1746) (by decide +kernel)⟩
theorem lw_p37 : lw_okq (⟨"FloodStonesModel", "nth", "(II)I"⟩, 20) := ⟨⟨by decide +kernel, by decide +kernel⟩, List.mem_of_getElem? (i := 1491) (by decide +kernel), List.mem_of_getElem? (i := 1753) (by decide +kernel), List.mem_of_getElem? (i := 1754) (by decide +kernel)⟩
theorem lw_p38 : lw_okq (⟨"FloodStonesModel", "below", "(II)I"⟩, 20) := ⟨⟨by decide +kernel, by decide +kernel⟩, List.mem_of_getElem? (i := 1491) (by decide +kernel), List.mem_of_getElem? (i := 1757) (by decide +kernel), List.mem_of_getElem? (i := 1758) (by decide +kernel)⟩
theorem lw_p39 : lw_okq (⟨"FloodStonesModel", "rankOf", "(I)I"⟩, 20) := ⟨⟨by decide +kernel, by decide +kernel⟩, List.mem_of_getElem? (i := 1491) (by decide +kernel), List.mem_of_getElem? (i := 1785) (by decide +kernel), List.mem_of_getElem? (i := 1786) (by decide +kernel)⟩
theorem lw_p40 : lw_okq (⟨"FloodStonesModel", "isAhead", "(II)Z"⟩, 20) := ⟨⟨by decide +kernel, by decide +kernel⟩, List.mem_of_getElem? (i := 1491) (by decide +kernel), List.mem_of_getElem? (i := 1789) (by decide +kernel), List.mem_of_getElem? (i := 1790) (by decide +kernel)⟩
theorem lw_p41 : lw_okq (⟨"FloodStonesModel", "isText", "()Z"⟩, 20) := ⟨⟨by decide +kernel, by decide +kernel⟩, List.mem_of_getElem? (i := 1491) (by decide +kernel), List.mem_of_getElem? (i := 1809) (by decide +kernel), List.mem_of_getElem? (i := 1810) (by decide +kernel)⟩
theorem lw_p42 : lw_okq (⟨"FloodStonesModel", "commandHere", "()Z"⟩, 20) := ⟨⟨by decide +kernel, by decide +kernel⟩, List.mem_of_getElem? (i := 1491) (by decide +kernel), List.mem_of_getElem? (i := 1813) (by decide +kernel), List.mem_of_getElem? (i := 1814) (by decide +kernel)⟩
theorem lw_p43 : lw_okq (⟨"FloodStonesModel", "here", "()I"⟩, 20) := ⟨⟨by decide +kernel, by decide +kernel⟩, List.mem_of_getElem? (i := 1491) (by decide +kernel), List.mem_of_getElem? (i := 1817) (by decide +kernel), List.mem_of_getElem? (i := 1818) (by decide +kernel)⟩
theorem lw_p44 : lw_okq (⟨"FloodStonesModel", "skips", "(I)Z"⟩, 20) := ⟨⟨by decide +kernel, by decide +kernel⟩, List.mem_of_getElem? (i := 1491) (by decide +kernel), List.mem_of_getElem? (i := 1821) (by decide +kernel), List.mem_of_getElem? (i := 1822) (by decide +kernel)⟩
theorem lw_p45 : lw_okq (⟨"FloodStonesModel", "number", "(II)Z"⟩, 20) := ⟨⟨by decide +kernel, by decide +kernel⟩, List.mem_of_getElem? (i := 1491) (by decide +kernel), List.mem_of_getElem? (i := 1825) (by decide +kernel), List.mem_of_getElem? (i := 1826) (by decide +kernel)⟩
theorem lw_p46 : lw_okq (⟨"FloodStonesModel", "carries", "(I)I"⟩, 20) := ⟨⟨by decide +kernel, by decide +kernel⟩, List.mem_of_getElem? (i := 1491) (by decide +kernel), List.mem_of_getElem? (i := 1829) (by decide +kernel), List.mem_of_getElem? (i := 1830) (by decide +kernel)⟩
theorem lw_p47 : lw_okq (⟨"FloodStonesModel", "writesNumber", "(I)V"⟩, 20) := ⟨⟨by decide +kernel, by decide +kernel⟩, List.mem_of_getElem? (i := 1491) (by decide +kernel), List.mem_of_getElem? (i := 1851) (by decide +kernel), List.mem_of_getElem? (i := 1852) (by decide +kernel)⟩
def lw_privs_3 : List (MethodName × Nat) := [(⟨"FloodStonesModel", "trueOf", "(II)I"⟩, 20), (⟨"FloodStonesModel", "marksFor", "(I)I"⟩, 20), (⟨"FloodStonesModel", "doubtsFor", "(I)I"⟩, 20), (⟨"FloodStonesModel", "credit", "(I)I"⟩, 20), (⟨"FloodStonesModel", "goneIn", "(I)I"⟩, 20), (⟨"FloodStonesModel", "nth", "(II)I"⟩, 20), (⟨"FloodStonesModel", "below", "(II)I"⟩, 20), (⟨"FloodStonesModel", "rankOf", "(I)I"⟩, 20), (⟨"FloodStonesModel", "isAhead", "(II)Z"⟩, 20), (⟨"FloodStonesModel", "isText", "()Z"⟩, 20), (⟨"FloodStonesModel", "commandHere", "()Z"⟩, 20), (⟨"FloodStonesModel", "here", "()I"⟩, 20), (⟨"FloodStonesModel", "skips", "(I)Z"⟩, 20), (⟨"FloodStonesModel", "number", "(II)Z"⟩, 20), (⟨"FloodStonesModel", "carries", "(I)I"⟩, 20), (⟨"FloodStonesModel", "writesNumber", "(I)V"⟩, 20)]
theorem lw_r3 : ∀ q ∈ lw_privs_3, lw_okq q := List.forall_mem_cons.mpr ⟨lw_p32, List.forall_mem_cons.mpr ⟨lw_p33, List.forall_mem_cons.mpr ⟨lw_p34, List.forall_mem_cons.mpr ⟨lw_p35, List.forall_mem_cons.mpr ⟨lw_p36, List.forall_mem_cons.mpr ⟨lw_p37, List.forall_mem_cons.mpr ⟨lw_p38, List.forall_mem_cons.mpr ⟨lw_p39, List.forall_mem_cons.mpr ⟨lw_p40, List.forall_mem_cons.mpr ⟨lw_p41, List.forall_mem_cons.mpr ⟨lw_p42, List.forall_mem_cons.mpr ⟨lw_p43, List.forall_mem_cons.mpr ⟨lw_p44, List.forall_mem_cons.mpr ⟨lw_p45, List.forall_mem_cons.mpr ⟨lw_p46, List.forall_mem_cons.mpr ⟨lw_p47, fun _ h => absurd h List.not_mem_nil⟩⟩⟩⟩⟩⟩⟩⟩⟩⟩⟩⟩⟩⟩⟩⟩
theorem lw_p48 : lw_okq (⟨"FloodStonesModel", "writes", "(I)V"⟩, 20) := ⟨⟨by decide +kernel, by decide +kernel⟩, List.mem_of_getElem? (i := 1491) (by decide +kernel), List.mem_of_getElem? (i := 1855) (by decide +kernel), List.mem_of_getElem? (i := 1856) (by decide +kernel)⟩
theorem lw_p49 : lw_okq (⟨"FloodStonesModel", "marks", "()I"⟩, 20) := ⟨⟨by decide +kernel, by decide +kernel⟩, List.mem_of_getElem? (i := 1491) (by decide +kernel), List.mem_of_getElem? (i := 1875) (by decide +kernel), List.mem_of_getElem? (i := 1876) (by decide +kernel)⟩
theorem lw_p50 : lw_okq (⟨"FloodStonesModel", "doubtful", "()I"⟩, 20) := ⟨⟨by decide +kernel, by decide +kernel⟩, List.mem_of_getElem? (i := 1491) (by decide +kernel), List.mem_of_getElem? (i := 1879) (by decide +kernel), List.mem_of_getElem? (i := 1880) (by decide +kernel)⟩
def lw_privs_4 : List (MethodName × Nat) := [(⟨"FloodStonesModel", "writes", "(I)V"⟩, 20), (⟨"FloodStonesModel", "marks", "()I"⟩, 20), (⟨"FloodStonesModel", "doubtful", "()I"⟩, 20)]
theorem lw_r4 : ∀ q ∈ lw_privs_4, lw_okq q := List.forall_mem_cons.mpr ⟨lw_p48, List.forall_mem_cons.mpr ⟨lw_p49, List.forall_mem_cons.mpr ⟨lw_p50, fun _ h => absurd h List.not_mem_nil⟩⟩⟩
def lw_privs : List (MethodName × Nat) := lw_privs_1 ++ (lw_privs_2 ++ (lw_privs_3 ++ (lw_privs_4)))
def lw_tbl : List Cond := k2_sels lw_privs ++ tables_1
theorem lw_privs_ok : ∀ q ∈ lw_privs, lw_okq q := by
  show ∀ q ∈ lw_privs_1 ++ (lw_privs_2 ++ (lw_privs_3 ++ (lw_privs_4))), lw_okq q
  exact List.forall_mem_append.mpr ⟨lw_r1, List.forall_mem_append.mpr ⟨lw_r2, List.forall_mem_append.mpr ⟨lw_r3, lw_r4⟩⟩⟩
/-- the streams that the claim lets the run draw from -/
abbrev lw_cs : List Choice := [Jvm.Choice.named "NaN.bits"]
theorem lw_bits : nanBits ∈ lw_cs := by first | decide | exact List.mem_cons_self | simp [lw_cs, nanBits]
-- ===== end of PART A; then your names; then what follows =====
/-- the words that hold in every method's start -/
def lw_good : List Cond := lw_tbl.filter goodWord
theorem lw_good_good : GoodIn lw_tbl lw_good := fun w h => ⟨(List.mem_filter.mp h).1, good_of_word (List.mem_filter.mp h).2⟩
theorem lw_good_self : GoodIn lw_good lw_good := fun w h => ⟨h, good_of_word (List.mem_filter.mp h).2⟩
theorem zin {w : Cond} (i : Nat) (h : tables_1[i]? = some w) (hg : goodWord w = true) : w ∈ lw_good :=
  List.mem_filter.mpr ⟨List.mem_append_right _ (List.mem_of_getElem? h), hg⟩
theorem zsel {w : Cond} (i : Nat) (h : (k2_sels lw_privs)[i]? = some w) (hg : goodWord w = true) : w ∈ lw_good :=
  List.mem_filter.mpr ⟨List.mem_append_left _ (List.mem_of_getElem? h), hg⟩
theorem zall {ws : List Cond} (h : ws.all (fun w => decide (w ∈ lw_tbl) && goodWord w) = true) : ∀ w ∈ ws, w ∈ lw_good := by
  intro w hw
  have h1 := List.all_eq_true.mp h w hw
  simp only [Bool.and_eq_true, decide_eq_true_eq] at h1
  exact List.mem_filter.mpr h1
end
section
/-! ===== BEGIN words of one list among another's, by their places ===== -/
theorem goodIn_r {big : List Cond} (ws : List Cond) (ps : List Nat) (hp : ws = ps.filterMap (fun i => big[i]?)) (h : ws.all goodWord = true) : GoodIn big ws := by
  intro w hw
  have h1 := List.all_eq_true.mp h w hw
  rw [hp] at hw
  obtain ⟨i, -, hi⟩ := List.mem_filterMap.mp hw
  have hm : w ∈ big := by first | exact List.mem_of_getElem? hi | exact List.getElem?_mem hi
  exact ⟨hm, good_of_word h1⟩
theorem goodIn_app {big a b : List Cond} (ha : GoodIn big a) (hb : GoodIn big b) : GoodIn big (a ++ b) := fun w h => (List.mem_append.mp h).elim (ha w) (hb w)
theorem goodIn_ca {big a b : List Cond} {c : Cond} (ha : GoodIn big (c :: a)) (hb : GoodIn big b) : GoodIn big (c :: (a ++ b)) := fun w h => (List.mem_cons.mp h).elim (fun e => ha w (List.mem_cons.mpr (Or.inl e))) (fun h => (List.mem_append.mp h).elim (fun h => ha w (List.mem_cons.mpr (Or.inr h))) (hb w))
theorem goodIn_sub {big ws : List Cond} (hm : ∀ w ∈ ws, w ∈ big) (h : ws.all goodWord = true) : GoodIn big ws := fun w hw => ⟨hm w hw, good_of_word (List.all_eq_true.mp h w hw)⟩
/-! ===== END ===== -/

/-! ===== BEGIN exceptions that leave a method, and their catching by the caller (launches without stack traces) ===== -/
section VXA
/-! The laws vx_back, vx_callV, vx_callS, vx_callSW, vx_throw0, vx_throwS follow proofs of the library, with one case more: JvmDerived/Free/Laws.lean (Back.of_free), Shelf42/LK1.lean (callV, callS), Shelf/KitTraced.lean (throwNew0V, throwNewS). -/
/-- where a method has thrown q: the class by its name, the cell, what was written, the world -/
def vx_T (XC : String → State → State → Prop) (st : State) (q : Addr) (t : State) (mc ms : Nat) (free : Addr → Prop) : Prop :=
  ∃ (E : String) (ce : Cell) (L : List Loc), XC E st t ∧ t.heap[q]? = some ce ∧ ce.vm = .none ∧ st.vm.findClass E = some ce.cls ∧ st.WarmedH t.vm ∧ st.sameButNew ({ t with vm := st.vm } : State) L mc ms ∧ ∀ z ∈ L, free z.base
def vx_Q (Qc : Array Value → State → Outcome → State → Prop) (XC : String → State → State → Prop) (mc ms : Nat) (free : Addr → Prop) : Array Value → State → Outcome → State → Prop := fun a st o t =>
  (Qc a st o t ∧ ∃ L, FrameEnd st o t L mc ms ∧ ∀ q ∈ L, free q.base) ∨ ∃ q, o = .threw q ∧ vx_T XC st q t mc ms free
/-- a callee that returns or throws -/
def vx_Met (l : Launch) (y : MethodName) (ws : List Cond) (rm : Room) (Pc : Array Value → State → Prop) (Qc : Array Value → State → Outcome → State → Prop) (XC : String → State → State → Prop) (mc ms : Nat) (free : Addr → Prop) : Prop :=
  MetFree l y (headSpec ws rm) Pc (fun _ _ _ _ _ => True) (vx_Q Qc XC mc ms free)
def vx_Post (XC : String → State → State → Prop) (mc ms : Nat) (free : Addr → Prop) : Pt → Array Value → Addr → Pt → Prop := fun A a q B =>
  ∃ (g : JFrame) (mk : MethodId) (t : State) (L : List Loc) (E : String) (ce : Cell), B.U.heap = t.heap ∧ B.U.vm = t.vm ∧ XC E (A.U.calling g mk a) t ∧ t.heap[q]? = some ce ∧ ce.vm = .none ∧ A.U.vm.findClass E = some ce.cls ∧ B.locs = A.locs ++ L ∧ (∀ z ∈ L, free z.base) ∧ B.cells = A.cells + mc ∧ B.slots = A.slots + ms
def vx_Back (l : Launch) (R : Room) (p : Program) (e : Env) (below : List Frame) (s : State) (sargs : Array Value) (y : MethodName) (len W9 : Nat)
    (Pre : Pt → Array Value → Prop) (Post : Pt → Array Value → Option Value → Pt → Prop) (PostX : Pt → Array Value → Addr → Pt → Prop) : Prop :=
  ∀ (m : MethodId) (meth : Method) (c : Code) (A : Pt) (g : JFrame) (ig : Instr) (mk : MethodId) (a : Array Value),
    Stand p l e R s m sargs below meth c A.U A.locs A.cells A.slots → g.method = m → g.locals.size = c.maxLocals → decode c.code g.pc = .ok (ig, len) →
    2 * g.monitorRoom + (g.stack.map fun v => v.category).sum ≤ W9 → A.U.methodNamed? y = some mk → Pre A a →
    (∃ (v : Option Value) (B : Pt), Stand p l e R s m sargs below meth c B.U B.locs B.cells B.slots ∧ Post A a v B ∧
      Steps p.tables e below (doInvoke e (A.U.setTop g) [] mk a).1 (B.U.setTop { g with pc := g.pc + len, stack := v.toList ++ g.stack })) ∨
    (∃ (q : Addr) (B : Pt), Stand p l e R s m sargs below meth c B.U B.locs B.cells B.slots ∧ PostX A a q B ∧
      Steps p.tables e below (doInvoke e (A.U.setTop g) [] mk a).1 ((B.U.setTop g).pushFrame (.throwing q)))
section Payer
variable {l : Launch} {R : Room} {p : Program} {e : Env} {below : List Frame} {s : State} {sargs : Array Value} {y : MethodName} {len W9 : Nat}
theorem vx_back {ws : List Cond} {rm : Room} {Pc : Array Value → State → Prop} {Qc : Array Value → State → Outcome → State → Prop} {XC : String → State → State → Prop} {mc ms : Nat} {free : Addr → Prop} {bytes : ByteArray} {maxL : Nat} {ret : Option FieldType}
    (hM : vx_Met l y ws rm Pc Qc XC mc ms free) (hblind : FrameBlind Pc) (hrc : rm.cells = mc) (hrs : rm.slots = ms)
    (hframes : rm.frames + 1 ≤ R.frames) (hlocals : W9 + (maxL + 11) + rm.locals ≤ R.locals)
    (hws : ∀ w ∈ ws, ∀ a' U, s.WarmedH U.vm → w.before a' U = true) (hcode : Cond.code y bytes maxL ret ∈ ws) (hinit : ∀ a' U, s.WarmedH U.vm → (Cond.initialized y.cls).before a' U = true) :
    vx_Back l R p e below s sargs y len W9 (PreOf R mc ms Pc) (PostOf Qc mc ms free) (vx_Post XC mc ms free) := by
  intro m meth c A g ig mk a X hg hsize hdg hW hn hp
  have h1 : (headSpec ws rm).pre.before a A.U = true := atoms_intro fun w hw => hws w hw _ _ X.warmed
  have h2 : (Cond.code y bytes maxL ret).before a A.U = true := hws _ hcode _ _ X.warmed
  have h3 : (Cond.initialized y.cls).before a A.U = true := hinit _ _ X.warmed
  have h4 : A.cells + (headSpec ws rm).room.cells ≤ R.cells := by rw [show (headSpec ws rm).room.cells = mc from hrc]; exact hp.1
  have h5 : A.slots + (headSpec ws rm).room.slots ≤ R.slots := by rw [show (headSpec ws rm).room.slots = ms from hrs]; exact hp.2.1
  have hPc : Pc a (A.U.calling g mk a) := hblind _ _ _ _ hp.2.2
  obtain ⟨U, Ls, c0, s0⟩ := A
  dsimp only [Pt.U, Pt.locs, Pt.cells, Pt.slots] at h1 h2 h3 h4 h5 X hn hPc ⊢
  obtain ⟨methY, cY, hmY, hcY, -, hlY, -, -, -, -⟩ := Cond.code_spec hn h2
  obtain ⟨kY, hkY, -⟩ := className_of_methodNamed hn
  have hinitY : kY.init = .initialized := Cond.initialized_spec (findClass_of_methodNamed hn) hkY h3
  have h : At U g.method c below := by rw [hg]; exact X.here
  have hlocals9 : W9 + (maxL + 11) + (headSpec ws rm).room.locals ≤ R.locals := hlocals
  have happ : (headSpec ws rm).appliesLoose y e.platform (U.calling g mk a) = true :=
    Spec.appliesLoose_calling (g := g) h hdg hn hkY hinitY
      (X.room_calling (g := g) (R' := (headSpec ws rm).room) hsize hmY hcY hframes (by rw [hlY]; omega) h4 h5) h1
  obtain ⟨mid, hmid⟩ := h.above
  have hfr : (U.setTop g).frames = (.java g :: mid) ++ below := by rw [State.frames_setTop' g h.top, hmid]; rfl
  obtain ⟨o, s₂, hsteps, -, hend, hq⟩ := Steps.callFree hM p X.admits X.cas X.clock (acts := []) hfr happ hPc trivial
  have hq' : vx_Q Qc XC mc ms free a (U.calling g mk a) o s₂ := hq
  rw [State.frames_setTop' g h.top] at hend
  obtain ⟨g₀, hg0⟩ := Option.isSome_iff_exists.mp h.top
  obtain ⟨r, hr⟩ := State.topJava?_eq_some.mp hg0
  have hr' : (({ U with heap := s₂.heap, slotsUsed := s₂.slotsUsed } : State).setVm s₂.vm).frames = .java g₀ :: r := hr
  rcases hq' with ⟨hqc, L, hfe, hL⟩ | ⟨q, rfl, E, ce, L, hx, hce, hcv, hcl, hW₂, hsm, hL⟩
  · obtain ⟨⟨v, rfl⟩, hW₂, e2, q2, q3, q4, q5, q6⟩ := id hfe
    have e3 : s₂ = ({ (U.calling g mk a).setFrames s₂.frames with heap := s₂.heap, slotsUsed := s₂.slotsUsed } : State).setVm s₂.vm := by
      have : s₂ = ({ s₂ with vm := (U.calling g mk a).vm } : State).setVm s₂.vm := rfl
      rw [e2] at this
      exact this
    obtain ⟨c₂, i₂, len₂, hc₂, hd₂, hf₂⟩ := hend
    have hW' : U.WarmedH s₂.vm := hW₂
    have hcc : c₂ = c := by
      have h1 : s₂.code? g.method = U.code? g.method := by
        rw [State.code?_eq, State.code?_eq, hW'.alike.method?]
      exact Option.some.inj (hc₂.symm.trans (h1.trans h.code))
    subst hcc
    have hlen : len₂ = len := by rw [hdg] at hd₂; cases hd₂; rfl
    subst hlen
    have hs₂ : s₂ = (({ U with heap := s₂.heap, slotsUsed := s₂.slotsUsed } : State).setVm s₂.vm).setTop { g with pc := g.pc + len₂, stack := v.toList ++ g.stack } := by
      refine e3.trans ?_
      rw [hf₂, State.calling_eq h.top, State.setFrames_setFrames, State.setTop_of_frames _ hr', hr]
      rfl
    have hsame : U.sameButNew ({ U with heap := s₂.heap, slotsUsed := s₂.slotsUsed } : State) L mc ms := by
      refine ⟨?_, q2, q3, q4, q5, q6⟩
      obtain ⟨t, ht, -⟩ := State.frames_cons hr
      show ({ U with heap := s₂.heap, slotsUsed := s₂.slotsUsed } : State) = { U.setFrames U.frames with heap := s₂.heap, slotsUsed := s₂.slotsUsed }
      rw [State.setFrames_self ht]
    subst hg
    refine Or.inl ⟨v, ⟨(({ U with heap := s₂.heap, slotsUsed := s₂.slotsUsed } : State).setVm s₂.vm), Ls ++ L, c0 + mc, s0 + ms⟩,
      ⟨X.admits, X.cas, X.clock, X.frames, X.room, X.hears, X.method, X.code, (X.here.setHeapUsed s₂.heap s₂.slotsUsed).setVm hW'.alike, X.tail, State.WarmedH.trans X.warmed hW', X.limits, X.bytes, X.same.trans (hsame.setVm s.vm)⟩,
      ⟨g, mk, s₂, L, rfl, rfl, hqc, rfl, hL, rfl, rfl⟩, ?_⟩
    show Steps p.tables e below _ ((({ U with heap := s₂.heap, slotsUsed := s₂.slotsUsed } : State).setVm s₂.vm).setTop { g with pc := g.pc + len₂, stack := v.toList ++ g.stack })
    rw [← hs₂]
    exact hsteps
  · obtain ⟨e2, q2, q3, q4, q5, q6⟩ := id hsm
    have e3 : s₂ = ({ (U.calling g mk a).setFrames s₂.frames with heap := s₂.heap, slotsUsed := s₂.slotsUsed } : State).setVm s₂.vm := by
      have : s₂ = ({ s₂ with vm := (U.calling g mk a).vm } : State).setVm s₂.vm := rfl
      rw [e2] at this
      exact this
    have hf₂ : s₂.frames = .throwing q :: .java g :: U.frames.tail := hend
    have hW' : U.WarmedH s₂.vm := hW₂
    have hs₂ : s₂ = ((({ U with heap := s₂.heap, slotsUsed := s₂.slotsUsed } : State).setVm s₂.vm).setTop g).pushFrame (.throwing q) := by
      refine e3.trans ?_
      rw [hf₂, State.calling_eq h.top, State.setFrames_setFrames, State.pushFrame, State.frames_setTop _ hr', State.setTop_of_frames _ hr', State.setFrames_setFrames, hr]
      rfl
    have hsame : U.sameButNew ({ U with heap := s₂.heap, slotsUsed := s₂.slotsUsed } : State) L mc ms := by
      refine ⟨?_, q2, q3, q4, q5, q6⟩
      obtain ⟨t, ht, -⟩ := State.frames_cons hr
      show ({ U with heap := s₂.heap, slotsUsed := s₂.slotsUsed } : State) = { U.setFrames U.frames with heap := s₂.heap, slotsUsed := s₂.slotsUsed }
      rw [State.setFrames_self ht]
    subst hg
    refine Or.inr ⟨q, ⟨(({ U with heap := s₂.heap, slotsUsed := s₂.slotsUsed } : State).setVm s₂.vm), Ls ++ L, c0 + mc, s0 + ms⟩,
      ⟨X.admits, X.cas, X.clock, X.frames, X.room, X.hears, X.method, X.code, (X.here.setHeapUsed s₂.heap s₂.slotsUsed).setVm hW'.alike, X.tail, State.WarmedH.trans X.warmed hW', X.limits, X.bytes, X.same.trans (hsame.setVm s.vm)⟩,
      ⟨g, mk, s₂, L, E, ce, rfl, rfl, hx, hce, hcv, hcl, rfl, hL, rfl, rfl⟩, ?_⟩
    show Steps p.tables e below _ (((({ U with heap := s₂.heap, slotsUsed := s₂.slotsUsed } : State).setVm s₂.vm).setTop g).pushFrame (.throwing q))
    rw [← hs₂]
    exact hsteps
end Payer
section Calls
variable {p : Program} {l : Launch} {e : Env} {R : Room} {s : State} {m : MethodId} {args : Array Value} {below : List Frame} {meth : Method} {c : Code} {T : State} {locs : List Loc} {cells slots : Nat}
theorem vx_callV (X : Stand p l e R s m args below meth c T locs cells slots) (hexec : p.tables.exec = Jvm.exec) {own C : String} {index : Nat} {y : MethodName} {bytes : ByteArray} {maxL : Nat} {ret : Option FieldType}
    (hown : s.vm.findClass own = some m.cls) (hlink : (Cond.methodLink own index y).before args s = true) (hinst : (Cond.instanceMethod y).before args s = true) (hsel : (Cond.selects C y y).before args s = true)
    (hcode : (Cond.code y bytes maxL ret).before args s = true) (hy : y.cls ≠ "java/lang/invoke/MethodHandle" ∧ y.cls ≠ "java/lang/invoke/VarHandle")
    {W9 : Nat} {Pre : Pt → Array Value → Prop} {Post : Pt → Array Value → Option Value → Pt → Prop} {PostX : Pt → Array Value → Addr → Pt → Prop} (hK : vx_Back l R p e below s args y 3 W9 Pre Post PostX)
    {b : Addr} {cellB : Cell} (hcell : T.heap[b]? = some cellB) (hobj : cellB.vm.isStatics = false) (hcls : s.vm.findClass C = some cellB.cls)
    {g : JFrame} (hg : g.method = m) (hsize : g.locals.size = c.maxLocals) {argsL rest : List Value} (hlen : ∀ sig, parseMethodDescriptor y.desc = some sig → argsL.length = sig.parameters.length)
    (hstack : g.stack = argsL.reverse ++ .ref b :: rest) (hW : 2 * g.monitorRoom + (rest.map fun v => v.category).sum ≤ W9) (hdg : decode c.code g.pc = .ok (.invokevirtual index, 3))
    (hpre : ∀ vm₁, s.WarmedH vm₁ → Pre ⟨T.setVm vm₁, locs, cells, slots⟩ (Value.ref b :: argsL).toArray) :
    (∃ (v : Option Value) (vm₁ : Vm) (B : Pt), s.WarmedH vm₁ ∧ Stand p l e R s m args below meth c B.U B.locs B.cells B.slots ∧ Post ⟨T.setVm vm₁, locs, cells, slots⟩ (Value.ref b :: argsL).toArray v B ∧
      ∀ target, Steps p.tables e below (B.U.setTop { g with pc := g.pc + 3, stack := v.toList ++ rest }) target → Steps p.tables e below (T.setTop g) target) ∨
    (∃ (q : Addr) (vm₁ : Vm) (B : Pt), s.WarmedH vm₁ ∧ Stand p l e R s m args below meth c B.U B.locs B.cells B.slots ∧ PostX ⟨T.setVm vm₁, locs, cells, slots⟩ (Value.ref b :: argsL).toArray q B ∧
      Steps p.tables e below (T.setTop g) ((B.U.setTop { g with stack := rest }).pushFrame (.throwing q))) := by
  obtain ⟨mk, methM, hnamed, hmethM, hstM, habM⟩ := Cond.instanceMethod_spec hinst
  obtain ⟨methM', cM, hmethM', -, -, -, -, -, -, hsigM⟩ := Cond.code_spec hnamed hcode
  cases hmethM.symm.trans hmethM'
  obtain ⟨c2, r2, m2, q1, q2, q3, q4, kP, hkP, hkPi⟩ := Cond.selects_spec hsel
  cases hcls.symm.trans q1
  cases (State.methodFound?_of_named hnamed hy).symm.trans q2
  cases hnamed.symm.trans q3
  have hselP : selectMethod e.platform s.vm cellB.cls mk = .method mk := by rw [Launch.admits_selectMethod X.admits]; exact q4
  obtain ⟨vm₁, X₁, hstep₁⟩ := X.invokevirtual hexec hown hlink hnamed hmethM hstM hkP hkPi hy (a := b) (cell := cellB) hcell
    (fun z h => by rw [h] at hobj; cases hobj) hselP hmethM habM hkP hkPi (g := g) hg (argsL := argsL) (rest := rest) (hlen _ hsigM) hstack hdg
  rcases hK m meth c ⟨T.setVm vm₁, locs, cells, slots⟩ { g with stack := rest } (.invokevirtual index) mk (Value.ref b :: argsL).toArray X₁ hg hsize hdg hW (X₁.named hnamed) (hpre vm₁ X₁.warmed) with ⟨v, B, X', hpost, hsteps⟩ | ⟨q, B, X', hpost, hsteps⟩
  · exact Or.inl ⟨v, vm₁, B, X₁.warmed, X', hpost, fun target h => hstep₁ _ fun acts => by rw [doInvoke_state]; exact hsteps.trans h⟩
  · exact Or.inr ⟨q, vm₁, B, X₁.warmed, X', hpost, hstep₁ _ fun acts => by rw [doInvoke_state]; exact hsteps⟩
theorem vx_callS (X : Stand p l e R s m args below meth c T locs cells slots) (hexec : p.tables.exec = Jvm.exec) {own : String} {index : Nat} {y : MethodName} {bytes : ByteArray} {maxL : Nat} {ret : Option FieldType}
    (hown : s.vm.findClass own = some m.cls) (hlink : (Cond.methodLink own index y).before args s = true) (hstat : (Cond.static y).before args s = true) (hinit : (Cond.initialized y.cls).before args s = true)
    (hcode : (Cond.code y bytes maxL ret).before args s = true) (hy : y.cls ≠ "java/lang/invoke/MethodHandle" ∧ y.cls ≠ "java/lang/invoke/VarHandle")
    {W9 : Nat} {Pre : Pt → Array Value → Prop} {Post : Pt → Array Value → Option Value → Pt → Prop} {PostX : Pt → Array Value → Addr → Pt → Prop} (hK : vx_Back l R p e below s args y 3 W9 Pre Post PostX)
    {g : JFrame} (hg : g.method = m) (hsize : g.locals.size = c.maxLocals) {argsL rest : List Value} (hlen : ∀ sig, parseMethodDescriptor y.desc = some sig → argsL.length = sig.parameters.length)
    (hstack : g.stack = argsL.reverse ++ rest) (hW : 2 * g.monitorRoom + (rest.map fun v => v.category).sum ≤ W9) (hdg : decode c.code g.pc = .ok (.invokestatic index, 3))
    (hpre : ∀ vm₁, s.WarmedH vm₁ → Pre ⟨T.setVm vm₁, locs, cells, slots⟩ argsL.toArray) :
    (∃ (v : Option Value) (vm₁ : Vm) (B : Pt), s.WarmedH vm₁ ∧ Stand p l e R s m args below meth c B.U B.locs B.cells B.slots ∧ Post ⟨T.setVm vm₁, locs, cells, slots⟩ argsL.toArray v B ∧
      ∀ target, Steps p.tables e below (B.U.setTop { g with pc := g.pc + 3, stack := v.toList ++ rest }) target → Steps p.tables e below (T.setTop g) target) ∨
    (∃ (q : Addr) (vm₁ : Vm) (B : Pt), s.WarmedH vm₁ ∧ Stand p l e R s m args below meth c B.U B.locs B.cells B.slots ∧ PostX ⟨T.setVm vm₁, locs, cells, slots⟩ argsL.toArray q B ∧
      Steps p.tables e below (T.setTop g) ((B.U.setTop { g with stack := rest }).pushFrame (.throwing q))) := by
  obtain ⟨mk, hnamed⟩ := Cond.code_named hcode
  obtain ⟨methM, cM, hmethM, -, -, -, -, -, -, hsigM⟩ := Cond.code_spec hnamed hcode
  have hstatic : methM.isStatic = true := Cond.static_spec hnamed hmethM hstat
  obtain ⟨kP, hkP, -⟩ := className_of_methodNamed hnamed
  have hinitP : kP.init = .initialized := Cond.initialized_spec (findClass_of_methodNamed hnamed) hkP hinit
  obtain ⟨vm₁, X₁, hstep₁⟩ := X.invokestatic hexec hown hlink hnamed hmethM hstatic hkP hinitP hy (g := g) hg (argsL := argsL) (rest := rest) (hlen _ hsigM) hstack hdg
  rcases hK m meth c ⟨T.setVm vm₁, locs, cells, slots⟩ { g with stack := rest } (.invokestatic index) mk argsL.toArray X₁ hg hsize hdg hW (X₁.named hnamed) (hpre vm₁ X₁.warmed) with ⟨v, B, X', hpost, hsteps⟩ | ⟨q, B, X', hpost, hsteps⟩
  · exact Or.inl ⟨v, vm₁, B, X₁.warmed, X', hpost, fun target h => hstep₁ _ fun acts => by rw [doInvoke_state]; exact hsteps.trans h⟩
  · exact Or.inr ⟨q, vm₁, B, X₁.warmed, X', hpost, hstep₁ _ fun acts => by rw [doInvoke_state]; exact hsteps⟩
end Calls
theorem vx_cls {s : State} {T : State} {vm₁ : Vm} {E : String} {k : ClassId} (hW : s.WarmedH vm₁) (h : (T.setVm vm₁).vm.findClass E = some k) : s.vm.findClass E = some k := by
  have h1 : vm₁.findClass E = some k := h
  rw [hW.alike.findClass] at h1
  exact h1
/-- the method's frame g, with q thrown over it -/
def vx_W (p : Program) (l : Launch) (e : Env) (R : Room) (s : State) (m : MethodId) (args : Array Value) (below : List Frame) (meth : Method) (c : Code) (H : Heap) (locs : List Loc) (cells slots : Nat) (Q : State → Prop) (g : JFrame) (q : Addr) : Prop :=
  ∀ T : State, T.heap = H → Stand p l e R s m args below meth c T locs cells slots → ∃ t, Steps p.tables e below ((T.setTop g).pushFrame (.throwing q)) t ∧ Q t
def vx_Run (p : Program) (l : Launch) (e : Env) (R : Room) (s : State) (m : MethodId) (args : Array Value) (below : List Frame) (meth : Method) (c : Code) (H : Heap) (locs : List Loc) (cells slots mc ms : Nat) (g : JFrame) (rest : List Value) (Qa : State → Outcome → State → Prop) (XC : String → State → State → Prop) (free : Addr → Prop) : Prop :=
  ∀ T : State, T.heap = H → Stand p l e R s m args below meth c T locs cells slots →
    (∃ (v : Option Value) (st₀ t T' : State) (L : List Loc), st₀.heap = H ∧ Stand p l e R s m args below meth c T' (locs ++ L) (cells + mc) (slots + ms) ∧ (∀ q ∈ L, free q.base) ∧ T'.heap = t.heap ∧ T'.vm = t.vm ∧ Qa st₀ (.returned v) t ∧
      Goes p e below T g T' { g with pc := g.pc + 3, stack := v.toList ++ rest }) ∨
    (∃ (q : Addr) (st₀ t T' : State) (L : List Loc) (E : String) (ce : Cell), st₀.heap = H ∧ Stand p l e R s m args below meth c T' (locs ++ L) (cells + mc) (slots + ms) ∧ (∀ z ∈ L, free z.base) ∧ T'.heap = t.heap ∧ T'.vm = t.vm ∧ XC E st₀ t ∧ t.heap[q]? = some ce ∧ ce.vm = .none ∧ s.vm.findClass E = some ce.cls ∧
      Steps p.tables e below (T.setTop g) ((T'.setTop { g with stack := rest }).pushFrame (.throwing q)))
def vx_X {S : Type} (px : S → Prop) (B : String → S → State → Prop) (A : Nat → Prop) : String → State → State → Prop := fun E st t => ∃ u : S, px u ∧ B E u t ∧ va_F A st t
section Runs
variable {p : Program} {l : Launch} {e : Env} {R : Room} {s : State} {m : MethodId} {args : Array Value} {below : List Frame} {meth : Method} {c : Code} {H : Heap} {locs : List Loc} {cells slots : Nat}
variable {y : MethodName} {bytes cc : ByteArray} {maxL nL mc ms n index : Nat} {ret : Option FieldType} {ws : List Cond} {rm : Room} {Pc : Array Value → State → Prop} {Qc : Array Value → State → Outcome → State → Prop} {XC : String → State → State → Prop} {free : Addr → Prop} {Ts : List Cond} {own C : String} {b : Addr} {As rest : List Value} {g : JFrame}
theorem vx_callBack (cb : CallB R s args own index y bytes maxL ret ws rm mc ms n) (hM : vx_Met l y ws rm Pc Qc XC mc ms free) (hbl : FrameBlind Pc) : vx_Back l R p e below s args y 3 8 (PreOf R mc ms Pc) (PostOf Qc mc ms free) (vx_Post XC mc ms free) := by
  obtain ⟨hrc, hrs, hfr, hlo, hws, hcw, -, hini, -⟩ := cb
  exact vx_back (bytes := bytes) (maxL := maxL) (ret := ret) hM hbl hrc hrs hfr hlo hws hcw (fun a' U hW => word_at hW (Or.inl (by first | rfl | simp [Cond.onTables, Cond.keeps, Cond.steady])) hini)
theorem vx_runV (S : CallFix p m c cc nL s args Ts own) (hM : vx_Met l y ws rm Pc Qc XC mc ms free) (cw : CallW R s args own C index y bytes maxL ret ws rm mc ms n) (hp : PreV s H C b Pc As)
    (hg : g.method = m) (hn : As.length = n) (hsize : g.locals.size = nL) (hstack : g.stack = As.reverse ++ .ref b :: rest) (hW : 2 * g.monitorRoom + (rest.map fun v => v.category).sum ≤ 8) (hdg : decode cc g.pc = .ok (.invokevirtual index, 3)) (hf : cells + mc ≤ R.cells ∧ slots + ms ≤ R.slots) :
    vx_Run p l e R s m args below meth c H locs cells slots mc ms g rest (Qc (Value.ref b :: As).toArray) XC free := by
  have hK : vx_Back l R p e below s args y 3 8 (PreOf R mc ms Pc) (PostOf Qc mc ms free) (vx_Post XC mc ms free) := vx_callBack cw.1 hM hp.1
  obtain ⟨⟨-, -, -, -, -, -, hcode, -, hy, hlen, hl⟩, hin, hse⟩ := cw
  obtain ⟨hx, hb, hml, ho, -⟩ := S
  obtain ⟨-, ⟨cellB, hcB, hoB, hclB⟩, hPc⟩ := hp
  intro T hT X
  rcases vx_callV X hx (C := C) (bytes := bytes) (maxL := maxL) (ret := ret) ho hl hin hse hcode hy hK (by rw [hT]; exact hcB) hoB hclB hg (hsize.trans hml.symm) (argsL := As) (rest := rest) (fun sig h => hn.trans (hlen sig h)) hstack hW (by rw [hb]; exact hdg)
    (fun vm₁ hW₁ => ⟨hf.1, hf.2, hPc (T.setVm vm₁) hT hW₁⟩) with ⟨v, vm₁, ⟨U', l2, c2, s2⟩, hW₁, X', ⟨g', mk, t, L, e1, e2, hq, h1, hL, h2, h3⟩, st⟩ | ⟨q, vm₁, ⟨U', l2, c2, s2⟩, hW₁, X', ⟨g', mk, t, L, E, ce, e1, e2, hq, hce, hcv, hcl, h1, hL, h2, h3⟩, st⟩
  · dsimp only [Pt.U, Pt.locs, Pt.cells, Pt.slots] at X' e1 e2 h1 h2 h3 st
    subst h1; subst h2; subst h3
    exact Or.inl ⟨v, (T.setVm vm₁).calling g' mk (Value.ref b :: As).toArray, t, U', L, hT, X', hL, e1, e2, hq, st⟩
  · dsimp only [Pt.U, Pt.locs, Pt.cells, Pt.slots] at X' e1 e2 h1 h2 h3 st hcl
    subst h1; subst h2; subst h3
    exact Or.inr ⟨q, (T.setVm vm₁).calling g' mk (Value.ref b :: As).toArray, t, U', L, E, ce, hT, X', hL, e1, e2, hq, hce, hcv, vx_cls hW₁ hcl, st⟩
theorem vx_runS (S : CallFix p m c cc nL s args Ts own) (hM : vx_Met l y ws rm Pc Qc XC mc ms free) (cw : CallB R s args own index y bytes maxL ret ws rm mc ms n ∧ (Cond.static y).before args s = true) (hp : PreS s H Pc As)
    (hg : g.method = m) (hn : As.length = n) (hsize : g.locals.size = nL) (hstack : g.stack = As.reverse ++ rest) (hW : 2 * g.monitorRoom + (rest.map fun v => v.category).sum ≤ 8) (hdg : decode cc g.pc = .ok (.invokestatic index, 3)) (hf : cells + mc ≤ R.cells ∧ slots + ms ≤ R.slots) :
    vx_Run p l e R s m args below meth c H locs cells slots mc ms g rest (Qc As.toArray) XC free := by
  have hK : vx_Back l R p e below s args y 3 8 (PreOf R mc ms Pc) (PostOf Qc mc ms free) (vx_Post XC mc ms free) := vx_callBack cw.1 hM hp.1
  obtain ⟨⟨-, -, -, -, -, -, hcode, hini, hy, hlen, hl⟩, hstt⟩ := cw
  obtain ⟨hx, hb, hml, ho, -⟩ := S
  intro T hT X
  rcases vx_callS X hx (bytes := bytes) (maxL := maxL) (ret := ret) ho hl hstt hini hcode hy hK hg (hsize.trans hml.symm) (argsL := As) (rest := rest) (fun sig h => hn.trans (hlen sig h)) hstack hW (by rw [hb]; exact hdg)
    (fun vm₁ hW₁ => ⟨hf.1, hf.2, hp.2 (T.setVm vm₁) hT hW₁⟩) with ⟨v, vm₁, ⟨U', l2, c2, s2⟩, hW₁, X', ⟨g', mk, t, L, e1, e2, hq, h1, hL, h2, h3⟩, st⟩ | ⟨q, vm₁, ⟨U', l2, c2, s2⟩, hW₁, X', ⟨g', mk, t, L, E, ce, e1, e2, hq, hce, hcv, hcl, h1, hL, h2, h3⟩, st⟩
  · dsimp only [Pt.U, Pt.locs, Pt.cells, Pt.slots] at X' e1 e2 h1 h2 h3 st
    subst h1; subst h2; subst h3
    exact Or.inl ⟨v, (T.setVm vm₁).calling g' mk As.toArray, t, U', L, hT, X', hL, e1, e2, hq, st⟩
  · dsimp only [Pt.U, Pt.locs, Pt.cells, Pt.slots] at X' e1 e2 h1 h2 h3 st hcl
    subst h1; subst h2; subst h3
    exact Or.inr ⟨q, (T.setVm vm₁).calling g' mk As.toArray, t, U', L, E, ce, hT, X', hL, e1, e2, hq, hce, hcv, vx_cls hW₁ hcl, st⟩
end Runs
section Rows
variable {p : Program} {l : Launch} {e : Env} {R : Room} {s : State} {m : MethodId} {args : Array Value} {below : List Frame} {meth : Method} {c : Code} {H : Heap} {locs : List Loc} {cells slots : Nat} {Q : State → Prop}
variable {mc ms : Nat} {free : Addr → Prop} {A0 A1 : Nat → Prop} {H0 : Heap} {a : Array Value} {pc : Nat} {ls : Array Slot} {st0 rest : List Value}
theorem vx_keep {st₀ t T' : State} {L : List Loc} (h0 : st₀.heap = H) (e1 : T'.heap = t.heap) (hS : va_S A0 H0 H locs) (hA : ∀ q, q < H.size → A1 q → A0 q) (hf : ∀ q, free q → A0 q) (hL : ∀ q ∈ L, free q.base) (hF : va_F A1 st₀ t) :
    H.size ≤ T'.heap.size ∧ (∀ q : Nat, q < H.size → ¬ A1 q → T'.heap[q]? = H[q]?) ∧ va_S A0 H0 T'.heap (locs ++ L) := by
  obtain ⟨hz, hk⟩ := hF
  rw [h0] at hz hk
  exact ⟨by rw [e1]; exact hz, fun q h1 h2 => by rw [e1]; exact hk q h1 h2,
    ⟨Nat.le_trans hS.1 (by rw [e1]; exact hz), fun q h1 h2 => by rw [e1, hk q (Nat.lt_of_lt_of_le h1 hS.1) (fun z => h2 (hA q (Nat.lt_of_lt_of_le h1 hS.1) z))]; exact hS.2.1 q h1 h2, fun q hq => by
      rcases List.mem_append.mp hq with h | h
      · exact hS.2.2 q h
      · exact hf _ (hL q h)⟩⟩
theorem vx_calli {S SX : Type} {post : Int32 → S → Prop} {px : SX → Prop} {B : S → State → Prop} {BX : String → SX → State → Prop} {AX : Nat → Prop} (hr : vx_Run p l e R s m args below meth c H locs cells slots mc ms (F0 m pc ls st0) rest (va_Qi post B A1 a) (vx_X px BX AX) free) (hS : va_S A0 H0 H locs) (hA : ∀ q, q < H.size → A1 q → A0 q) (hf : ∀ q, free q → A0 q) (hAX : ∀ q, q < H.size → AX q → A0 q)
    (kx : ∀ (E : String) (ce : Cell) (q9 : Addr) (u : SX) (t : State) (H1 : Heap) (locs1 : List Loc), t.heap = H1 → s.vm.Alike t.vm → px u → BX E u t → H.size ≤ H1.size → (∀ q : Nat, q < H.size → ¬ AX q → H1[q]? = H[q]?) → va_S A0 H0 H1 locs1 → H1[q9]? = some ce → ce.vm = .none → s.vm.findClass E = some ce.cls → vx_W p l e R s m args below meth c H1 locs1 (cells + mc) (slots + ms) Q (F0 m pc ls rest) q9)
    (kk : ∀ (r : Int32) (u : S) (t : State) (H1 : Heap) (locs1 : List Loc), t.heap = H1 → s.vm.Alike t.vm → post r u → B u t → H.size ≤ H1.size → (∀ q : Nat, q < H.size → ¬ A1 q → H1[q]? = H[q]?) → va_S A0 H0 H1 locs1 → W p l e R s m args below meth c H1 locs1 (cells + mc) (slots + ms) Q (F0 m (pc + 3) ls (.int r :: rest))) : W p l e R s m args below meth c H locs cells slots Q (F0 m pc ls st0) := by
  intro T hT X
  rcases hr T hT X with ⟨v, st₀, t, T', L, h0, X', hL, e1, e2, ⟨⟨r, u, hv, hp, hb⟩, hF⟩, st⟩ | ⟨q, st₀, t, T', L, E, ce, h0, X', hL, e1, e2, ⟨u, hp, hb, hF⟩, hce, hcv, hcl, st⟩
  · cases hv
    obtain ⟨k1, k2, k3⟩ := vx_keep h0 e1 hS hA hf hL hF
    obtain ⟨t2, a1, b1⟩ := kk r u t T'.heap (locs ++ L) e1.symm (by rw [← e2]; exact X'.warmed.alike) hp hb k1 k2 k3 T' rfl X'
    exact ⟨t2, st t2 a1, b1⟩
  · obtain ⟨k1, k2, k3⟩ := vx_keep h0 e1 hS hAX hf hL hF
    obtain ⟨t2, a1, b1⟩ := kx E ce q u t T'.heap (locs ++ L) e1.symm (by rw [← e2]; exact X'.warmed.alike) hp hb k1 k2 k3 (by rw [e1]; exact hce) hcv hcl T' rfl X'
    exact ⟨t2, st.trans a1, b1⟩
theorem vx_calll {S SX : Type} {post : Int64 → S → Prop} {px : SX → Prop} {B : S → State → Prop} {BX : String → SX → State → Prop} {AX : Nat → Prop} (hr : vx_Run p l e R s m args below meth c H locs cells slots mc ms (F0 m pc ls st0) rest (va_Ql post B A1 a) (vx_X px BX AX) free) (hS : va_S A0 H0 H locs) (hA : ∀ q, q < H.size → A1 q → A0 q) (hf : ∀ q, free q → A0 q) (hAX : ∀ q, q < H.size → AX q → A0 q)
    (kx : ∀ (E : String) (ce : Cell) (q9 : Addr) (u : SX) (t : State) (H1 : Heap) (locs1 : List Loc), t.heap = H1 → s.vm.Alike t.vm → px u → BX E u t → H.size ≤ H1.size → (∀ q : Nat, q < H.size → ¬ AX q → H1[q]? = H[q]?) → va_S A0 H0 H1 locs1 → H1[q9]? = some ce → ce.vm = .none → s.vm.findClass E = some ce.cls → vx_W p l e R s m args below meth c H1 locs1 (cells + mc) (slots + ms) Q (F0 m pc ls rest) q9)
    (kk : ∀ (r : Int64) (u : S) (t : State) (H1 : Heap) (locs1 : List Loc), t.heap = H1 → s.vm.Alike t.vm → post r u → B u t → H.size ≤ H1.size → (∀ q : Nat, q < H.size → ¬ A1 q → H1[q]? = H[q]?) → va_S A0 H0 H1 locs1 → W p l e R s m args below meth c H1 locs1 (cells + mc) (slots + ms) Q (F0 m (pc + 3) ls (.long r :: rest))) : W p l e R s m args below meth c H locs cells slots Q (F0 m pc ls st0) := by
  intro T hT X
  rcases hr T hT X with ⟨v, st₀, t, T', L, h0, X', hL, e1, e2, ⟨⟨r, u, hv, hp, hb⟩, hF⟩, st⟩ | ⟨q, st₀, t, T', L, E, ce, h0, X', hL, e1, e2, ⟨u, hp, hb, hF⟩, hce, hcv, hcl, st⟩
  · cases hv
    obtain ⟨k1, k2, k3⟩ := vx_keep h0 e1 hS hA hf hL hF
    obtain ⟨t2, a1, b1⟩ := kk r u t T'.heap (locs ++ L) e1.symm (by rw [← e2]; exact X'.warmed.alike) hp hb k1 k2 k3 T' rfl X'
    exact ⟨t2, st t2 a1, b1⟩
  · obtain ⟨k1, k2, k3⟩ := vx_keep h0 e1 hS hAX hf hL hF
    obtain ⟨t2, a1, b1⟩ := kx E ce q u t T'.heap (locs ++ L) e1.symm (by rw [← e2]; exact X'.warmed.alike) hp hb k1 k2 k3 (by rw [e1]; exact hce) hcv hcl T' rfl X'
    exact ⟨t2, st.trans a1, b1⟩
theorem vx_callf {S SX : Type} {post : UInt32 → S → Prop} {px : SX → Prop} {B : S → State → Prop} {BX : String → SX → State → Prop} {AX : Nat → Prop} (hr : vx_Run p l e R s m args below meth c H locs cells slots mc ms (F0 m pc ls st0) rest (va_Qf post B A1 a) (vx_X px BX AX) free) (hS : va_S A0 H0 H locs) (hA : ∀ q, q < H.size → A1 q → A0 q) (hf : ∀ q, free q → A0 q) (hAX : ∀ q, q < H.size → AX q → A0 q)
    (kx : ∀ (E : String) (ce : Cell) (q9 : Addr) (u : SX) (t : State) (H1 : Heap) (locs1 : List Loc), t.heap = H1 → s.vm.Alike t.vm → px u → BX E u t → H.size ≤ H1.size → (∀ q : Nat, q < H.size → ¬ AX q → H1[q]? = H[q]?) → va_S A0 H0 H1 locs1 → H1[q9]? = some ce → ce.vm = .none → s.vm.findClass E = some ce.cls → vx_W p l e R s m args below meth c H1 locs1 (cells + mc) (slots + ms) Q (F0 m pc ls rest) q9)
    (kk : ∀ (r : UInt32) (u : S) (t : State) (H1 : Heap) (locs1 : List Loc), t.heap = H1 → s.vm.Alike t.vm → post r u → B u t → H.size ≤ H1.size → (∀ q : Nat, q < H.size → ¬ A1 q → H1[q]? = H[q]?) → va_S A0 H0 H1 locs1 → W p l e R s m args below meth c H1 locs1 (cells + mc) (slots + ms) Q (F0 m (pc + 3) ls (.float r :: rest))) : W p l e R s m args below meth c H locs cells slots Q (F0 m pc ls st0) := by
  intro T hT X
  rcases hr T hT X with ⟨v, st₀, t, T', L, h0, X', hL, e1, e2, ⟨⟨r, u, hv, hp, hb⟩, hF⟩, st⟩ | ⟨q, st₀, t, T', L, E, ce, h0, X', hL, e1, e2, ⟨u, hp, hb, hF⟩, hce, hcv, hcl, st⟩
  · cases hv
    obtain ⟨k1, k2, k3⟩ := vx_keep h0 e1 hS hA hf hL hF
    obtain ⟨t2, a1, b1⟩ := kk r u t T'.heap (locs ++ L) e1.symm (by rw [← e2]; exact X'.warmed.alike) hp hb k1 k2 k3 T' rfl X'
    exact ⟨t2, st t2 a1, b1⟩
  · obtain ⟨k1, k2, k3⟩ := vx_keep h0 e1 hS hAX hf hL hF
    obtain ⟨t2, a1, b1⟩ := kx E ce q u t T'.heap (locs ++ L) e1.symm (by rw [← e2]; exact X'.warmed.alike) hp hb k1 k2 k3 (by rw [e1]; exact hce) hcv hcl T' rfl X'
    exact ⟨t2, st.trans a1, b1⟩
theorem vx_calld {S SX : Type} {post : UInt64 → S → Prop} {px : SX → Prop} {B : S → State → Prop} {BX : String → SX → State → Prop} {AX : Nat → Prop} (hr : vx_Run p l e R s m args below meth c H locs cells slots mc ms (F0 m pc ls st0) rest (va_Qd post B A1 a) (vx_X px BX AX) free) (hS : va_S A0 H0 H locs) (hA : ∀ q, q < H.size → A1 q → A0 q) (hf : ∀ q, free q → A0 q) (hAX : ∀ q, q < H.size → AX q → A0 q)
    (kx : ∀ (E : String) (ce : Cell) (q9 : Addr) (u : SX) (t : State) (H1 : Heap) (locs1 : List Loc), t.heap = H1 → s.vm.Alike t.vm → px u → BX E u t → H.size ≤ H1.size → (∀ q : Nat, q < H.size → ¬ AX q → H1[q]? = H[q]?) → va_S A0 H0 H1 locs1 → H1[q9]? = some ce → ce.vm = .none → s.vm.findClass E = some ce.cls → vx_W p l e R s m args below meth c H1 locs1 (cells + mc) (slots + ms) Q (F0 m pc ls rest) q9)
    (kk : ∀ (r : UInt64) (u : S) (t : State) (H1 : Heap) (locs1 : List Loc), t.heap = H1 → s.vm.Alike t.vm → post r u → B u t → H.size ≤ H1.size → (∀ q : Nat, q < H.size → ¬ A1 q → H1[q]? = H[q]?) → va_S A0 H0 H1 locs1 → W p l e R s m args below meth c H1 locs1 (cells + mc) (slots + ms) Q (F0 m (pc + 3) ls (.double r :: rest))) : W p l e R s m args below meth c H locs cells slots Q (F0 m pc ls st0) := by
  intro T hT X
  rcases hr T hT X with ⟨v, st₀, t, T', L, h0, X', hL, e1, e2, ⟨⟨r, u, hv, hp, hb⟩, hF⟩, st⟩ | ⟨q, st₀, t, T', L, E, ce, h0, X', hL, e1, e2, ⟨u, hp, hb, hF⟩, hce, hcv, hcl, st⟩
  · cases hv
    obtain ⟨k1, k2, k3⟩ := vx_keep h0 e1 hS hA hf hL hF
    obtain ⟨t2, a1, b1⟩ := kk r u t T'.heap (locs ++ L) e1.symm (by rw [← e2]; exact X'.warmed.alike) hp hb k1 k2 k3 T' rfl X'
    exact ⟨t2, st t2 a1, b1⟩
  · obtain ⟨k1, k2, k3⟩ := vx_keep h0 e1 hS hAX hf hL hF
    obtain ⟨t2, a1, b1⟩ := kx E ce q u t T'.heap (locs ++ L) e1.symm (by rw [← e2]; exact X'.warmed.alike) hp hb k1 k2 k3 (by rw [e1]; exact hce) hcv hcl T' rfl X'
    exact ⟨t2, st.trans a1, b1⟩
theorem vx_callv {S SX : Type} {post : S → Prop} {px : SX → Prop} {B : S → State → Prop} {BX : String → SX → State → Prop} {AX : Nat → Prop} (hr : vx_Run p l e R s m args below meth c H locs cells slots mc ms (F0 m pc ls st0) rest (va_Qv post B A1 a) (vx_X px BX AX) free) (hS : va_S A0 H0 H locs) (hA : ∀ q, q < H.size → A1 q → A0 q) (hf : ∀ q, free q → A0 q) (hAX : ∀ q, q < H.size → AX q → A0 q)
    (kx : ∀ (E : String) (ce : Cell) (q9 : Addr) (u : SX) (t : State) (H1 : Heap) (locs1 : List Loc), t.heap = H1 → s.vm.Alike t.vm → px u → BX E u t → H.size ≤ H1.size → (∀ q : Nat, q < H.size → ¬ AX q → H1[q]? = H[q]?) → va_S A0 H0 H1 locs1 → H1[q9]? = some ce → ce.vm = .none → s.vm.findClass E = some ce.cls → vx_W p l e R s m args below meth c H1 locs1 (cells + mc) (slots + ms) Q (F0 m pc ls rest) q9)
    (kk : ∀ (u : S) (t : State) (H1 : Heap) (locs1 : List Loc), t.heap = H1 → s.vm.Alike t.vm → post u → B u t → H.size ≤ H1.size → (∀ q : Nat, q < H.size → ¬ A1 q → H1[q]? = H[q]?) → va_S A0 H0 H1 locs1 → W p l e R s m args below meth c H1 locs1 (cells + mc) (slots + ms) Q (F0 m (pc + 3) ls (rest))) : W p l e R s m args below meth c H locs cells slots Q (F0 m pc ls st0) := by
  intro T hT X
  rcases hr T hT X with ⟨v, st₀, t, T', L, h0, X', hL, e1, e2, ⟨⟨u, hv, hp, hb⟩, hF⟩, st⟩ | ⟨q, st₀, t, T', L, E, ce, h0, X', hL, e1, e2, ⟨u, hp, hb, hF⟩, hce, hcv, hcl, st⟩
  · cases hv
    obtain ⟨k1, k2, k3⟩ := vx_keep h0 e1 hS hA hf hL hF
    obtain ⟨t2, a1, b1⟩ := kk u t T'.heap (locs ++ L) e1.symm (by rw [← e2]; exact X'.warmed.alike) hp hb k1 k2 k3 T' rfl X'
    exact ⟨t2, st t2 a1, b1⟩
  · obtain ⟨k1, k2, k3⟩ := vx_keep h0 e1 hS hAX hf hL hF
    obtain ⟨t2, a1, b1⟩ := kx E ce q u t T'.heap (locs ++ L) e1.symm (by rw [← e2]; exact X'.warmed.alike) hp hb k1 k2 k3 (by rw [e1]; exact hce) hcv hcl T' rfl X'
    exact ⟨t2, st.trans a1, b1⟩
/-- caught by the row x of this method's table; the rows ahead don't take it -/
theorem vx_catch {own name : String} {E : String} {ce : Cell} {q : Addr} (hown : s.vm.findClass own = some m.cls) (pre : List ExceptionTableEntry) (x : ExceptionTableEntry) (suf : List ExceptionTableEntry) (hsplit : c.exceptionTable.toList = pre ++ x :: suf)
    (hpass : ∀ z ∈ pre, covers z pc = false ∨ (z.catchType ≠ 0 ∧ ∃ nm : String, (Cond.classLink own z.catchType nm).before args s = true ∧ va_Nc E nm s)) (hx : covers x pc = true) (h0 : x.catchType ≠ 0)
    (hlink : (Cond.classLink own x.catchType name).before args s = true) (hcast : (Cond.castable E name).before args s = true) (hcell : H[q]? = some ce) (hv : ce.vm = .none) (hcl : s.vm.findClass E = some ce.cls)
    (kk : W p l e R s m args below meth c H locs cells slots Q (F0 m x.handlerPc ls [.ref q])) : vx_W p l e R s m args below meth c H locs cells slots Q (F0 m pc ls rest) q := by
  intro T hT X
  have hpl : e.platform.magicAccessors = ({} : Platform).magicAccessors := by rw [X.admits.platform]
  obtain ⟨c3, c4, hc3, hc4, hasg⟩ := Cond.castable_spec hcast
  cases Option.some.inj (hc3.symm.trans hcl)
  obtain ⟨c5, hc5, hcl5⟩ := Cond.classLink_spec hown hlink e.platform hpl
  cases Option.some.inj (hc4.symm.trans hc5)
  obtain ⟨vm', X', st⟩ := X.thenCaughtThrough q (g := F0 m pc ls rest) rfl (Steps.refl _) (by rw [hT]; exact hcell) (by rw [hv]; rfl) (by obtain ⟨k9, h9, -⟩ := Vm.findClass_spec hcl; exact ⟨k9, h9⟩) pre x suf hsplit
    (fun z hz => by
      rcases hpass z hz with h | ⟨hz0, nm, hl1, hn1⟩
      · exact Or.inl h
      · obtain ⟨c6, hc6, hcl6⟩ := Cond.classLink_spec hown hl1 e.platform hpl
        obtain ⟨a8, b8, h1, h2, h3⟩ := hn1
        cases Option.some.inj (h1.symm.trans hcl)
        cases Option.some.inj (h2.symm.trans hc6)
        exact Or.inr ⟨hz0, _, hcl6, h3⟩) hx (Or.inr ⟨h0, c4, hcl5, hasg⟩)
  obtain ⟨t, a1, b1⟩ := kk (T.setVm vm') hT X'
  exact ⟨t, st.trans a1, b1⟩
end Rows
section Ends
variable {p : Program} {l : Launch} {e : Env} {R : Room} {s : State} {m : MethodId} {args : Array Value} {below : List Frame} {meth : Method} {c : Code} {H : Heap} {locs : List Loc} {cells slots : Nat} {Q : State → Prop}
variable {mc ms : Nat} {free : Addr → Prop} {A0 A1 : Nat → Prop} {H0 : Heap} {a : Array Value} {ls : Array Slot} {st0 rest : List Value}
variable {Qc : Array Value → State → Outcome → State → Prop} {XC : String → State → State → Prop}
/-- what a body that may throw owes at its end -/
def vx_MQ (below : List Frame) (Qc : Array Value → State → Outcome → State → Prop) (XC : String → State → State → Prop) (a : Array Value) (s : State) (mc ms : Nat) (free : Addr → Prop) : State → Prop := fun t =>
  ∃ o, t.status = .running ∧ Ended t below o ∧ vx_Q Qc XC mc ms free a s o t
theorem vx_ret {g : JFrame} {mc ms : Nat} (k : W p l e R s m args below meth c H locs cells slots (MQ below Qc args s mc ms free) g) : W p l e R s m args below meth c H locs cells slots (vx_MQ below Qc XC args s mc ms free) g := by
  intro T hT X
  obtain ⟨t, a1, o, b1, b2, b3, b4⟩ := k T hT X
  exact ⟨t, a1, o, b1, b2, Or.inl ⟨b3, b4⟩⟩
/-- not caught here: it goes on to the caller -/
theorem vx_widen {g : JFrame} {q : Addr} {k n : Nat} (h1 : cells ≤ k) (h2 : slots ≤ n) (kk : vx_W p l e R s m args below meth c H locs k n Q g q) : vx_W p l e R s m args below meth c H locs cells slots Q g q := fun T hT X => kk T hT (stand_widen X h1 h2)
theorem vx_out {pc : Nat} {E : String} {ce : Cell} {q : Addr} {mc ms : Nat} (hout : ∀ x ∈ c.exceptionTable.toList, covers x pc = false) (hlocks : meth.locks = false) (hcell : H[q]? = some ce) (hv : ce.vm = .none) (hcl : s.vm.findClass E = some ce.cls)
    (hx : ∀ t : State, t.heap = H → s.vm.Alike t.vm → XC E s t) (hf : ∀ z ∈ locs, free z.base) (hc : cells ≤ mc) (hs : slots ≤ ms) :
    vx_W p l e R s m args below meth c H locs cells slots (vx_MQ below Qc XC args s mc ms free) (F0 m pc ls rest) q := by
  intro T hT X
  obtain ⟨st1, hrun, hend, hW, hsm⟩ := X.leaveThrown q (g := F0 m pc ls rest) rfl rfl rfl hout hlocks
  have hcell9 : (T.setFrames (.throwing q :: below)).heap[q]? = some ce := by
    show T.heap[q]? = some ce
    rw [hT]; exact hcell
  exact ⟨_, st1, .threw q, hrun, hend, Or.inr ⟨q, rfl, E, ce, locs, hx _ hT hW.alike, hcell9, hv, hcl, hW, hsm.mono hc hs, hf⟩⟩
theorem vx_frame {U : State} {k n : Nat} (h : s.sameButNew ({ U with vm := s.vm } : State) locs k n) : s.heap.size ≤ U.heap.size ∧ ∀ q : Nat, q < s.heap.size → (∀ z ∈ locs, z.base ≠ q) → U.heap[q]? = s.heap[q]? := by
  obtain ⟨-, h2, -, -, -, h6⟩ := h
  refine ⟨h2, fun q hq hz => ?_⟩
  obtain ⟨c9, e1, e2, e3, e4⟩ := h6 q _ (Array.getElem?_eq_getElem hq)
  have hs : c9.slots = (s.heap[q]).slots := Array.ext_getElem? fun i => e4 i fun hm => hz _ hm rfl
  have h9 : c9 = s.heap[q] := by
    rw [hs] at e2
    exact e2
  have e5 : U.heap[q]? = some c9 := e1
  rw [e5, h9, Array.getElem?_eq_getElem hq]
/-- the words of a throw but the four that speak of the heap -/
def vx_no (w : Cond) : Bool := decide (w ≠ .isRef (.static Bundle.tN "UNASSIGNED_STACK" Bundle.steD)) && decide (w ≠ .isRef (.static Bundle.tN "SUPPRESSED_SENTINEL" Bundle.listD)) && decide (w ≠ .laysStatic Bundle.tN "UNASSIGNED_STACK" Bundle.steD) && decide (w ≠ .laysStatic Bundle.tN "SUPPRESSED_SENTINEL" Bundle.listD)
def vx_at0 (own : String) (ic : Nat) (X : String) (names : List String) : List Cond := (Bundle.ownAtoms0 own ic X names).filter vx_no
def vx_atS (own : String) (ic : Nat) (X : String) (names : List String) : List Cond := (Bundle.ownAtoms own ic X names).filter vx_no
/-- a word that the tables alone decide, or a good one -/
def vx_ot (w : Cond) : Bool := w.onTables || goodWord w
theorem vx_ot_at {args a' : Array Value} {s U : State} {w : Cond} (hW : s.WarmedH U.vm) (hvm : s.vm = U.vm) (hg : vx_ot w = true) (h : w.before args s = true) : w.before a' U = true := by
  simp only [vx_ot, Bool.or_eq_true] at hg
  rcases hg with hg | hg
  · exact va_tabs hg hvm h
  · exact word_at hW (good_of_word hg) h
/-- a list's words: the good ones out of the method's own list, the others by premises of their own -/
theorem vx_hat {args : Array Value} {s : State} {L B : List Cond} (h1 : ∀ w ∈ L.filter goodWord, w.before args s = true) (h2 : ∀ w ∈ L.filter (fun w => !goodWord w), w ∈ B) (h3 : ∀ w ∈ B, w.before args s = true) : ∀ w ∈ L, w.before args s = true := by
  intro w hw
  by_cases g : goodWord w = true
  · exact h1 w (List.mem_filter.mpr ⟨hw, g⟩)
  · refine h3 w (h2 w (List.mem_filter.mpr ⟨hw, ?_⟩))
    show (!goodWord w) = true
    cases hgw : goodWord w
    · rfl
    · exact absurd hgw g
theorem vx_c {args : Array Value} {s : State} {w : Cond} {B : List Cond} (h : w.before args s = true) (t : ∀ w ∈ B, w.before args s = true) : ∀ w' ∈ w :: B, w'.before args s = true := fun w' h' => (List.mem_cons.mp h').elim (fun e => by rw [e]; exact h) (t w')
theorem vx_n {args : Array Value} {s : State} : ∀ w ∈ ([] : List Cond), w.before args s = true := fun _ h => nomatch h
theorem vx_own {args : Array Value} {s : State} {L : List Cond} (h1 : ∀ w ∈ L.filter vx_no, w.before args s = true)
    (hU : (Cond.isRef (.static Bundle.tN "UNASSIGNED_STACK" Bundle.steD)).before args s = true) (hN : (Cond.isRef (.static Bundle.tN "SUPPRESSED_SENTINEL" Bundle.listD)).before args s = true)
    (lU : (Cond.laysStatic Bundle.tN "UNASSIGNED_STACK" Bundle.steD).before args s = true) (lN : (Cond.laysStatic Bundle.tN "SUPPRESSED_SENTINEL" Bundle.listD).before args s = true) : ∀ w ∈ L, w.before args s = true := by
  intro w hw
  by_cases e1 : w = .isRef (.static Bundle.tN "UNASSIGNED_STACK" Bundle.steD)
  · rw [e1]; exact hU
  · by_cases e2 : w = .isRef (.static Bundle.tN "SUPPRESSED_SENTINEL" Bundle.listD)
    · rw [e2]; exact hN
    · by_cases e3 : w = .laysStatic Bundle.tN "UNASSIGNED_STACK" Bundle.steD
      · rw [e3]; exact lU
      · by_cases e4 : w = .laysStatic Bundle.tN "SUPPRESSED_SENTINEL" Bundle.listD
        · rw [e4]; exact lN
        · exact h1 w (List.mem_filter.mpr ⟨hw, by unfold vx_no; rw [decide_eq_true e1, decide_eq_true e2, decide_eq_true e3, decide_eq_true e4]; rfl⟩)
/-- where a static field lies, its class's statics cell in H -/
def vx_L (C n d : String) (A : Nat → Prop) (U : State) (H : Heap) : Prop := ∃ (c : ClassId) (k : Class) (i : Nat) (f : Field) (a : Nat) (cell : Cell), U.vm.findClass C = some c ∧ U.fieldFound? C n d = some (c, k, i, f) ∧ f.isStatic = true ∧ k.statics = some a ∧ H[a]? = some cell ∧ cell.vm.isStatics = true ∧ cell.cls = c ∧ f.slot < cell.slots.size ∧ k.staticTypes[f.slot]? = some f.type ∧ ¬ A a
theorem vx_L.moved {C n d : String} {A : Nat → Prop} {u U : State} {H : Heap} (hvm : u.vm.Alike U.vm) (h : vx_L C n d A u H) : vx_L C n d A U H := by
  obtain ⟨c, k, i, f, a, cell, h1, h2, h3, h4, h5, h6, h7, h8, h9, h10⟩ := h
  obtain ⟨k', hi', he⟩ := State.fieldFound?_setVm hvm h2
  exact ⟨c, k', i, f, a, cell, by rw [hvm.findClass]; exact h1, hi', h3, by rw [he]; exact h4, h5, h6, h7, h8, by rw [he]; exact h9, h10⟩
theorem vx_L.kept {C n d : String} {A : Nat → Prop} {U : State} {H H1 : Heap} (h : vx_L C n d A U H) (hq : ∀ a : Nat, a < H.size → ¬ A a → H1[a]? = H[a]?) : vx_L C n d A U H1 := by
  obtain ⟨c, k, i, f, a, cell, h1, h2, h3, h4, h5, h6, h7, h8, h9, h10⟩ := h
  exact ⟨c, k, i, f, a, cell, h1, h2, h3, h4, by rw [hq a (Array.getElem?_eq_some_iff.mp h5).1 h10]; exact h5, h6, h7, h8, h9, h10⟩
theorem vx_L.narrow {C n d : String} {A B : Nat → Prop} {U : State} {H : Heap} (h : vx_L C n d A U H) (hAB : ∀ q, B q → A q) : vx_L C n d B U H := by
  obtain ⟨c, k, i, f, a, cell, h1, h2, h3, h4, h5, h6, h7, h8, h9, h10⟩ := h
  exact ⟨c, k, i, f, a, cell, h1, h2, h3, h4, h5, h6, h7, h8, h9, fun z => h10 (hAB _ z)⟩
theorem vx_L.word {C n d : String} {A : Nat → Prop} {s : State} {args : Array Value} (h : vx_L C n d A s s.heap) : (Cond.laysStatic C n d).before args s = true := by
  obtain ⟨c, k, i, f, a, cell, h1, h2, h3, h4, h5, h6, h7, h8, h9, -⟩ := h
  show (Cond.laysStatic C n d).holds args s none s [] = true
  exact Cond.laysStatic_of h1 h2 h3 h4 h5 h6 h7 h8 h9
/-- .. and what it holds: null or some reference -/
def vx_Zq (C n d : String) (A : Nat → Prop) (U : State) (H : Heap) : Prop := va_Zq C n d A U H ∧ vx_L C n d A U H
theorem vx_Zq.moved {C n d : String} {A : Nat → Prop} {u U : State} {H : Heap} (hvm : u.vm.Alike U.vm) (h : vx_Zq C n d A u H) : vx_Zq C n d A U H := ⟨va_Zq.moved hvm h.1, vx_L.moved hvm h.2⟩
theorem vx_Zq.kept {C n d : String} {A : Nat → Prop} {U : State} {H H1 : Heap} (h : vx_Zq C n d A U H) (hq : ∀ a : Nat, a < H.size → ¬ A a → H1[a]? = H[a]?) : vx_Zq C n d A U H1 := ⟨va_Zq.kept h.1 hq, vx_L.kept h.2 hq⟩
theorem vx_Zq.narrow {C n d : String} {A B : Nat → Prop} {U : State} {H : Heap} (h : vx_Zq C n d A U H) (hAB : ∀ q, B q → A q) : vx_Zq C n d B U H := ⟨va_Zq.narrow h.1 hAB, vx_L.narrow h.2 hAB⟩
theorem vx_Zqof {args : Array Value} {s : State} {C n d : String} {A : Nat → Prop} (hl : (Cond.laysStatic C n d).before args s = true) (hini : (Cond.initialized C).before args s = true) (h : (Cond.isRef (.static C n d)).before args s = true) (hA : ∀ a : Nat, a < s.heap.size → ¬ A a) : vx_Zq C n d A s s.heap := by
  refine ⟨va_Zqof hl hini h hA, ?_⟩
  obtain ⟨c, k, i, f, a, cell, h1, h2, h3, h4, h5, h6, h7, h8, h9⟩ := Cond.laysStatic_spec hl
  exact ⟨c, k, i, f, a, cell, h1, h2, h3, h4, h5, h6, h7, h8, h9, hA a (Array.getElem?_eq_some_iff.mp h5).1⟩
theorem vx_isRef {C n d : String} {v : Value} {A : Nat → Prop} {s : State} {args : Array Value} (h : va_Z C n d v A s s.heap) (hv : v.isRef = true) : (Cond.isRef (.static C n d)).before args s = true := by
  obtain ⟨cf, kf, fi, f, a, cell, h1, h2, h3, h4, h5, h6, h7, -⟩ := h
  have he : (Term.static C n d).eval args s none [] s = some v := by
    simp [Term.eval, State.fieldNamed?, h1, h2, h4, h5, h6, h7]
  simp only [Cond.before, Cond.holds, Cond.value, he]
  cases v <;> simp_all [Value.isRef]
theorem vx_isRefq {C n d : String} {A : Nat → Prop} {s : State} {args : Array Value} (h : va_Zq C n d A s s.heap) : (Cond.isRef (.static C n d)).before args s = true := by
  rcases h with h | ⟨t, h⟩
  · exact vx_isRef h rfl
  · exact vx_isRef h rfl
/-- the same frame, seen from here: as if the method were called anew in this heap -/
theorem vx_rebase {T : State} (X : Stand p l e R s m args below meth c T locs cells slots) {R' : Room} (hf : R'.frames ≤ R.frames) (hl : R'.locals ≤ R.locals) (hc : cells + R'.cells ≤ R.cells) (hs : slots + R'.slots ≤ R.slots) :
    Stand p l e R' ((T.setVm s.vm).setFrames (.invoking m args :: below)) m args below meth c T [] 0 0 := by
  have htop : (T.setVm s.vm).topJava?.isSome := X.here.top
  have hF : ((T.setVm s.vm).setFrames (.invoking m args :: below)).frames = .invoking m args :: below := State.frames_setFrames _ (State.cur_lt_of_top htop)
  obtain ⟨g₀, hg0⟩ := Option.isSome_iff_exists.mp htop
  obtain ⟨r, hr⟩ := State.topJava?_eq_some.mp hg0
  have hl9 : e.platform.stackLimits (T.setVm s.vm).me = e.platform.stackLimits s.me := X.limits
  have hb9 : (T.setVm s.vm).me.stackBytes = s.me.stackBytes := X.bytes
  refine ⟨X.admits, X.cas, X.clock, hF, ?_, X.hears, X.method, X.code, X.here, X.tail, X.warmed, ?_, ?_, ?_⟩
  · have h := X.room
    have hU : ((T.setVm s.vm).setFrames (.invoking m args :: below)).localsInUse = s.localsInUse := by
      rw [State.localsInUse_invoking hF (meth := meth) (c := c) X.method X.code, State.localsInUse_invoking X.frames X.method X.code]
    simp only [State.hasRoom, Bool.and_eq_true, decide_eq_true_eq] at h ⊢
    obtain ⟨⟨⟨⟨h1, h2, h3, h4, h5, h6⟩, h7⟩, h8⟩, h9⟩ := h
    rw [X.frames, List.length_cons] at h2 h3
    have q1 := X.heapSize
    have q2 := X.used
    simp only [hF, hU, List.length_cons, State.stackLimits_setFrames, State.stackBytes_setFrames, hl9, hb9]
    refine ⟨⟨⟨⟨by omega, by omega, by omega, by omega, by omega, h6⟩, ?_⟩, ?_⟩, X.book⟩
    · show T.heap.size + R'.cells ≤ e.platform.maxCells
      omega
    · show T.slotsUsed + R'.slots ≤ e.platform.maxSlots
      omega
  · rw [State.stackLimits_setFrames]; rfl
  · rw [State.stackBytes_setFrames]; rfl
  · refine ⟨?_, Nat.le_refl _, Nat.le_refl _, ?_, ?_, fun a c9 h9 => ⟨c9, h9, rfl, rfl, fun _ _ => rfl⟩⟩
    · obtain ⟨t, ht, -⟩ := State.frames_cons hr
      show T.setVm s.vm = { ((T.setVm s.vm).setFrames (.invoking m args :: below)).setFrames (T.setVm s.vm).frames with heap := T.heap, slotsUsed := T.slotsUsed }
      rw [State.setFrames_setFrames, State.setFrames_self ht]
      rfl
    · show T.slotsUsed = T.slotsUsed + ((T.heap.toList.drop T.heap.size).map (·.slots.size)).sum
      rw [List.drop_eq_nil_of_le (Nat.le_of_eq Array.length_toList)]
      rfl
    · show ((T.heap.toList.drop T.heap.size).map (·.slots.size)).sum ≤ 0
      rw [List.drop_eq_nil_of_le (Nat.le_of_eq Array.length_toList)]
      exact Nat.le_refl _
/-- 'throw new E()': new; dup; invokespecial; athrow -/
theorem vx_throw0 {cc : ByteArray} {pc : Nat} (hexec : p.tables.exec = Jvm.exec) (hb : c.code = cc) (hl : l.stackTraces = false) {own cls : String} {names : List String} {ik ic mc ms : Nat} {A : Nat → Prop}
    (hown : s.vm.findClass own = some m.cls) (hcls : Bundle.fit cls = true) (hnames : ∀ n ∈ names, Bundle.fit n = true)
    (hk : (Cond.classLink own ik cls).before args s = true) (hini : (Cond.initialized cls).before args s = true) (hat : ∀ w ∈ vx_at0 own ic cls names, w.before args s = true)
    (hgood : ∀ w ∈ Cond.classLink own ik cls :: Cond.initialized cls :: vx_at0 own ic cls names, vx_ot w = true)
    (hU : vx_Zq Bundle.tN "UNASSIGNED_STACK" Bundle.steD A s s.heap) (hN : vx_Zq Bundle.tN "SUPPRESSED_SENTINEL" Bundle.listD A s s.heap) (hS : va_S A s.heap H locs) (hsize : ls.size = c.maxLocals)
    (d0 : decode cc pc = .ok (.new ik, 3)) (d3 : decode cc (pc + 3) = .ok (.dup, 1)) (d4 : decode cc (pc + 4) = .ok (.invokespecial ic, 3)) (d7 : decode cc (pc + 7) = .ok (.athrow, 1))
    (hout : ∀ x ∈ c.exceptionTable.toList, covers x (pc + 7) = false)
    (hRframes : names.length + 3 < R.frames) (hRlocals : (rest.map fun v => v.category).sum + (13 * (names.length + 1) + 42) ≤ R.locals) (hRcells : cells + 1 ≤ R.cells) (hRslots : slots + 6 ≤ R.slots) (hlocks : meth.locks = false)
    (hx : ∀ t : State, s.vm.Alike t.vm → H.size ≤ t.heap.size → (∀ q : Nat, q < H.size → t.heap[q]? = H[q]?) → XC cls s t)
    (hf : ∀ z ∈ locs, free z.base) (hc : cells + 1 ≤ mc) (hs : slots + 6 ≤ ms) :
    W p l e R s m args below meth c H locs cells slots (vx_MQ below Qc XC args s mc ms free) (F0 m pc ls rest) := by
  intro T hT X
  have htr : e.platform.stackTraces = false := (show e.platform.stackTraces = l.stackTraces by rw [X.admits.platform]).trans hl
  have Y := vx_rebase X (R' := { frames := R.frames, locals := R.locals, cells := 1, slots := 6 }) (Nat.le_refl _) (Nat.le_refl _) hRcells hRslots
  obtain ⟨s', hA⟩ : ∃ z, z = (T.setVm s.vm).setFrames (.invoking m args :: below) := ⟨_, rfl⟩
  rw [← hA] at Y
  have hvm : s'.vm = s.vm := by rw [hA]; rfl
  have hhp : s'.heap = H := by rw [hA]; exact hT
  have hW0 : s.WarmedH s'.vm := by rw [hvm]; exact State.WarmedH.refl s
  have hat' : ∀ w ∈ vx_at0 own ic cls names, w.before args s' = true := fun w hw => vx_ot_at hW0 hvm.symm (hgood w (List.mem_cons_of_mem _ (List.mem_cons_of_mem _ hw))) (hat w hw)
  have hk' : (Cond.classLink own ik cls).before args s' = true := vx_ot_at hW0 hvm.symm (hgood _ List.mem_cons_self) hk
  have hini' : (Cond.initialized cls).before args s' = true := vx_ot_at hW0 hvm.symm (hgood _ (List.mem_cons_of_mem _ List.mem_cons_self)) hini
  have hU' : vx_Zq Bundle.tN "UNASSIGNED_STACK" Bundle.steD A s' s'.heap := by rw [hhp]; exact vx_Zq.moved hW0.alike (hU.kept hS.2.1)
  have hN' : vx_Zq Bundle.tN "SUPPRESSED_SENTINEL" Bundle.listD A s' s'.heap := by rw [hhp]; exact vx_Zq.moved hW0.alike (hN.kept hS.2.1)
  have h : ∀ w ∈ Bundle.ownAtoms0 own ic cls names, w.before args s' = true := vx_own hat' (vx_isRefq hU'.1) (vx_isRefq hN'.1) hU'.2.word hN'.2.word
  have hown' : s'.vm.findClass own = some m.cls := by rw [hvm]; exact hown
  have hins : (Cond.instantiable cls 6).before args s' = true := h _ (by simp [Bundle.ownAtoms0])
  obtain ⟨vm₁, cX, kX, hfX, hkX, -, -, X₁, st1⟩ := Y.newCold hexec (own := own) (C := cls) (index := ik) (n := 6) hown' hk' hins hini'
    (g := F0 m pc ls rest) rfl (by rw [hb]; exact d0) (Nat.le_refl _) (Nat.le_refl _)
  generalize hT1 : (T.setVm vm₁).pushCell { cls := cX, slots := kX.instanceTypes.map defaultValue, vm := .none } = T1 at X₁ st1
  have hcat : (Value.ref T.heap.size).category = 1 := rfl
  have hcellA : T1.heap[T.heap.size]? = some (freshCell cX kX) := by rw [← hT1]; exact State.heap_pushCell_size _ _
  have d3' : decode c.code (pc + 3) = .ok (.dup, 1) := by rw [hb]; exact d3
  obtain ⟨U, hsteps, hrun, hend, hW, hsame, ce, hce, hO⟩ := X₁.ctorThrow0 hexec htr (own := own) (cls := cls) (names := names) (ic := ic) hown' hcls hnames h (fun x hx => nomatch hx) hfX hkX hcellA (by rw [hhp, hT]; exact Nat.le_refl _)
    (g := { method := m, pc := pc + 4, locals := ls, stack := .ref T.heap.size :: .ref T.heap.size :: rest, locked := none }) rfl hsize rfl rfl (rest := rest) rfl
    (by rw [hb]; exact d4) (by rw [hb]; exact d7) hout hRframes (by simp only [List.map_cons, List.sum_cons, hcat]; omega) hlocks
  obtain ⟨f1, f2⟩ := vx_frame hsame
  rw [hhp] at f1 f2
  have hWs : s.WarmedH U.vm := State.WarmedH.trans hW0 hW
  have hcl : s.vm.findClass cls = some ce.cls := by
    have h9 := hO.cls
    rw [hvm] at h9
    exact h9
  have hall : s.sameButNew ({ U with vm := s.vm } : State) locs mc ms := by
    subst hA
    obtain ⟨e1, e2⟩ := hsame
    rw [State.setFrames_setFrames] at e1
    have h2 : (T.setVm s.vm).sameButNew ({ U with vm := s.vm } : State) [] (0 + 1) (0 + 6) := ⟨e1, e2⟩
    have h3 := X.same.trans h2
    rw [List.append_nil] at h3
    exact h3.mono hc hs
  refine ⟨U, ?_, .threw T.heap.size, hrun, hend, Or.inr ⟨T.heap.size, rfl, cls, ce, locs, hx U hWs.alike f1 (fun q hq => f2 q hq (fun z hz => nomatch hz)), hce, hO.vm, hcl, hWs, hall, hf⟩⟩
  refine st1 _ ?_
  show Steps p.tables e below (T1.setTop { method := m, pc := pc + 3, locals := ls, stack := .ref T.heap.size :: rest, locked := none }) _
  jvm_step X₁.here [X₁.here.top, hexec, d3', Value.category]
  exact hsteps
/-- 'throw new E("text")': new; dup; ldc; invokespecial; athrow -/
theorem vx_throwS {cc : ByteArray} {pc : Nat} (hexec : p.tables.exec = Jvm.exec) (hb : c.code = cc) (hl : l.stackTraces = false) {own cls text : String} {names : List String} {ik is ic mc ms sa : Nat} {A : Nat → Prop}
    (hown : s.vm.findClass own = some m.cls) (hcls : Bundle.fit cls = true) (hnames : ∀ n ∈ names, Bundle.fit n = true)
    (hk : (Cond.classLink own ik cls).before args s = true) (hini : (Cond.initialized cls).before args s = true) (hstr : vk_R own is text sa s) (hat : ∀ w ∈ vx_atS own ic cls names, w.before args s = true)
    (hgood : ∀ w ∈ Cond.classLink own ik cls :: Cond.initialized cls :: vx_atS own ic cls names, vx_ot w = true)
    (hU : vx_Zq Bundle.tN "UNASSIGNED_STACK" Bundle.steD A s s.heap) (hN : vx_Zq Bundle.tN "SUPPRESSED_SENTINEL" Bundle.listD A s s.heap) (hS : va_S A s.heap H locs) (hsize : ls.size = c.maxLocals)
    (d0 : decode cc pc = .ok (.new ik, 3)) (d3 : decode cc (pc + 3) = .ok (.dup, 1)) (d4 : decode cc (pc + 4) = .ok (.ldc is, 2)) (d6 : decode cc (pc + 6) = .ok (.invokespecial ic, 3)) (d9 : decode cc (pc + 9) = .ok (.athrow, 1))
    (hout : ∀ x ∈ c.exceptionTable.toList, covers x (pc + 9) = false)
    (hRframes : names.length + 3 < R.frames) (hRlocals : (rest.map fun v => v.category).sum + (13 * (names.length + 1) + 43) ≤ R.locals) (hRcells : cells + 1 ≤ R.cells) (hRslots : slots + 6 ≤ R.slots) (hlocks : meth.locks = false)
    (hx : ∀ t : State, s.vm.Alike t.vm → H.size ≤ t.heap.size → (∀ q : Nat, q < H.size → t.heap[q]? = H[q]?) → XC cls s t)
    (hf : ∀ z ∈ locs, free z.base) (hc : cells + 1 ≤ mc) (hs : slots + 6 ≤ ms) :
    W p l e R s m args below meth c H locs cells slots (vx_MQ below Qc XC args s mc ms free) (F0 m pc ls rest) := by
  intro T hT X
  have htr : e.platform.stackTraces = false := (show e.platform.stackTraces = l.stackTraces by rw [X.admits.platform]).trans hl
  have Y := vx_rebase X (R' := { frames := R.frames, locals := R.locals, cells := 1, slots := 6 }) (Nat.le_refl _) (Nat.le_refl _) hRcells hRslots
  obtain ⟨s', hA⟩ : ∃ z, z = (T.setVm s.vm).setFrames (.invoking m args :: below) := ⟨_, rfl⟩
  rw [← hA] at Y
  have hvm : s'.vm = s.vm := by rw [hA]; rfl
  have hhp : s'.heap = H := by rw [hA]; exact hT
  have hW0 : s.WarmedH s'.vm := by rw [hvm]; exact State.WarmedH.refl s
  have hat' : ∀ w ∈ vx_atS own ic cls names, w.before args s' = true := fun w hw => vx_ot_at hW0 hvm.symm (hgood w (List.mem_cons_of_mem _ (List.mem_cons_of_mem _ hw))) (hat w hw)
  have hk' : (Cond.classLink own ik cls).before args s' = true := vx_ot_at hW0 hvm.symm (hgood _ List.mem_cons_self) hk
  have hini' : (Cond.initialized cls).before args s' = true := vx_ot_at hW0 hvm.symm (hgood _ (List.mem_cons_of_mem _ List.mem_cons_self)) hini
  have hU' : vx_Zq Bundle.tN "UNASSIGNED_STACK" Bundle.steD A s' s'.heap := by rw [hhp]; exact vx_Zq.moved hW0.alike (hU.kept hS.2.1)
  have hN' : vx_Zq Bundle.tN "SUPPRESSED_SENTINEL" Bundle.listD A s' s'.heap := by rw [hhp]; exact vx_Zq.moved hW0.alike (hN.kept hS.2.1)
  have h : ∀ w ∈ Bundle.ownAtoms own ic cls names, w.before args s' = true := vx_own hat' (vx_isRefq hU'.1) (vx_isRefq hN'.1) hU'.2.word hN'.2.word
  have hown' : s'.vm.findClass own = some m.cls := by rw [hvm]; exact hown
  have hins : (Cond.instantiable cls 6).before args s' = true := h _ (by simp [Bundle.ownAtoms])
  obtain ⟨vm₁, cX, kX, hfX, hkX, -, -, X₁, st1⟩ := Y.newCold hexec (own := own) (C := cls) (index := ik) (n := 6) hown' hk' hins hini'
    (g := F0 m pc ls rest) rfl (by rw [hb]; exact d0) (Nat.le_refl _) (Nat.le_refl _)
  generalize hT1 : (T.setVm vm₁).pushCell { cls := cX, slots := kX.instanceTypes.map defaultValue, vm := .none } = T1 at X₁ st1
  have hcat : (Value.ref T.heap.size).category = 1 := rfl
  have hcellA : T1.heap[T.heap.size]? = some (freshCell cX kX) := by rw [← hT1]; exact State.heap_pushCell_size _ _
  have d3' : decode c.code (pc + 3) = .ok (.dup, 1) := by rw [hb]; exact d3
  have d4' : decode c.code (pc + 4) = .ok (.ldc is, 2) := by rw [hb]; exact d4
  have hstr' : vk_R own is text sa s' := vk_R.warm hW0 hstr
  obtain ⟨U, hsteps, hrun, hend, hW, hsame, ce, hce, hO⟩ := X₁.ctorThrowS hexec htr (own := own) (cls := cls) (names := names) (ic := ic) hown' hcls hnames h (fun x hx => nomatch hx) hfX hkX hcellA (by rw [hhp, hT]; exact Nat.le_refl _) (msg := .ref sa) rfl
    (g := { method := m, pc := pc + 6, locals := ls, stack := .ref sa :: .ref T.heap.size :: .ref T.heap.size :: rest, locked := none }) rfl hsize rfl rfl (rest := rest) rfl
    (by rw [hb]; exact d6) (by rw [hb]; exact d9) hout hRframes (by simp only [List.map_cons, List.sum_cons, hcat]; omega) hlocks
  obtain ⟨f1, f2⟩ := vx_frame hsame
  rw [hhp] at f1 f2
  have hWs : s.WarmedH U.vm := State.WarmedH.trans hW0 hW
  have hcl : s.vm.findClass cls = some ce.cls := by
    have h9 := hO.cls
    rw [hvm] at h9
    exact h9
  have hall : s.sameButNew ({ U with vm := s.vm } : State) locs mc ms := by
    subst hA
    obtain ⟨e1, e2⟩ := hsame
    rw [State.setFrames_setFrames] at e1
    have h2 : (T.setVm s.vm).sameButNew ({ U with vm := s.vm } : State) [] (0 + 1) (0 + 6) := ⟨e1, e2⟩
    have h3 := X.same.trans h2
    rw [List.append_nil] at h3
    exact h3.mono hc hs
  refine ⟨U, ?_, .threw T.heap.size, hrun, hend, Or.inr ⟨T.heap.size, rfl, cls, ce, locs, hx U hWs.alike f1 (fun q hq => f2 q hq (fun z hz => nomatch hz)), hce, hO.vm, hcl, hWs, hall, hf⟩⟩
  refine st1 _ ?_
  show Steps p.tables e below (T1.setTop { method := m, pc := pc + 3, locals := ls, stack := .ref T.heap.size :: rest, locked := none }) _
  jvm_step X₁.here [X₁.here.top, hexec, d3', Value.category]
  exact X₁.ldcString hexec (own := own) (text := text) (index := is) (a := sa) hown' hstr'.1 hstr'.2
    (g := { method := m, pc := pc + 4, locals := ls, stack := .ref T.heap.size :: .ref T.heap.size :: rest, locked := none }) rfl d4' _ hsteps
/-- 'throw new E("text")', the text by a wide index -/
theorem vx_throwSW {cc : ByteArray} {pc : Nat} (hexec : p.tables.exec = Jvm.exec) (hb : c.code = cc) (hl : l.stackTraces = false) {own cls text : String} {names : List String} {ik is ic mc ms sa : Nat} {A : Nat → Prop}
    (hown : s.vm.findClass own = some m.cls) (hcls : Bundle.fit cls = true) (hnames : ∀ n ∈ names, Bundle.fit n = true)
    (hk : (Cond.classLink own ik cls).before args s = true) (hini : (Cond.initialized cls).before args s = true) (hstr : vk_R own is text sa s) (hat : ∀ w ∈ vx_atS own ic cls names, w.before args s = true)
    (hgood : ∀ w ∈ Cond.classLink own ik cls :: Cond.initialized cls :: vx_atS own ic cls names, vx_ot w = true)
    (hU : vx_Zq Bundle.tN "UNASSIGNED_STACK" Bundle.steD A s s.heap) (hN : vx_Zq Bundle.tN "SUPPRESSED_SENTINEL" Bundle.listD A s s.heap) (hS : va_S A s.heap H locs) (hsize : ls.size = c.maxLocals)
    (d0 : decode cc pc = .ok (.new ik, 3)) (d3 : decode cc (pc + 3) = .ok (.dup, 1)) (d4 : decode cc (pc + 4) = .ok (.ldc_w is, 3)) (d7 : decode cc (pc + 7) = .ok (.invokespecial ic, 3)) (d10 : decode cc (pc + 10) = .ok (.athrow, 1))
    (hout : ∀ x ∈ c.exceptionTable.toList, covers x (pc + 10) = false)
    (hRframes : names.length + 3 < R.frames) (hRlocals : (rest.map fun v => v.category).sum + (13 * (names.length + 1) + 43) ≤ R.locals) (hRcells : cells + 1 ≤ R.cells) (hRslots : slots + 6 ≤ R.slots) (hlocks : meth.locks = false)
    (hx : ∀ t : State, s.vm.Alike t.vm → H.size ≤ t.heap.size → (∀ q : Nat, q < H.size → t.heap[q]? = H[q]?) → XC cls s t)
    (hf : ∀ z ∈ locs, free z.base) (hc : cells + 1 ≤ mc) (hs : slots + 6 ≤ ms) :
    W p l e R s m args below meth c H locs cells slots (vx_MQ below Qc XC args s mc ms free) (F0 m pc ls rest) := by
  intro T hT X
  have htr : e.platform.stackTraces = false := (show e.platform.stackTraces = l.stackTraces by rw [X.admits.platform]).trans hl
  have Y := vx_rebase X (R' := { frames := R.frames, locals := R.locals, cells := 1, slots := 6 }) (Nat.le_refl _) (Nat.le_refl _) hRcells hRslots
  obtain ⟨s', hA⟩ : ∃ z, z = (T.setVm s.vm).setFrames (.invoking m args :: below) := ⟨_, rfl⟩
  rw [← hA] at Y
  have hvm : s'.vm = s.vm := by rw [hA]; rfl
  have hhp : s'.heap = H := by rw [hA]; exact hT
  have hW0 : s.WarmedH s'.vm := by rw [hvm]; exact State.WarmedH.refl s
  have hat' : ∀ w ∈ vx_atS own ic cls names, w.before args s' = true := fun w hw => vx_ot_at hW0 hvm.symm (hgood w (List.mem_cons_of_mem _ (List.mem_cons_of_mem _ hw))) (hat w hw)
  have hk' : (Cond.classLink own ik cls).before args s' = true := vx_ot_at hW0 hvm.symm (hgood _ List.mem_cons_self) hk
  have hini' : (Cond.initialized cls).before args s' = true := vx_ot_at hW0 hvm.symm (hgood _ (List.mem_cons_of_mem _ List.mem_cons_self)) hini
  have hU' : vx_Zq Bundle.tN "UNASSIGNED_STACK" Bundle.steD A s' s'.heap := by rw [hhp]; exact vx_Zq.moved hW0.alike (hU.kept hS.2.1)
  have hN' : vx_Zq Bundle.tN "SUPPRESSED_SENTINEL" Bundle.listD A s' s'.heap := by rw [hhp]; exact vx_Zq.moved hW0.alike (hN.kept hS.2.1)
  have h : ∀ w ∈ Bundle.ownAtoms own ic cls names, w.before args s' = true := vx_own hat' (vx_isRefq hU'.1) (vx_isRefq hN'.1) hU'.2.word hN'.2.word
  have hown' : s'.vm.findClass own = some m.cls := by rw [hvm]; exact hown
  have hins : (Cond.instantiable cls 6).before args s' = true := h _ (by simp [Bundle.ownAtoms])
  obtain ⟨vm₁, cX, kX, hfX, hkX, -, -, X₁, st1⟩ := Y.newCold hexec (own := own) (C := cls) (index := ik) (n := 6) hown' hk' hins hini'
    (g := F0 m pc ls rest) rfl (by rw [hb]; exact d0) (Nat.le_refl _) (Nat.le_refl _)
  generalize hT1 : (T.setVm vm₁).pushCell { cls := cX, slots := kX.instanceTypes.map defaultValue, vm := .none } = T1 at X₁ st1
  have hcat : (Value.ref T.heap.size).category = 1 := rfl
  have hcellA : T1.heap[T.heap.size]? = some (freshCell cX kX) := by rw [← hT1]; exact State.heap_pushCell_size _ _
  have d3' : decode c.code (pc + 3) = .ok (.dup, 1) := by rw [hb]; exact d3
  have d4' : decode c.code (pc + 4) = .ok (.ldc_w is, 3) := by rw [hb]; exact d4
  have hstr' : vk_R own is text sa s' := vk_R.warm hW0 hstr
  obtain ⟨U, hsteps, hrun, hend, hW, hsame, ce, hce, hO⟩ := X₁.ctorThrowS hexec htr (own := own) (cls := cls) (names := names) (ic := ic) hown' hcls hnames h (fun x hx => nomatch hx) hfX hkX hcellA (by rw [hhp, hT]; exact Nat.le_refl _) (msg := .ref sa) rfl
    (g := { method := m, pc := pc + 7, locals := ls, stack := .ref sa :: .ref T.heap.size :: .ref T.heap.size :: rest, locked := none }) rfl hsize rfl rfl (rest := rest) rfl
    (by rw [hb]; exact d7) (by rw [hb]; exact d10) hout hRframes (by simp only [List.map_cons, List.sum_cons, hcat]; omega) hlocks
  obtain ⟨f1, f2⟩ := vx_frame hsame
  rw [hhp] at f1 f2
  have hWs : s.WarmedH U.vm := State.WarmedH.trans hW0 hW
  have hcl : s.vm.findClass cls = some ce.cls := by
    have h9 := hO.cls
    rw [hvm] at h9
    exact h9
  have hall : s.sameButNew ({ U with vm := s.vm } : State) locs mc ms := by
    subst hA
    obtain ⟨e1, e2⟩ := hsame
    rw [State.setFrames_setFrames] at e1
    have h2 : (T.setVm s.vm).sameButNew ({ U with vm := s.vm } : State) [] (0 + 1) (0 + 6) := ⟨e1, e2⟩
    have h3 := X.same.trans h2
    rw [List.append_nil] at h3
    exact h3.mono hc hs
  refine ⟨U, ?_, .threw T.heap.size, hrun, hend, Or.inr ⟨T.heap.size, rfl, cls, ce, locs, hx U hWs.alike f1 (fun q hq => f2 q hq (fun z hz => nomatch hz)), hce, hO.vm, hcl, hWs, hall, hf⟩⟩
  refine st1 _ ?_
  show Steps p.tables e below (T1.setTop { method := m, pc := pc + 3, locals := ls, stack := .ref T.heap.size :: rest, locked := none }) _
  jvm_step X₁.here [X₁.here.top, hexec, d3', Value.category]
  exact X₁.ldcStringW hexec (own := own) (text := text) (index := is) (a := sa) hown' hstr'.1 hstr'.2
    (g := { method := m, pc := pc + 4, locals := ls, stack := .ref T.heap.size :: .ref T.heap.size :: rest, locked := none }) rfl d4' _ hsteps
end Ends
section Bodies
variable {l : Launch}
theorem vx_ofW {y : MethodName} {ws ws' : List Cond} {rm : Room} {Pc : Array Value → State → Prop} {Qc : Array Value → State → Outcome → State → Prop} {XC : String → State → State → Prop} {mc ms : Nat} {free : Addr → Prop} {cc : ByteArray} {maxL : Nat} {ret : Option FieldType}
    (hy : plainName y.cls = true) (hw : ws = Cond.code y cc maxL ret :: ws')
    (body : ∀ p e s m args below meth c s₁, BodyLoose p l y (headSpec ws rm) cc maxL ret e s m args below meth c s₁ → c.maxLocals = maxL → (∀ x ∈ c.exceptionTable.toList, False) → Pc args s →
      W p l e (headSpec ws rm).room s m args below meth c s.heap [] 0 0 (vx_MQ below Qc XC args s mc ms free) (entryFrame m args maxL)) : vx_Met l y ws rm Pc Qc XC mc ms free := by
  refine MetFree.of_bodyS (code := cc) (maxLocals := maxL) (ret := ret) hy ?_ ?_
  · intro args s m h hn
    obtain ⟨meth, c, h1, h2, h3, h4, h5, h6, -, -⟩ := Cond.code_spec hn (atoms_spec (ws := ws) h _ (by rw [hw]; exact List.mem_cons_self))
    exact ⟨meth, c, h1, h2, h3, h4, h5, h6⟩
  · intro p e s m args below meth c s₁ B hml hP _
    have hh0 : s₁.heap = s.heap := by rw [B.state]; rfl
    have ht : ∀ x ∈ c.exceptionTable.toList, False := by
      obtain ⟨meth9, c9, h1, h2, -, -, -, -, h7, -⟩ := Cond.code_spec B.named (atoms_spec (ws := ws) B.pre _ (by rw [hw]; exact List.mem_cons_self))
      cases Option.some.inj (h1.symm.trans B.method)
      cases Option.some.inj (h2.symm.trans (Stand.of_body B).code)
      intro x hx
      rw [Array.isEmpty_iff.mp h7] at hx
      cases hx
    obtain ⟨t, a1, o, b1, b2, b3⟩ := body p e s m args below meth c s₁ B hml ht hP s₁ hh0 (Stand.of_body B)
    exact ⟨t, o, a1, b1, b2, b3⟩
/-- the table of a body with handlers -/
theorem vx_table {p : Program} {x y : MethodName} {S : Spec} {cc bytes : ByteArray} {maxL maxL' : Nat} {ret ret' : Option FieldType} {e : Env} {s s₁ : State} {m : MethodId} {args : Array Value} {below : List Frame} {meth : Method} {c : Code} {hh : List (Nat × Nat × Nat × Nat)}
    (B : BodyLoose p l y S cc maxL ret e s m args below meth c s₁) (h : (Cond.codeWith y bytes maxL' ret' hh).before args s = true) : c.exceptionTable.toList = tableOf hh := by
  obtain ⟨m9, meth9, c9, hn9, h1, h2, -, -, h6, -⟩ := Cond.codeWith_spec h
  cases Option.some.inj (hn9.symm.trans B.named)
  cases Option.some.inj (h1.symm.trans B.method)
  cases Option.some.inj (h2.symm.trans (Stand.of_body B).code)
  rw [← h6, table_eq]
end Bodies
end VXA
/-! ===== END ===== -/
/-! ===== BEGIN a static call of a method with an exception table ===== -/
section VXS
variable {p : Program} {l : Launch} {e : Env} {R : Room} {s : State} {m : MethodId} {args : Array Value} {below : List Frame} {meth : Method} {c : Code} {T : State} {H : Heap} {locs : List Loc} {cells slots : Nat}
abbrev vx_CSW (R : Room) (s : State) (args : Array Value) (own : String) (index : Nat) (y : MethodName) (bytes : ByteArray) (maxL : Nat) (ret : Option FieldType) (hh : List (Nat × Nat × Nat × Nat)) (ws : List Cond) (rm : Room) (mc ms n : Nat) : Prop :=
  (rm.cells = mc ∧ rm.slots = ms ∧ rm.frames + 1 ≤ R.frames ∧ 8 + (maxL + 11) + rm.locals ≤ R.locals ∧ (∀ w ∈ ws, ∀ (a' : Array Value) (U : State), s.WarmedH U.vm → w.before a' U = true) ∧ Cond.codeWith y bytes maxL ret hh ∈ ws) ∧
  (Cond.codeWith y bytes maxL ret hh).before args s = true ∧ (Cond.initialized y.cls).before args s = true ∧ (y.cls ≠ "java/lang/invoke/MethodHandle" ∧ y.cls ≠ "java/lang/invoke/VarHandle") ∧
  (∀ sig, parseMethodDescriptor y.desc = some sig → n = sig.parameters.length) ∧ (Cond.methodLink own index y).before args s = true ∧ (Cond.static y).before args s = true
theorem vx_cwSW {own : String} {index maxL mc ms : Nat} {y : MethodName} {bytes : ByteArray} {ret : Option FieldType} {hh : List (Nat × Nat × Nat × Nat)} {Ts ws ws' : List Cond} {rm : Room} (n : Nat) (ht : ∀ w ∈ Ts, w.before args s = true) (hT : GoodIn Ts (va_wsS own index y ws)) (hw : ws = Cond.codeWith y bytes maxL ret hh :: ws') (hrc : rm.cells = mc) (hrs : rm.slots = ms)
    (hd : y.cls ≠ "java/lang/invoke/MethodHandle" ∧ y.cls ≠ "java/lang/invoke/VarHandle" ∧ (parseMethodDescriptor y.desc).map (fun d => d.parameters.length) = some n) (hR : rm.frames + 1 ≤ R.frames ∧ 8 + (maxL + 11) + rm.locals ≤ R.locals) :
    vx_CSW R s args own index y bytes maxL ret hh ws rm mc ms n := by
  have ok : ∀ w ∈ va_wsS own index y ws, w.before args s = true := fun w h => ht w (hT w h).1
  have hG : GoodIn Ts ws := fun w h => hT w (by unfold va_wsS; exact List.mem_append_right _ h)
  have hc : Cond.codeWith y bytes maxL ret hh ∈ ws := by rw [hw]; exact List.mem_cons_self
  refine ⟨⟨hrc, hrs, hR.1, hR.2, pay_in ht hG, hc⟩, ht _ (hG _ hc).1, ok _ (by simp [va_wsS]), ⟨hd.1, hd.2.1⟩, fun sig h => ?_, ok _ (by simp [va_wsS]), ok _ (by simp [va_wsS])⟩
  have h2 := hd.2.2
  rw [h] at h2
  exact (Option.some.inj h2).symm
theorem vx_callSW (X : Stand p l e R s m args below meth c T locs cells slots) (hexec : p.tables.exec = Jvm.exec) {own : String} {index : Nat} {y : MethodName} {bytes : ByteArray} {maxL : Nat} {ret : Option FieldType} {hh : List (Nat × Nat × Nat × Nat)}
    (hown : s.vm.findClass own = some m.cls) (hlink : (Cond.methodLink own index y).before args s = true) (hstat : (Cond.static y).before args s = true) (hinit : (Cond.initialized y.cls).before args s = true)
    (hcode : (Cond.codeWith y bytes maxL ret hh).before args s = true) (hy : y.cls ≠ "java/lang/invoke/MethodHandle" ∧ y.cls ≠ "java/lang/invoke/VarHandle")
    {W9 : Nat} {Pre : Pt → Array Value → Prop} {Post : Pt → Array Value → Option Value → Pt → Prop} (hK : Back l R p e below s args y 3 W9 Pre Post)
    {g : JFrame} (hg : g.method = m) (hsize : g.locals.size = c.maxLocals) {argsL rest : List Value} (hlen : ∀ sig, parseMethodDescriptor y.desc = some sig → argsL.length = sig.parameters.length)
    (hstack : g.stack = argsL.reverse ++ rest) (hW : 2 * g.monitorRoom + (rest.map fun v => v.category).sum ≤ W9) (hdg : decode c.code g.pc = .ok (.invokestatic index, 3))
    (hpre : ∀ vm₁, s.WarmedH vm₁ → Pre ⟨T.setVm vm₁, locs, cells, slots⟩ argsL.toArray) :
    ∃ (v : Option Value) (vm₁ : Vm) (B : Pt), s.WarmedH vm₁ ∧ Stand p l e R s m args below meth c B.U B.locs B.cells B.slots ∧ Post ⟨T.setVm vm₁, locs, cells, slots⟩ argsL.toArray v B ∧
      ∀ target, Steps p.tables e below (B.U.setTop { g with pc := g.pc + 3, stack := v.toList ++ rest }) target → Steps p.tables e below (T.setTop g) target := by
  obtain ⟨mk, methM, cM, hnamed, hmethM, -, -, -, -, -, -, hsigM⟩ := Cond.codeWith_spec hcode
  have hstatic : methM.isStatic = true := Cond.static_spec hnamed hmethM hstat
  obtain ⟨kP, hkP, -⟩ := className_of_methodNamed hnamed
  have hinitP : kP.init = .initialized := Cond.initialized_spec (findClass_of_methodNamed hnamed) hkP hinit
  obtain ⟨vm₁, X₁, hstep₁⟩ := X.invokestatic hexec hown hlink hnamed hmethM hstatic hkP hinitP hy (g := g) hg (argsL := argsL) (rest := rest) (hlen _ hsigM) hstack hdg
  obtain ⟨v, B, X', hpost, hsteps⟩ := hK m meth c ⟨T.setVm vm₁, locs, cells, slots⟩ { g with stack := rest } (.invokestatic index) mk argsL.toArray X₁ hg hsize hdg hW (X₁.named hnamed) (hpre vm₁ X₁.warmed)
  exact ⟨v, vm₁, B, X₁.warmed, X', hpost, fun target h => hstep₁ _ fun acts => by rw [doInvoke_state]; exact hsteps.trans h⟩
theorem vx_runSW {y : MethodName} {bytes cc : ByteArray} {maxL nL mc ms n index : Nat} {ret : Option FieldType} {hh : List (Nat × Nat × Nat × Nat)} {ws : List Cond} {rm : Room} {Pc : Array Value → State → Prop} {Qc : Array Value → State → Outcome → State → Prop} {free : Addr → Prop} {Ts : List Cond} {own : String} {As rest : List Value} {g : JFrame}
    (S : CallFix p m c cc nL s args Ts own) (hM : Met l y ws rm Pc Qc mc ms free) (cw : vx_CSW R s args own index y bytes maxL ret hh ws rm mc ms n) (hp : PreS s H Pc As)
    (hg : g.method = m) (hn : As.length = n) (hsize : g.locals.size = nL) (hstack : g.stack = As.reverse ++ rest) (hW : 2 * g.monitorRoom + (rest.map fun v => v.category).sum ≤ 8) (hdg : decode cc g.pc = .ok (.invokestatic index, 3)) (hf : cells + mc ≤ R.cells ∧ slots + ms ≤ R.slots) :
    va_Run p l e R s m args below meth c H locs cells slots mc ms g rest (Qc As.toArray) (free) := by
  obtain ⟨⟨hrc, hrs, hfr, hlo, hws, hcw⟩, hcode, hini, hy, hlen, hl, hstt⟩ := cw
  have hK : Back l R p e below s args y 3 8 (PreOf R mc ms Pc) (PostOf Qc mc ms free) := va_backW (hh := hh) (bytes := bytes) (maxL := maxL) (ret := ret) hM hp.1 hrc hrs hfr hlo hws hcw (fun a' U hW => word_at hW (Or.inl (by first | rfl | simp [Cond.onTables, Cond.keeps, Cond.steady])) hini)
  obtain ⟨hx, hb, hml, ho, -⟩ := S
  intro T hT X
  obtain ⟨v, vm₁, ⟨U', l2, c2, s2⟩, hW₁, X', ⟨g', mk, t, L, e1, e2, hq, h1, hL, h2, h3⟩, st⟩ := vx_callSW X hx (hh := hh) (bytes := bytes) (maxL := maxL) (ret := ret) ho hl hstt hini hcode hy hK hg (hsize.trans hml.symm) (argsL := As) (rest := rest) (fun sig h => hn.trans (hlen sig h)) hstack hW (by rw [hb]; exact hdg)
    (fun vm₁ hW₁ => ⟨hf.1, hf.2, hp.2 (T.setVm vm₁) hT hW₁⟩)
  dsimp only [Pt.U, Pt.locs, Pt.cells, Pt.slots] at X' e1 e2 h1 h2 h3 st
  subst h1; subst h2; subst h3
  exact ⟨v, (T.setVm vm₁).calling g' mk As.toArray, t, U', L, hT, X', hL, e1, e2, hq, st⟩
/-- not caught here, past rows that name other classes: it goes on to the caller -/
theorem vx_outP {p : Program} {l : Launch} {e : Env} {R : Room} {s : State} {m : MethodId} {args : Array Value} {below : List Frame} {meth : Method} {c : Code} {H : Heap} {locs : List Loc} {cells slots : Nat} {free : Addr → Prop} {ls : Array Slot} {rest : List Value} {Qc : Array Value → State → Outcome → State → Prop} {XC : String → State → State → Prop}
    {pc : Nat} {own E : String} {ce : Cell} {q : Addr} {mc ms : Nat} (hown : s.vm.findClass own = some m.cls) (hlocks : meth.locks = false)
    (hpass : ∀ z ∈ c.exceptionTable.toList, covers z pc = false ∨ (z.catchType ≠ 0 ∧ ∃ nm : String, (Cond.classLink own z.catchType nm).before args s = true ∧ va_Nc E nm s)) (hcell : H[q]? = some ce) (hv : ce.vm = .none) (hcl : s.vm.findClass E = some ce.cls)
    (hx : ∀ t : State, t.heap = H → s.vm.Alike t.vm → XC E s t) (hf : ∀ z ∈ locs, free z.base) (hc : cells ≤ mc) (hs : slots ≤ ms) :
    vx_W p l e R s m args below meth c H locs cells slots (vx_MQ below Qc XC args s mc ms free) (F0 m pc ls rest) q := by
  intro T hT X
  have hpl : e.platform.magicAccessors = ({} : Platform).magicAccessors := by rw [X.admits.platform]
  obtain ⟨vm', hW', X', st⟩ := X.outThrough hlocks q (g := F0 m pc ls rest) rfl rfl rfl (cell := ce) (by rw [hT]; exact hcell) (by rw [hv]; rfl)
    (by obtain ⟨k9, h9, -⟩ := Vm.findClass_spec hcl; exact ⟨k9, h9⟩) (fun z hz => by
      rcases hpass z hz with h | ⟨hz0, nm, hl1, hn1⟩
      · exact Or.inl h
      · obtain ⟨c6, hc6, hcl6⟩ := Cond.classLink_spec hown hl1 e.platform hpl
        obtain ⟨a8, b8, h1, h2, h3⟩ := hn1
        cases Option.some.inj (h1.symm.trans hcl)
        cases Option.some.inj (h2.symm.trans hc6)
        exact Or.inr ⟨hz0, _, hcl6, h3⟩)
  obtain ⟨g₀, hfr⟩ := X'.frames_eq
  have hcell9 : ((T.setVm vm').setFrames (.throwing q :: below)).heap[q]? = some ce := by
    show T.heap[q]? = some ce
    rw [hT]; exact hcell
  have hend : Ended ((T.setVm vm').setFrames (.throwing q :: below)) below (.threw q) := State.frames_setFrames _ (State.cur_lt_of_frames hfr)
  refine ⟨(T.setVm vm').setFrames (.throwing q :: below), ?_, .threw q, X'.here.running, hend, Or.inr ⟨q, rfl, E, ce, locs, hx _ hT (X'.ends _).1.alike, hcell9, hv, hcl, (X'.ends _).1, (X'.ends _).2.mono hc hs, hf⟩⟩
  rw [X.pushThrowing_eq]
  exact st
/-- a thing of a world lies in the heap -/
theorem vx_lt {D : va_G} {cl : List vw_C} {ws : va_W} {H1 : Heap} (h : va_P D cl ws H1) {k : Nat} {q : Nat × va_E} (hk : ws[k]? = some q) : q.1 < H1.size := (h k q hk).lt
end VXS
/-! ===== END ===== -/
/-! ===== BEGIN methods with a table of their own: called by a name, returning or throwing ===== -/
section VXH
/-! vx_backW, vx_callVX, vx_callSX, vx_callVW, vx_runVW, vx_runVX, vx_runSX, vx_ofWH follow the same proofs as their sisters above (Free/Laws.lean, Shelf42/LK1.lean); vx_outP calls Shelf42/NT130.lean (outThrough). -/
section
variable {l : Launch} {R : Room} {p : Program} {e : Env} {below : List Frame} {s : State} {sargs : Array Value} {y : MethodName} {len W9 : Nat}
theorem vx_backW {ws : List Cond} {rm : Room} {Pc : Array Value → State → Prop} {Qc : Array Value → State → Outcome → State → Prop} {XC : String → State → State → Prop} {mc ms : Nat} {free : Addr → Prop} {bytes : ByteArray} {maxL : Nat} {ret : Option FieldType} {hh : List (Nat × Nat × Nat × Nat)}
    (hM : vx_Met l y ws rm Pc Qc XC mc ms free) (hblind : FrameBlind Pc) (hrc : rm.cells = mc) (hrs : rm.slots = ms)
    (hframes : rm.frames + 1 ≤ R.frames) (hlocals : W9 + (maxL + 11) + rm.locals ≤ R.locals)
    (hws : ∀ w ∈ ws, ∀ a' U, s.WarmedH U.vm → w.before a' U = true) (hcode : Cond.codeWith y bytes maxL ret hh ∈ ws) (hinit : ∀ a' U, s.WarmedH U.vm → (Cond.initialized y.cls).before a' U = true) :
    vx_Back l R p e below s sargs y len W9 (PreOf R mc ms Pc) (PostOf Qc mc ms free) (vx_Post XC mc ms free) := by
  intro m meth c A g ig mk a X hg hsize hdg hW hn hp
  have h1 : (headSpec ws rm).pre.before a A.U = true := atoms_intro fun w hw => hws w hw _ _ X.warmed
  have h2 : (Cond.codeWith y bytes maxL ret hh).before a A.U = true := hws _ hcode _ _ X.warmed
  have h3 : (Cond.initialized y.cls).before a A.U = true := hinit _ _ X.warmed
  have h4 : A.cells + (headSpec ws rm).room.cells ≤ R.cells := by rw [show (headSpec ws rm).room.cells = mc from hrc]; exact hp.1
  have h5 : A.slots + (headSpec ws rm).room.slots ≤ R.slots := by rw [show (headSpec ws rm).room.slots = ms from hrs]; exact hp.2.1
  have hPc : Pc a (A.U.calling g mk a) := hblind _ _ _ _ hp.2.2
  obtain ⟨U, Ls, c0, s0⟩ := A
  dsimp only [Pt.U, Pt.locs, Pt.cells, Pt.slots] at h1 h2 h3 h4 h5 X hn hPc ⊢
  obtain ⟨m9, methY, cY, hn9, hmY, hcY, -, hlY, -⟩ := Cond.codeWith_spec h2
  cases Option.some.inj (hn9.symm.trans hn)
  obtain ⟨kY, hkY, -⟩ := className_of_methodNamed hn
  have hinitY : kY.init = .initialized := Cond.initialized_spec (findClass_of_methodNamed hn) hkY h3
  have h : At U g.method c below := by rw [hg]; exact X.here
  have hlocals9 : W9 + (maxL + 11) + (headSpec ws rm).room.locals ≤ R.locals := hlocals
  have happ : (headSpec ws rm).appliesLoose y e.platform (U.calling g mk a) = true :=
    Spec.appliesLoose_calling (g := g) h hdg hn hkY hinitY
      (X.room_calling (g := g) (R' := (headSpec ws rm).room) hsize hmY hcY hframes (by rw [hlY]; omega) h4 h5) h1
  obtain ⟨mid, hmid⟩ := h.above
  have hfr : (U.setTop g).frames = (.java g :: mid) ++ below := by rw [State.frames_setTop' g h.top, hmid]; rfl
  obtain ⟨o, s₂, hsteps, -, hend, hq⟩ := Steps.callFree hM p X.admits X.cas X.clock (acts := []) hfr happ hPc trivial
  have hq' : vx_Q Qc XC mc ms free a (U.calling g mk a) o s₂ := hq
  rw [State.frames_setTop' g h.top] at hend
  obtain ⟨g₀, hg0⟩ := Option.isSome_iff_exists.mp h.top
  obtain ⟨r, hr⟩ := State.topJava?_eq_some.mp hg0
  have hr' : (({ U with heap := s₂.heap, slotsUsed := s₂.slotsUsed } : State).setVm s₂.vm).frames = .java g₀ :: r := hr
  rcases hq' with ⟨hqc, L, hfe, hL⟩ | ⟨q, rfl, E, ce, L, hx, hce, hcv, hcl, hW₂, hsm, hL⟩
  · obtain ⟨⟨v, rfl⟩, hW₂, e2, q2, q3, q4, q5, q6⟩ := id hfe
    have e3 : s₂ = ({ (U.calling g mk a).setFrames s₂.frames with heap := s₂.heap, slotsUsed := s₂.slotsUsed } : State).setVm s₂.vm := by
      have : s₂ = ({ s₂ with vm := (U.calling g mk a).vm } : State).setVm s₂.vm := rfl
      rw [e2] at this
      exact this
    obtain ⟨c₂, i₂, len₂, hc₂, hd₂, hf₂⟩ := hend
    have hW' : U.WarmedH s₂.vm := hW₂
    have hcc : c₂ = c := by
      have h1 : s₂.code? g.method = U.code? g.method := by
        rw [State.code?_eq, State.code?_eq, hW'.alike.method?]
      exact Option.some.inj (hc₂.symm.trans (h1.trans h.code))
    subst hcc
    have hlen : len₂ = len := by rw [hdg] at hd₂; cases hd₂; rfl
    subst hlen
    have hs₂ : s₂ = (({ U with heap := s₂.heap, slotsUsed := s₂.slotsUsed } : State).setVm s₂.vm).setTop { g with pc := g.pc + len₂, stack := v.toList ++ g.stack } := by
      refine e3.trans ?_
      rw [hf₂, State.calling_eq h.top, State.setFrames_setFrames, State.setTop_of_frames _ hr', hr]
      rfl
    have hsame : U.sameButNew ({ U with heap := s₂.heap, slotsUsed := s₂.slotsUsed } : State) L mc ms := by
      refine ⟨?_, q2, q3, q4, q5, q6⟩
      obtain ⟨t, ht, -⟩ := State.frames_cons hr
      show ({ U with heap := s₂.heap, slotsUsed := s₂.slotsUsed } : State) = { U.setFrames U.frames with heap := s₂.heap, slotsUsed := s₂.slotsUsed }
      rw [State.setFrames_self ht]
    subst hg
    refine Or.inl ⟨v, ⟨(({ U with heap := s₂.heap, slotsUsed := s₂.slotsUsed } : State).setVm s₂.vm), Ls ++ L, c0 + mc, s0 + ms⟩,
      ⟨X.admits, X.cas, X.clock, X.frames, X.room, X.hears, X.method, X.code, (X.here.setHeapUsed s₂.heap s₂.slotsUsed).setVm hW'.alike, X.tail, State.WarmedH.trans X.warmed hW', X.limits, X.bytes, X.same.trans (hsame.setVm s.vm)⟩,
      ⟨g, mk, s₂, L, rfl, rfl, hqc, rfl, hL, rfl, rfl⟩, ?_⟩
    show Steps p.tables e below _ ((({ U with heap := s₂.heap, slotsUsed := s₂.slotsUsed } : State).setVm s₂.vm).setTop { g with pc := g.pc + len₂, stack := v.toList ++ g.stack })
    rw [← hs₂]
    exact hsteps
  · obtain ⟨e2, q2, q3, q4, q5, q6⟩ := id hsm
    have e3 : s₂ = ({ (U.calling g mk a).setFrames s₂.frames with heap := s₂.heap, slotsUsed := s₂.slotsUsed } : State).setVm s₂.vm := by
      have : s₂ = ({ s₂ with vm := (U.calling g mk a).vm } : State).setVm s₂.vm := rfl
      rw [e2] at this
      exact this
    have hf₂ : s₂.frames = .throwing q :: .java g :: U.frames.tail := hend
    have hW' : U.WarmedH s₂.vm := hW₂
    have hs₂ : s₂ = ((({ U with heap := s₂.heap, slotsUsed := s₂.slotsUsed } : State).setVm s₂.vm).setTop g).pushFrame (.throwing q) := by
      refine e3.trans ?_
      rw [hf₂, State.calling_eq h.top, State.setFrames_setFrames, State.pushFrame, State.frames_setTop _ hr', State.setTop_of_frames _ hr', State.setFrames_setFrames, hr]
      rfl
    have hsame : U.sameButNew ({ U with heap := s₂.heap, slotsUsed := s₂.slotsUsed } : State) L mc ms := by
      refine ⟨?_, q2, q3, q4, q5, q6⟩
      obtain ⟨t, ht, -⟩ := State.frames_cons hr
      show ({ U with heap := s₂.heap, slotsUsed := s₂.slotsUsed } : State) = { U.setFrames U.frames with heap := s₂.heap, slotsUsed := s₂.slotsUsed }
      rw [State.setFrames_self ht]
    subst hg
    refine Or.inr ⟨q, ⟨(({ U with heap := s₂.heap, slotsUsed := s₂.slotsUsed } : State).setVm s₂.vm), Ls ++ L, c0 + mc, s0 + ms⟩,
      ⟨X.admits, X.cas, X.clock, X.frames, X.room, X.hears, X.method, X.code, (X.here.setHeapUsed s₂.heap s₂.slotsUsed).setVm hW'.alike, X.tail, State.WarmedH.trans X.warmed hW', X.limits, X.bytes, X.same.trans (hsame.setVm s.vm)⟩,
      ⟨g, mk, s₂, L, E, ce, rfl, rfl, hx, hce, hcv, hcl, rfl, hL, rfl, rfl⟩, ?_⟩
    show Steps p.tables e below _ (((({ U with heap := s₂.heap, slotsUsed := s₂.slotsUsed } : State).setVm s₂.vm).setTop g).pushFrame (.throwing q))
    rw [← hs₂]
    exact hsteps
end
variable {p : Program} {l : Launch} {e : Env} {R : Room} {s : State} {m : MethodId} {args : Array Value} {below : List Frame} {meth : Method} {c : Code} {T : State} {H : Heap} {locs : List Loc} {cells slots : Nat}
theorem vx_callVX (X : Stand p l e R s m args below meth c T locs cells slots) (hexec : p.tables.exec = Jvm.exec) {own C : String} {index : Nat} {y : MethodName} {bytes : ByteArray} {maxL : Nat} {ret : Option FieldType} {hh : List (Nat × Nat × Nat × Nat)}
    (hown : s.vm.findClass own = some m.cls) (hlink : (Cond.methodLink own index y).before args s = true) (hinst : (Cond.instanceMethod y).before args s = true) (hsel : (Cond.selects C y y).before args s = true)
    (hcode : (Cond.codeWith y bytes maxL ret hh).before args s = true) (hy : y.cls ≠ "java/lang/invoke/MethodHandle" ∧ y.cls ≠ "java/lang/invoke/VarHandle")
    {W9 : Nat} {Pre : Pt → Array Value → Prop} {Post : Pt → Array Value → Option Value → Pt → Prop} {PostX : Pt → Array Value → Addr → Pt → Prop} (hK : vx_Back l R p e below s args y 3 W9 Pre Post PostX)
    {b : Addr} {cellB : Cell} (hcell : T.heap[b]? = some cellB) (hobj : cellB.vm.isStatics = false) (hcls : s.vm.findClass C = some cellB.cls)
    {g : JFrame} (hg : g.method = m) (hsize : g.locals.size = c.maxLocals) {argsL rest : List Value} (hlen : ∀ sig, parseMethodDescriptor y.desc = some sig → argsL.length = sig.parameters.length)
    (hstack : g.stack = argsL.reverse ++ .ref b :: rest) (hW : 2 * g.monitorRoom + (rest.map fun v => v.category).sum ≤ W9) (hdg : decode c.code g.pc = .ok (.invokevirtual index, 3))
    (hpre : ∀ vm₁, s.WarmedH vm₁ → Pre ⟨T.setVm vm₁, locs, cells, slots⟩ (Value.ref b :: argsL).toArray) :
    (∃ (v : Option Value) (vm₁ : Vm) (B : Pt), s.WarmedH vm₁ ∧ Stand p l e R s m args below meth c B.U B.locs B.cells B.slots ∧ Post ⟨T.setVm vm₁, locs, cells, slots⟩ (Value.ref b :: argsL).toArray v B ∧
      ∀ target, Steps p.tables e below (B.U.setTop { g with pc := g.pc + 3, stack := v.toList ++ rest }) target → Steps p.tables e below (T.setTop g) target) ∨
    (∃ (q : Addr) (vm₁ : Vm) (B : Pt), s.WarmedH vm₁ ∧ Stand p l e R s m args below meth c B.U B.locs B.cells B.slots ∧ PostX ⟨T.setVm vm₁, locs, cells, slots⟩ (Value.ref b :: argsL).toArray q B ∧
      Steps p.tables e below (T.setTop g) ((B.U.setTop { g with stack := rest }).pushFrame (.throwing q))) := by
  obtain ⟨mk, methM, hnamed, hmethM, hstM, habM⟩ := Cond.instanceMethod_spec hinst
  obtain ⟨m8, methM', cM, hn8, hmethM', -, -, -, -, -, -, hsigM⟩ := Cond.codeWith_spec hcode
  cases Option.some.inj (hn8.symm.trans hnamed)
  cases hmethM.symm.trans hmethM'
  obtain ⟨c2, r2, m2, q1, q2, q3, q4, kP, hkP, hkPi⟩ := Cond.selects_spec hsel
  cases hcls.symm.trans q1
  cases (State.methodFound?_of_named hnamed hy).symm.trans q2
  cases hnamed.symm.trans q3
  have hselP : selectMethod e.platform s.vm cellB.cls mk = .method mk := by rw [Launch.admits_selectMethod X.admits]; exact q4
  obtain ⟨vm₁, X₁, hstep₁⟩ := X.invokevirtual hexec hown hlink hnamed hmethM hstM hkP hkPi hy (a := b) (cell := cellB) hcell
    (fun z h => by rw [h] at hobj; cases hobj) hselP hmethM habM hkP hkPi (g := g) hg (argsL := argsL) (rest := rest) (hlen _ hsigM) hstack hdg
  rcases hK m meth c ⟨T.setVm vm₁, locs, cells, slots⟩ { g with stack := rest } (.invokevirtual index) mk (Value.ref b :: argsL).toArray X₁ hg hsize hdg hW (X₁.named hnamed) (hpre vm₁ X₁.warmed) with ⟨v, B, X', hpost, hsteps⟩ | ⟨q, B, X', hpost, hsteps⟩
  · exact Or.inl ⟨v, vm₁, B, X₁.warmed, X', hpost, fun target h => hstep₁ _ fun acts => by rw [doInvoke_state]; exact hsteps.trans h⟩
  · exact Or.inr ⟨q, vm₁, B, X₁.warmed, X', hpost, hstep₁ _ fun acts => by rw [doInvoke_state]; exact hsteps⟩
theorem vx_callSX (X : Stand p l e R s m args below meth c T locs cells slots) (hexec : p.tables.exec = Jvm.exec) {own : String} {index : Nat} {y : MethodName} {bytes : ByteArray} {maxL : Nat} {ret : Option FieldType} {hh : List (Nat × Nat × Nat × Nat)}
    (hown : s.vm.findClass own = some m.cls) (hlink : (Cond.methodLink own index y).before args s = true) (hstat : (Cond.static y).before args s = true) (hinit : (Cond.initialized y.cls).before args s = true)
    (hcode : (Cond.codeWith y bytes maxL ret hh).before args s = true) (hy : y.cls ≠ "java/lang/invoke/MethodHandle" ∧ y.cls ≠ "java/lang/invoke/VarHandle")
    {W9 : Nat} {Pre : Pt → Array Value → Prop} {Post : Pt → Array Value → Option Value → Pt → Prop} {PostX : Pt → Array Value → Addr → Pt → Prop} (hK : vx_Back l R p e below s args y 3 W9 Pre Post PostX)
    {g : JFrame} (hg : g.method = m) (hsize : g.locals.size = c.maxLocals) {argsL rest : List Value} (hlen : ∀ sig, parseMethodDescriptor y.desc = some sig → argsL.length = sig.parameters.length)
    (hstack : g.stack = argsL.reverse ++ rest) (hW : 2 * g.monitorRoom + (rest.map fun v => v.category).sum ≤ W9) (hdg : decode c.code g.pc = .ok (.invokestatic index, 3))
    (hpre : ∀ vm₁, s.WarmedH vm₁ → Pre ⟨T.setVm vm₁, locs, cells, slots⟩ argsL.toArray) :
    (∃ (v : Option Value) (vm₁ : Vm) (B : Pt), s.WarmedH vm₁ ∧ Stand p l e R s m args below meth c B.U B.locs B.cells B.slots ∧ Post ⟨T.setVm vm₁, locs, cells, slots⟩ argsL.toArray v B ∧
      ∀ target, Steps p.tables e below (B.U.setTop { g with pc := g.pc + 3, stack := v.toList ++ rest }) target → Steps p.tables e below (T.setTop g) target) ∨
    (∃ (q : Addr) (vm₁ : Vm) (B : Pt), s.WarmedH vm₁ ∧ Stand p l e R s m args below meth c B.U B.locs B.cells B.slots ∧ PostX ⟨T.setVm vm₁, locs, cells, slots⟩ argsL.toArray q B ∧
      Steps p.tables e below (T.setTop g) ((B.U.setTop { g with stack := rest }).pushFrame (.throwing q))) := by
  obtain ⟨mk, methM, cM, hnamed, hmethM, -, -, -, -, -, -, hsigM⟩ := Cond.codeWith_spec hcode
  have hstatic : methM.isStatic = true := Cond.static_spec hnamed hmethM hstat
  obtain ⟨kP, hkP, -⟩ := className_of_methodNamed hnamed
  have hinitP : kP.init = .initialized := Cond.initialized_spec (findClass_of_methodNamed hnamed) hkP hinit
  obtain ⟨vm₁, X₁, hstep₁⟩ := X.invokestatic hexec hown hlink hnamed hmethM hstatic hkP hinitP hy (g := g) hg (argsL := argsL) (rest := rest) (hlen _ hsigM) hstack hdg
  rcases hK m meth c ⟨T.setVm vm₁, locs, cells, slots⟩ { g with stack := rest } (.invokestatic index) mk argsL.toArray X₁ hg hsize hdg hW (X₁.named hnamed) (hpre vm₁ X₁.warmed) with ⟨v, B, X', hpost, hsteps⟩ | ⟨q, B, X', hpost, hsteps⟩
  · exact Or.inl ⟨v, vm₁, B, X₁.warmed, X', hpost, fun target h => hstep₁ _ fun acts => by rw [doInvoke_state]; exact hsteps.trans h⟩
  · exact Or.inr ⟨q, vm₁, B, X₁.warmed, X', hpost, hstep₁ _ fun acts => by rw [doInvoke_state]; exact hsteps⟩
theorem vx_callVW (X : Stand p l e R s m args below meth c T locs cells slots) (hexec : p.tables.exec = Jvm.exec) {own C : String} {index : Nat} {y : MethodName} {bytes : ByteArray} {maxL : Nat} {ret : Option FieldType} {hh : List (Nat × Nat × Nat × Nat)}
    (hown : s.vm.findClass own = some m.cls) (hlink : (Cond.methodLink own index y).before args s = true) (hinst : (Cond.instanceMethod y).before args s = true) (hsel : (Cond.selects C y y).before args s = true)
    (hcode : (Cond.codeWith y bytes maxL ret hh).before args s = true) (hy : y.cls ≠ "java/lang/invoke/MethodHandle" ∧ y.cls ≠ "java/lang/invoke/VarHandle")
    {W9 : Nat} {Pre : Pt → Array Value → Prop} {Post : Pt → Array Value → Option Value → Pt → Prop} (hK : Back l R p e below s args y 3 W9 Pre Post)
    {b : Addr} {cellB : Cell} (hcell : T.heap[b]? = some cellB) (hobj : cellB.vm.isStatics = false) (hcls : s.vm.findClass C = some cellB.cls)
    {g : JFrame} (hg : g.method = m) (hsize : g.locals.size = c.maxLocals) {argsL rest : List Value} (hlen : ∀ sig, parseMethodDescriptor y.desc = some sig → argsL.length = sig.parameters.length)
    (hstack : g.stack = argsL.reverse ++ .ref b :: rest) (hW : 2 * g.monitorRoom + (rest.map fun v => v.category).sum ≤ W9) (hdg : decode c.code g.pc = .ok (.invokevirtual index, 3))
    (hpre : ∀ vm₁, s.WarmedH vm₁ → Pre ⟨T.setVm vm₁, locs, cells, slots⟩ (Value.ref b :: argsL).toArray) :
    ∃ (v : Option Value) (vm₁ : Vm) (B : Pt), s.WarmedH vm₁ ∧ Stand p l e R s m args below meth c B.U B.locs B.cells B.slots ∧ Post ⟨T.setVm vm₁, locs, cells, slots⟩ (Value.ref b :: argsL).toArray v B ∧
      ∀ target, Steps p.tables e below (B.U.setTop { g with pc := g.pc + 3, stack := v.toList ++ rest }) target → Steps p.tables e below (T.setTop g) target := by
  obtain ⟨mk, methM, hnamed, hmethM, hstM, habM⟩ := Cond.instanceMethod_spec hinst
  obtain ⟨m8, methM', cM, hn8, hmethM', -, -, -, -, -, -, hsigM⟩ := Cond.codeWith_spec hcode
  cases Option.some.inj (hn8.symm.trans hnamed)
  cases hmethM.symm.trans hmethM'
  obtain ⟨c2, r2, m2, q1, q2, q3, q4, kP, hkP, hkPi⟩ := Cond.selects_spec hsel
  cases hcls.symm.trans q1
  cases (State.methodFound?_of_named hnamed hy).symm.trans q2
  cases hnamed.symm.trans q3
  have hselP : selectMethod e.platform s.vm cellB.cls mk = .method mk := by rw [Launch.admits_selectMethod X.admits]; exact q4
  obtain ⟨vm₁, X₁, hstep₁⟩ := X.invokevirtual hexec hown hlink hnamed hmethM hstM hkP hkPi hy (a := b) (cell := cellB) hcell
    (fun z h => by rw [h] at hobj; cases hobj) hselP hmethM habM hkP hkPi (g := g) hg (argsL := argsL) (rest := rest) (hlen _ hsigM) hstack hdg
  obtain ⟨v, B, X', hpost, hsteps⟩ := hK m meth c ⟨T.setVm vm₁, locs, cells, slots⟩ { g with stack := rest } (.invokevirtual index) mk (Value.ref b :: argsL).toArray X₁ hg hsize hdg hW (X₁.named hnamed) (hpre vm₁ X₁.warmed)
  exact ⟨v, vm₁, B, X₁.warmed, X', hpost, fun target h => hstep₁ _ fun acts => by rw [doInvoke_state]; exact hsteps.trans h⟩
abbrev vx_CVW (R : Room) (s : State) (args : Array Value) (own C : String) (index : Nat) (y : MethodName) (bytes : ByteArray) (maxL : Nat) (ret : Option FieldType) (hh : List (Nat × Nat × Nat × Nat)) (ws : List Cond) (rm : Room) (mc ms n : Nat) : Prop :=
  (rm.cells = mc ∧ rm.slots = ms ∧ rm.frames + 1 ≤ R.frames ∧ 8 + (maxL + 11) + rm.locals ≤ R.locals ∧ (∀ w ∈ ws, ∀ (a' : Array Value) (U : State), s.WarmedH U.vm → w.before a' U = true) ∧ Cond.codeWith y bytes maxL ret hh ∈ ws) ∧
  (Cond.codeWith y bytes maxL ret hh).before args s = true ∧ (Cond.initialized y.cls).before args s = true ∧ (y.cls ≠ "java/lang/invoke/MethodHandle" ∧ y.cls ≠ "java/lang/invoke/VarHandle") ∧
  (∀ sig, parseMethodDescriptor y.desc = some sig → n = sig.parameters.length) ∧ (Cond.methodLink own index y).before args s = true ∧ (Cond.instanceMethod y).before args s = true ∧ (Cond.selects C y y).before args s = true
theorem vx_cwVW {own C : String} {index maxL mc ms : Nat} {y : MethodName} {bytes : ByteArray} {ret : Option FieldType} {hh : List (Nat × Nat × Nat × Nat)} {Ts ws ws' : List Cond} {rm : Room} (n : Nat) (ht : ∀ w ∈ Ts, w.before args s = true) (hT : GoodIn Ts (wsV own index C y ws)) (hw : ws = Cond.codeWith y bytes maxL ret hh :: ws') (hrc : rm.cells = mc) (hrs : rm.slots = ms)
    (hd : y.cls = C ∧ y.cls ≠ "java/lang/invoke/MethodHandle" ∧ y.cls ≠ "java/lang/invoke/VarHandle" ∧ (parseMethodDescriptor y.desc).map (fun d => d.parameters.length) = some n) (hR : rm.frames + 1 ≤ R.frames ∧ 8 + (maxL + 11) + rm.locals ≤ R.locals) :
    vx_CVW R s args own C index y bytes maxL ret hh ws rm mc ms n := by
  obtain ⟨hC, hd⟩ := hd
  subst hC
  have ok : ∀ w ∈ wsV own index y.cls y ws, w.before args s = true := fun w h => ht w (hT w h).1
  have hG : GoodIn Ts ws := fun w h => hT w (by unfold wsV; exact List.mem_append_right _ h)
  have hc : Cond.codeWith y bytes maxL ret hh ∈ ws := by rw [hw]; exact List.mem_cons_self
  refine ⟨⟨hrc, hrs, hR.1, hR.2, pay_in ht hG, hc⟩, ht _ (hG _ hc).1, ok _ (by simp [wsV]), ⟨hd.1, hd.2.1⟩, fun sig h => ?_, ok _ (by simp [wsV]), ok _ (by simp [wsV]), ok _ (by simp [wsV])⟩
  have h2 := hd.2.2
  rw [h] at h2
  exact (Option.some.inj h2).symm
theorem vx_runVW {y : MethodName} {bytes cc : ByteArray} {maxL nL mc ms n index : Nat} {ret : Option FieldType} {hh : List (Nat × Nat × Nat × Nat)} {ws : List Cond} {rm : Room} {Pc : Array Value → State → Prop} {Qc : Array Value → State → Outcome → State → Prop} {free : Addr → Prop} {Ts : List Cond} {own C : String} {b : Addr} {As rest : List Value} {g : JFrame}
    (S : CallFix p m c cc nL s args Ts own) (hM : Met l y ws rm Pc Qc mc ms free) (cw : vx_CVW R s args own C index y bytes maxL ret hh ws rm mc ms n) (hp : PreV s H C b Pc As)
    (hg : g.method = m) (hn : As.length = n) (hsize : g.locals.size = nL) (hstack : g.stack = As.reverse ++ .ref b :: rest) (hW : 2 * g.monitorRoom + (rest.map fun v => v.category).sum ≤ 8) (hdg : decode cc g.pc = .ok (.invokevirtual index, 3)) (hf : cells + mc ≤ R.cells ∧ slots + ms ≤ R.slots) :
    va_Run p l e R s m args below meth c H locs cells slots mc ms g rest (Qc (Value.ref b :: As).toArray) free := by
  obtain ⟨⟨hrc, hrs, hfr, hlo, hws, hcw⟩, hcode, hini, hy, hlen, hl, hin, hse⟩ := cw
  have hK : Back l R p e below s args y 3 8 (PreOf R mc ms Pc) (PostOf Qc mc ms free) := va_backW (hh := hh) (bytes := bytes) (maxL := maxL) (ret := ret) hM hp.1 hrc hrs hfr hlo hws hcw (fun a' U hW => word_at hW (Or.inl (by first | rfl | simp [Cond.onTables, Cond.keeps, Cond.steady])) hini)
  obtain ⟨hx, hb, hml, ho, -⟩ := S
  obtain ⟨-, ⟨cellB, hcB, hoB, hclB⟩, hPc⟩ := hp
  intro T hT X
  obtain ⟨v, vm₁, ⟨U', l2, c2, s2⟩, hW₁, X', ⟨g', mk, t, L, e1, e2, hq, h1, hL, h2, h3⟩, st⟩ := vx_callVW X hx (C := C) (hh := hh) (bytes := bytes) (maxL := maxL) (ret := ret) ho hl hin hse hcode hy hK (by rw [hT]; exact hcB) hoB hclB hg (hsize.trans hml.symm) (argsL := As) (rest := rest) (fun sig h => hn.trans (hlen sig h)) hstack hW (by rw [hb]; exact hdg)
    (fun vm₁ hW₁ => ⟨hf.1, hf.2, hPc (T.setVm vm₁) hT hW₁⟩)
  dsimp only [Pt.U, Pt.locs, Pt.cells, Pt.slots] at X' e1 e2 h1 h2 h3 st
  subst h1; subst h2; subst h3
  exact ⟨v, (T.setVm vm₁).calling g' mk (Value.ref b :: As).toArray, t, U', L, hT, X', hL, e1, e2, hq, st⟩
section
variable {y : MethodName} {bytes cc : ByteArray} {maxL nL mc ms n index : Nat} {ret : Option FieldType} {ws : List Cond} {rm : Room} {Pc : Array Value → State → Prop} {Qc : Array Value → State → Outcome → State → Prop} {XC : String → State → State → Prop} {free : Addr → Prop} {Ts : List Cond} {own C : String} {b : Addr} {As rest : List Value} {g : JFrame}
theorem vx_runVX {hh : List (Nat × Nat × Nat × Nat)} (S : CallFix p m c cc nL s args Ts own) (hM : vx_Met l y ws rm Pc Qc XC mc ms free) (cw : vx_CVW R s args own C index y bytes maxL ret hh ws rm mc ms n) (hp : PreV s H C b Pc As)
    (hg : g.method = m) (hn : As.length = n) (hsize : g.locals.size = nL) (hstack : g.stack = As.reverse ++ .ref b :: rest) (hW : 2 * g.monitorRoom + (rest.map fun v => v.category).sum ≤ 8) (hdg : decode cc g.pc = .ok (.invokevirtual index, 3)) (hf : cells + mc ≤ R.cells ∧ slots + ms ≤ R.slots) :
    vx_Run p l e R s m args below meth c H locs cells slots mc ms g rest (Qc (Value.ref b :: As).toArray) XC free := by
  obtain ⟨⟨hrc, hrs, hfr, hlo, hws, hcw⟩, hcode, hini, hy, hlen, hl, hin, hse⟩ := cw
  have hK : vx_Back l R p e below s args y 3 8 (PreOf R mc ms Pc) (PostOf Qc mc ms free) (vx_Post XC mc ms free) := vx_backW (hh := hh) (bytes := bytes) (maxL := maxL) (ret := ret) hM hp.1 hrc hrs hfr hlo hws hcw (fun a' U hW => word_at hW (Or.inl (by first | rfl | simp [Cond.onTables, Cond.keeps, Cond.steady])) hini)
  obtain ⟨hx, hb, hml, ho, -⟩ := S
  obtain ⟨-, ⟨cellB, hcB, hoB, hclB⟩, hPc⟩ := hp
  intro T hT X
  rcases vx_callVX X hx (C := C) (hh := hh) (bytes := bytes) (maxL := maxL) (ret := ret) ho hl hin hse hcode hy hK (by rw [hT]; exact hcB) hoB hclB hg (hsize.trans hml.symm) (argsL := As) (rest := rest) (fun sig h => hn.trans (hlen sig h)) hstack hW (by rw [hb]; exact hdg)
    (fun vm₁ hW₁ => ⟨hf.1, hf.2, hPc (T.setVm vm₁) hT hW₁⟩) with ⟨v, vm₁, ⟨U', l2, c2, s2⟩, hW₁, X', ⟨g', mk, t, L, e1, e2, hq, h1, hL, h2, h3⟩, st⟩ | ⟨q, vm₁, ⟨U', l2, c2, s2⟩, hW₁, X', ⟨g', mk, t, L, E, ce, e1, e2, hq, hce, hcv, hcl, h1, hL, h2, h3⟩, st⟩
  · dsimp only [Pt.U, Pt.locs, Pt.cells, Pt.slots] at X' e1 e2 h1 h2 h3 st
    subst h1; subst h2; subst h3
    exact Or.inl ⟨v, (T.setVm vm₁).calling g' mk (Value.ref b :: As).toArray, t, U', L, hT, X', hL, e1, e2, hq, st⟩
  · dsimp only [Pt.U, Pt.locs, Pt.cells, Pt.slots] at X' e1 e2 h1 h2 h3 st hcl
    subst h1; subst h2; subst h3
    exact Or.inr ⟨q, (T.setVm vm₁).calling g' mk (Value.ref b :: As).toArray, t, U', L, E, ce, hT, X', hL, e1, e2, hq, hce, hcv, vx_cls hW₁ hcl, st⟩
theorem vx_runSX {hh : List (Nat × Nat × Nat × Nat)} (S : CallFix p m c cc nL s args Ts own) (hM : vx_Met l y ws rm Pc Qc XC mc ms free) (cw : vx_CSW R s args own index y bytes maxL ret hh ws rm mc ms n) (hp : PreS s H Pc As)
    (hg : g.method = m) (hn : As.length = n) (hsize : g.locals.size = nL) (hstack : g.stack = As.reverse ++ rest) (hW : 2 * g.monitorRoom + (rest.map fun v => v.category).sum ≤ 8) (hdg : decode cc g.pc = .ok (.invokestatic index, 3)) (hf : cells + mc ≤ R.cells ∧ slots + ms ≤ R.slots) :
    vx_Run p l e R s m args below meth c H locs cells slots mc ms g rest (Qc As.toArray) XC free := by
  obtain ⟨⟨hrc, hrs, hfr, hlo, hws, hcw⟩, hcode, hini, hy, hlen, hl, hstt⟩ := cw
  have hK : vx_Back l R p e below s args y 3 8 (PreOf R mc ms Pc) (PostOf Qc mc ms free) (vx_Post XC mc ms free) := vx_backW (hh := hh) (bytes := bytes) (maxL := maxL) (ret := ret) hM hp.1 hrc hrs hfr hlo hws hcw (fun a' U hW => word_at hW (Or.inl (by first | rfl | simp [Cond.onTables, Cond.keeps, Cond.steady])) hini)
  obtain ⟨hx, hb, hml, ho, -⟩ := S
  intro T hT X
  rcases vx_callSX X hx (hh := hh) (bytes := bytes) (maxL := maxL) (ret := ret) ho hl hstt hini hcode hy hK hg (hsize.trans hml.symm) (argsL := As) (rest := rest) (fun sig h => hn.trans (hlen sig h)) hstack hW (by rw [hb]; exact hdg)
    (fun vm₁ hW₁ => ⟨hf.1, hf.2, hp.2 (T.setVm vm₁) hT hW₁⟩) with ⟨v, vm₁, ⟨U', l2, c2, s2⟩, hW₁, X', ⟨g', mk, t, L, e1, e2, hq, h1, hL, h2, h3⟩, st⟩ | ⟨q, vm₁, ⟨U', l2, c2, s2⟩, hW₁, X', ⟨g', mk, t, L, E, ce, e1, e2, hq, hce, hcv, hcl, h1, hL, h2, h3⟩, st⟩
  · dsimp only [Pt.U, Pt.locs, Pt.cells, Pt.slots] at X' e1 e2 h1 h2 h3 st
    subst h1; subst h2; subst h3
    exact Or.inl ⟨v, (T.setVm vm₁).calling g' mk As.toArray, t, U', L, hT, X', hL, e1, e2, hq, st⟩
  · dsimp only [Pt.U, Pt.locs, Pt.cells, Pt.slots] at X' e1 e2 h1 h2 h3 st hcl
    subst h1; subst h2; subst h3
    exact Or.inr ⟨q, (T.setVm vm₁).calling g' mk As.toArray, t, U', L, E, ce, hT, X', hL, e1, e2, hq, hce, hcv, vx_cls hW₁ hcl, st⟩
end
end VXH
theorem vx_ofWH {l : Launch} {y : MethodName} {ws ws' : List Cond} {rm : Room} {Pc : Array Value → State → Prop} {Qc : Array Value → State → Outcome → State → Prop} {XC : String → State → State → Prop} {mc ms : Nat} {free : Addr → Prop} {cc : ByteArray} {maxL : Nat} {ret : Option FieldType} {hh : List (Nat × Nat × Nat × Nat)}
    (hy : plainName y.cls = true) (hw : ws = Cond.codeWith y cc maxL ret hh :: ws')
    (body : ∀ p e s m args below meth c s₁, BodyLoose p l y (headSpec ws rm) cc maxL ret e s m args below meth c s₁ → c.maxLocals = maxL → Pc args s →
      W p l e (headSpec ws rm).room s m args below meth c s.heap [] 0 0 (vx_MQ below Qc XC args s mc ms free) (entryFrame m args maxL)) : vx_Met l y ws rm Pc Qc XC mc ms free := by
  refine MetFree.of_bodyS (code := cc) (maxLocals := maxL) (ret := ret) hy ?_ ?_
  · intro args s m h hn
    obtain ⟨m9, meth, c, hn9, h1, h2, h3, h4, -, h5, h6, -⟩ := Cond.codeWith_spec (atoms_spec (ws := ws) h _ (by rw [hw]; exact List.mem_cons_self))
    cases hn.symm.trans hn9
    exact ⟨meth, c, h1, h2, h3, h4, h5, h6⟩
  · intro p e s m args below meth c s₁ B hml hP _
    have hh0 : s₁.heap = s.heap := by rw [B.state]; rfl
    obtain ⟨t, a1, o, b1, b2, b3⟩ := body p e s m args below meth c s₁ B hml hP s₁ hh0 (Stand.of_body B)
    exact ⟨t, o, a1, b1, b2, b3⟩
/-! ===== END ===== -/

/-! ===== BEGIN what the machine throws by itself, no traces kept ===== -/
section VXM
set_option maxHeartbeats 1000000 in
/-- the machine throws cls with the message text, no traces kept: from its note over the frame g to 'throwing' over the same frame (follows the proofs of Stand.vmThrowsMessage, Shelf/KitTracedVmS.lean, and Stand.throwsMessageColdBareV, StandMessageColdV.lean, without the step out of the frame) -/
theorem vx_vmAt {p : Program} {l : Launch} {e : Env} {R : Room} {s : State} {m₀ : MethodId} {args : Array Value} {below : List Frame} {meth : Method} {c : Code} {W : State} {locs : List Loc} {cells slots : Nat}
    (X : Stand p l e R s m₀ args below meth c W locs cells slots) (hexec : p.tables.exec = Jvm.exec) (htr : e.platform.stackTraces = false) {cls : String} {names : List String} {text : String}
    (hcls : Bundle.fit cls = true) (hnames : ∀ n ∈ names, Bundle.fit n = true) (hsoe : (cls == "java/lang/StackOverflowError") = false) (hoom : (cls == "java/lang/OutOfMemoryError") = false)
    (h : ∀ a ∈ Bundle.messageArmAtoms cls names, a.before args s = true)
    (hlocs : ∀ x ∈ locs, ∀ cell, s.heap[x.base]? = some cell → cell.vm.isStatics = false)
    (htext : (text == notModelled) = false) (hlimit : ¬ (stringBytes (stringToUtf16 text)).size > e.platform.arrayLengthLimit) (hheap : ¬ (stringBytes (stringToUtf16 text)).size * componentBytes .byte > e.platform.maxHeapBytes)
    {g : JFrame} (hg : g.method = m₀) (hsize : g.locals.size = c.maxLocals)
    (hRframes : names.length + 4 < R.frames) (hRlocals : 2 * g.monitorRoom + (g.stack.map fun v => v.category).sum + 10240 ≤ R.locals) (hshort : 13 * names.length + 55 ≤ 10240)
    (hRcells : cells + 3 ≤ R.cells) (hRslots : slots + ((stringBytes (stringToUtf16 text)).size + 4 + 6) ≤ R.slots) (hlocks : meth.locks = false) :
    ∃ (S : State) (q : Addr) (ce : Cell), (∀ target, Steps p.tables e below ((S.setTop g).pushFrame (.throwing q)) target → Steps p.tables e below ((W.setTop g).pushFrame (.throwNew cls (some text) none)) target) ∧
      Stand p l e R s m₀ args below meth c S locs (cells + 3) (slots + ((stringBytes (stringToUtf16 text)).size + 4 + 6)) ∧ S.heap[q]? = some ce ∧ s.vm.findClass cls = some ce.cls ∧ ce.vm = .none := by
  have howns : e.platform.frameOwnsMonitors = true := by rw [X.admits.platform]
  have hfin : e.platform.finalization = false := by rw [X.admits.platform]
  have hpl : e.platform.magicAccessors = ({} : Platform).magicAccessors := by rw [X.admits.platform]
  have a : ∀ x, x ∈ Bundle.messageArmAtoms cls names → x.holds args s none s [] = true := fun x hx => h x hx
  obtain ⟨T, Z0, L, -, Y⟩ := ThrowableC.of_atoms (args := args) howns hfin hpl (fun x hx => h x (by simp [Bundle.messageArmAtoms, hx]))
  obtain ⟨Z, M, LZ, LM, hnZ⟩ := Init0T.ofS_atoms (args := args) hpl L Y (fun x hx => h x (by simp [Bundle.messageArmAtoms, hx]))
  obtain ⟨P1, Ps, hlen, L1, hL, hP1m, hlink1, hlink⟩ := Bundle.chainS (args := args) hpl hnZ names cls hcls hnames (fun x hx => h x (by simp [Bundle.messageArmAtoms, hx]))
  obtain ⟨Zs, LZs, hn4, hfitv, hfitc⟩ := StringT.of_atoms (args := args) (fun x hx => h x (by simp [Bundle.messageArmAtoms, hx]))
  have hfound : s.vm.findClass cls = some P1.m.cls := findClass_of_methodNamed hP1m
  obtain ⟨c1, kX, hc1, hk, hord, -, -, hn6⟩ := Cond.instantiable_spec (a (.instantiable cls 6) (by simp [Bundle.messageArmAtoms]))
  cases Option.some.inj (hc1.symm.trans hfound)
  have hinit := Cond.initialized_spec hfound hk (a (.initialized cls) (by simp [Bundle.messageArmAtoms]))
  have hctor : kX.findMethod "<init>" "(Ljava/lang/String;)V" = some P1.m.idx := findMethod_of_methodNamed hP1m hk
  have hsel0 : selectMethod e.platform s.vm P1.m.cls T.fill0 = .method T.fill0 := by
    obtain ⟨c2, r2, m2, q1, q2, q3, q4, -⟩ := Cond.selects_spec (a (.selects cls Bundle.tFill0 Bundle.tFill0) (by simp [Bundle.messageArmAtoms]))
    cases Option.some.inj (q1.symm.trans hfound)
    cases Option.some.inj (q2.symm.trans (State.methodFound?_of_named Y.fill0 (by decide)))
    cases Option.some.inj (q3.symm.trans Y.fill0)
    rw [Launch.admits_selectMethod X.admits]; exact q4
  have hselF : selectMethod e.platform s.vm P1.m.cls T.fill = .method T.fill := by
    obtain ⟨c2, r2, m2, q1, q2, q3, q4, -⟩ := Cond.selects_spec (a (.selects cls Bundle.tFill Bundle.tFill) (by simp [Bundle.messageArmAtoms]))
    cases Option.some.inj (q1.symm.trans hfound)
    cases Option.some.inj (q2.symm.trans (State.methodFound?_of_named Y.fill (by decide)))
    cases Option.some.inj (q3.symm.trans Y.fill)
    rw [Launch.admits_selectMethod X.admits]; exact q4
  obtain ⟨cellS0, hcS0, hiss⟩ := Y.statics
  obtain ⟨u0, hu0⟩ := Cond.staticRefV Y.unassigned L.unassignedStatic L.statics hcS0 hiss (a (.isRef (.static Bundle.tN "UNASSIGNED_STACK" Bundle.steD)) (by simp [Bundle.messageArmAtoms]))
  obtain ⟨sen, hsen⟩ := Cond.staticRefV Y.sentinel L.sentinelStatic L.statics hcS0 hiss (a (.isRef (.static Bundle.tN "SUPPRESSED_SENTINEL" Bundle.listD)) (by simp [Bundle.messageArmAtoms]))
  obtain ⟨ci198, i198, fB, hk198, hg198, ha198, hsB, -, hnB, htB, hffB⟩ := Cond.ownField (t := .object "java/lang/Object") Y.found L.cls (by decide +kernel) (a (.fieldLink Bundle.tN 198 Bundle.tN "backtrace" "Ljava/lang/Object;") (by simp [Bundle.messageArmAtoms])) (a (.lays Bundle.tN Bundle.tN "backtrace" "Ljava/lang/Object;") (by simp [Bundle.messageArmAtoms])) e.platform hpl
  obtain ⟨cellS, hcS', heS, -, hkeep⟩ := X.same.2.2.2.2.2 T.aS cellS0 hcS0
  have hcellS : W.heap[T.aS]? = some cellS := hcS'
  have hout' : ∀ i, (⟨T.aS, i⟩ : Loc) ∉ locs := fun i hmem => by
    have := hlocs _ hmem cellS0 hcS0
    rw [hiss] at this; cases this
  have hknownS : cellS.vm ≠ .unknown := by
    rw [heS]; intro hu
    rw [show cellS0.vm = .unknown from hu] at hiss
    cases hiss
  have hvU : cellS.slots[T.fUnassigned.slot]? = some u0.v := by rw [hkeep _ (hout' _)]; exact hu0
  have hvSen : cellS.slots[T.fSentinel.slot]? = some sen.v := by rw [hkeep _ (hout' _)]; exact hsen
  obtain ⟨iM, hffM⟩ := Y.msg
  obtain ⟨tyC, dC, hdC, hdnC⟩ := Cond.laysAt hfound hk Y.cause (a (.lays cls Bundle.tN "cause" "Ljava/lang/Throwable;") (by simp [Bundle.messageArmAtoms]))
  obtain ⟨tyS, dS, hdS, hdnS⟩ := Cond.laysAt hfound hk Y.stack (a (.lays cls Bundle.tN "stackTrace" Bundle.steD) (by simp [Bundle.messageArmAtoms]))
  obtain ⟨tyP, dP, hdP, hdnP⟩ := Cond.laysAt hfound hk Y.supp (a (.lays cls Bundle.tN "suppressedExceptions" Bundle.listD) (by simp [Bundle.messageArmAtoms]))
  obtain ⟨tyM, dM, hdM, hdnM⟩ := Cond.laysAt hfound hk hffM (a (.lays cls Bundle.tN "detailMessage" "Ljava/lang/String;") (by simp [Bundle.messageArmAtoms]))
  obtain ⟨tyB, dB, hdB, hdnB⟩ := Cond.laysAt hfound hk hffB (a (.lays cls Bundle.tN "backtrace" "Ljava/lang/Object;") (by simp [Bundle.messageArmAtoms]))
  have bC := Cond.laysApart hdB hdC hdnB hdnC (by rw [hnB, Y.causeName]; decide)
  have bS := Cond.laysApart hdB hdS hdnB hdnS (by rw [hnB, Y.stackName]; decide)
  have bP := Cond.laysApart hdB hdP hdnB hdnP (by rw [hnB, Y.suppName]; decide)
  have hbk : ((preparedCellV T.toThrowableT (freshCell P1.m.cls kX) (W.heap.size + 2) u0 sen).withEntry W.cur).slots[fB.slot]? = some .null := by
    have := fresh_default (c := P1.m.cls) tyB
    rw [htB] at this
    simpa [preparedCellV, Cell.setSlot, Cell.withEntry, Array.getElem?_setIfInBounds, bC, bS, bP, bC.symm, bS.symm, bP.symm, defaultValue] using this
  have tkC := Takes.of_laid (v := .ref (W.heap.size + 2)) hk hord tyC (by rw [Y.causeType]; rfl)
  have tkS := Takes.of_laid (v := u0.v) hk hord tyS (by rw [Y.stackType]; exact fits_refV_array _ u0)
  have tkP := Takes.of_laid (v := sen.v) hk hord tyP (by rw [Y.suppType]; exact fits_refV_object _ sen)
  have tkM := Takes.of_laid (v := .ref (W.heap.size + 1)) hk hord tyM (by rw [Y.msgType]; rfl)
  have hskip : SkipFacts T e.platform s (fun u => u) u0 ((preparedCellV T.toThrowableT (freshCell P1.m.cls kX) (W.heap.size + 2) u0 sen).withEntry W.cur) := ⟨{ ci198 := ci198, i198 := i198, fBack := fB }, ⟨hk198, hg198, ha198, hsB⟩, hbk, fun _ _ => rfl⟩
  have h0 : At W g.method c below := by rw [hg]; exact X.here
  obtain ⟨hbeyond, hfreeW⟩ := X.vmMayThrow hsize (.throwNew cls (some text) none) (fun f hf => by cases hf) rfl hRlocals
  have hfr' : W.frames.length + Ps.length + 4 < (e.platform.stackLimits W.me).1 := by have := X.framesAbove hRframes; omega
  have hwd' : (stackUse (.java g :: W.frames.tail)).2 + 13 * Ps.length + 55 ≤ (e.platform.stackLimits W.me).2 := by have := X.stackAbove hsize (K := 13 * Ps.length + 55) (by omega); omega
  have hslots : W.slotsUsed + (stringBytes (stringToUtf16 text)).size + Zs.kS.instanceTypes.size + kX.instanceTypes.size ≤ e.platform.maxSlots := by
    have := X.slotsAbove hRslots
    rw [hn4, hn6]
    omega
  obtain ⟨vm', hW', st⟩ := Steps.vmThrowsMessageColdByV p (s₀ := s) (S := W) (g := g) h0 hexec T L Z LZ M LM X.warmed (t := W.cur) rfl Zs LZs P1 L1 Ps hL hlink1 hlink hsoe hoom hfound hk hinit hord hctor
    (Launch.admits_hotImplicitExceptions X.admits) hbeyond hfreeW htext hlimit hheap (X.cellsAbove hRcells) hslots (hfitv _) (hfitc _)
    (Nn := fun u => u) heapOnly_id (fun _ _ => rfl) (fun _ => rfl) (fun u x y => setCell_twice _ _ _ _) (fun _ => Nat.le_refl _) (cN := ((preparedCellV T.toThrowableT (freshCell P1.m.cls kX) (W.heap.size + 2) u0 sen).withEntry W.cur))
    hsel0 hcellS hknownS hvU tkS (fun _ hu => hu) (fun _ hu => hu) rfl rfl rfl (by simp [preparedCellV, Cell.setSlot, Cell.withEntry]) hskip (fun _ _ hA hW _ hroom _ hrest => L.nativeOff p htr hA hW hroom hrest) hselF hvSen tkC tkP tkM Y.objLocals rfl hfr' hwd'
  rw [plainBareV_eq T.toThrowableT (W.heap.size + 2) u0 sen (.ref (W.heap.size + 1)) W.cur rfl rfl] at st
  obtain ⟨-, -, w3, w4, -, -, -⟩ := withThrown_facts e.platform W Zs text P1.m.cls kX
  have X3 := ((X.pushed (bytesOf Zs.cB (stringToUtf16 text))).pushed (stringAt Zs.cS Zs.kS Zs.fv Zs.fc (stringToUtf16 text) W.heap.size)).pushed (freshCell P1.m.cls kX)
  rw [← withString_eq] at X3
  have X4 := X3.noted hW'
  have ha : (W.heap.size + 2) < ((withThrown W Zs text P1.m.cls kX).setVm vm').heap.size := by show _ < (withThrown W Zs text P1.m.cls kX).heap.size; rw [w3]; omega
  have hcell : ((withThrown W Zs text P1.m.cls kX).setVm vm').heap[(W.heap.size + 2)]? = some (freshCell P1.m.cls kX) := w4
  have X5 := ((((X4.stored hcell T.fCause.slot (.ref (W.heap.size + 2))).storedAgain ha T.fStack.slot u0.v).storedAgain ha T.fSupp.slot sen.v).storedAgain ha T.fStack.slot u0.v).storedAgain ha T.fMsg.slot (.ref (W.heap.size + 1))
  obtain ⟨g₁, hfrM⟩ := X5.frames_eq
  have hU : ((((withThrown W Zs text P1.m.cls kX).setVm vm').setCell (W.heap.size + 2) (plainBareV T.toThrowableT (freshCell P1.m.cls kX) (W.heap.size + 2) u0 sen (.ref (W.heap.size + 1)))).setTop g).pushFrame (.throwing (W.heap.size + 2)) = (((withThrown W Zs text P1.m.cls kX).setVm vm').setCell (W.heap.size + 2) (plainBareV T.toThrowableT (freshCell P1.m.cls kX) (W.heap.size + 2) u0 sen (.ref (W.heap.size + 1)))).setFrames (.throwing (W.heap.size + 2) :: .java g :: below) := by
    rw [State.pushFrame, State.frames_setTop _ hfrM, State.setTop_of_frames _ hfrM, State.setFrames_setFrames]
  have b1 : (bytesOf Zs.cB (stringToUtf16 text)).slots.size = (stringBytes (stringToUtf16 text)).size := by
    rw [(Cell.writeAll_facts _ _).2.2]; simp [bytes0]
  have b2 : (stringAt Zs.cS Zs.kS Zs.fv Zs.fc (stringToUtf16 text) W.heap.size).slots.size = 4 := by simp [string0, Cell.setSlot, hn4]
  have b3 : (freshCell P1.m.cls kX).slots.size = 6 := by simp [hn6]
  rw [b1, b2, b3] at X5
  have e9 : slots + (stringBytes (stringToUtf16 text)).size + 4 + 6 = slots + ((stringBytes (stringToUtf16 text)).size + 4 + 6) := by omega
  rw [e9] at X5
  simp only [List.append_assoc, List.cons_append, List.nil_append] at X5
  refine ⟨((withThrown W Zs text P1.m.cls kX).setVm vm').setCell (W.heap.size + 2) (plainBareV T.toThrowableT (freshCell P1.m.cls kX) (W.heap.size + 2) u0 sen (.ref (W.heap.size + 1))), W.heap.size + 2, _, fun target ht => st _ (by rw [X.tail, ← hU]; exact ht),
    X5.forget (fun y hy => ?_), heapAt_setCell_self _ ha, hfound, rfl⟩
  simp only [List.mem_cons, List.not_mem_nil, or_false] at hy
  have hge : s.heap.size ≤ W.heap.size := X.same.2.1
  rcases hy with rfl | rfl | rfl | rfl | rfl <;> exact Nat.le_trans hge (Nat.le_add_right _ 2)
set_option maxHeartbeats 1000000 in
/-- the machine throws NullPointerException, no traces kept: from its note over the frame g to 'throwing' over the same frame (follows the proof of Stand.vmThrowsNpe, Shelf42/KT2.lean; throwsNpeColdBareVAt, Shelf42/NT91.lean, called) -/
theorem vx_npeAt {p : Program} {l : Launch} {e : Env} {R : Room} {s : State} {m₀ : MethodId} {args : Array Value} {below : List Frame} {meth : Method} {c : Code} {W : State} {locs : List Loc} {cells slots : Nat}
    (X : Stand p l e R s m₀ args below meth c W locs cells slots) (hexec : p.tables.exec = Jvm.exec) (htr : e.platform.stackTraces = false) {n : Nat}
    (h : ∀ a ∈ Bundle.npeArmAtoms n, a.before args s = true)
    (hlocs : ∀ x ∈ locs, ∀ cell, s.heap[x.base]? = some cell → cell.vm.isStatics = false)
    {g : JFrame} (hg : g.method = m₀) (hsize : g.locals.size = c.maxLocals)
    (hRframes : 7 < R.frames) (hRlocals : 2 * g.monitorRoom + (g.stack.map fun v => v.category).sum + 10240 ≤ R.locals)
    (hRcells : cells + 1 ≤ R.cells) (hRslots : slots + n ≤ R.slots) (hlocks : meth.locks = false) :
    ∃ (S : State) (q : Addr) (ce : Cell), (∀ target, Steps p.tables e below ((S.setTop g).pushFrame (.throwing q)) target → Steps p.tables e below ((W.setTop g).pushFrame (.throwNew "java/lang/NullPointerException" none none)) target) ∧
      Stand p l e R s m₀ args below meth c S locs (cells + 1) (slots + n) ∧ S.heap[q]? = some ce ∧ s.vm.findClass "java/lang/NullPointerException" = some ce.cls ∧ ce.vm = .none := by
  have howns : e.platform.frameOwnsMonitors = true := by rw [X.admits.platform]
  have hfin : e.platform.finalization = false := by rw [X.admits.platform]
  have hpl : e.platform.magicAccessors = ({} : Platform).magicAccessors := by rw [X.admits.platform]
  have hpl2 : e.platform.arrayCloneIsPublic = true := by rw [X.admits.platform]
  have a' : ∀ x, x ∈ Bundle.npeArmAtoms n → x.holds args s none s [] = true := fun x hx => h x hx
  obtain ⟨T, Z, L, LZ, Y⟩ := ThrowableC.of_atoms (args := args) howns hfin hpl (fun x hx => h x (by simp [Bundle.npeArmAtoms, hx]))
  obtain ⟨N, LN, hcN, hnNF, hordN, hffS⟩ := NpeC.of_atoms (args := args) hpl hpl2 L Y (fun x hx => h x (by simp [Bundle.npeArmAtoms, hx]))
  obtain ⟨P1, L1, hP1m, hP1s⟩ := PassC.of_atoms (args := args) (s := s) hpl (X := Bundle.nN) (Y := Bundle.rN) (by decide) (by decide) LibCode.NullPointerException.Init0.at_0 LibCode.NullPointerException.Init0.at_1 LibCode.NullPointerException.Init0.at_4 (fun x hx => h x (by simp [Bundle.npeArmAtoms, hx]))
  obtain ⟨PR, LR, hPRm, hPRs⟩ := PassC.of_atoms (args := args) (s := s) hpl (X := Bundle.rN) (Y := Bundle.eN) (by decide) (by decide) LibCode.RuntimeException.Init0.at_0 LibCode.RuntimeException.Init0.at_1 LibCode.RuntimeException.Init0.at_4 (fun x hx => h x (by simp [Bundle.npeArmAtoms, hx]))
  obtain ⟨PE, LEx, hPEm, hPEs⟩ := PassC.of_atoms (args := args) (s := s) hpl (X := Bundle.eN) (Y := Bundle.tN) (by decide) (by decide) LibCode.Exception.Init0.at_0 LibCode.Exception.Init0.at_1 LibCode.Exception.Init0.at_4 (fun x hx => h x (by simp [Bundle.npeArmAtoms, hx]))
  have hfound : s.vm.findClass Bundle.nN = some P1.m.cls := findClass_of_methodNamed hP1m
  have ecls : N.cN = P1.m.cls := Option.some.inj (hcN.symm.trans hfound)
  have hk : s.vm.classes[P1.m.cls]? = some N.kN := by rw [← ecls]; exact LN.cls
  have hinit := Cond.initialized_spec hfound hk (a' (.initialized Bundle.nN) (by simp [Bundle.npeArmAtoms]))
  have hctor : N.kN.findMethod "<init>" "()V" = some P1.m.idx := findMethod_of_methodNamed hP1m hk
  obtain ⟨c1, k1, hc1, hk1, -, -, -, hn⟩ := Cond.instantiable_spec (a' (.instantiable Bundle.nN n) (by simp [Bundle.npeArmAtoms]))
  cases Option.some.inj (hc1.symm.trans hfound)
  cases Option.some.inj (hk1.symm.trans hk)
  have hfsz : (freshCell P1.m.cls N.kN).slots.size = n := by simp [hn]
  have hlink1 : P1.sup = PR.m := Option.some.inj (hP1s.symm.trans hPRm)
  have hlinkR : PR.sup = PE.m := Option.some.inj (hPRs.symm.trans hPEm)
  have hlinkE : PE.sup = Z.m T.toThrowableT := Option.some.inj (hPEs.symm.trans Y.init0)
  have hLs : ∀ P, P ∈ [PR, PE] → P.Links0 e.platform s := fun P hP => by
    simp only [List.mem_cons, List.not_mem_nil, or_false] at hP
    rcases hP with rfl | rfl
    · exact LR
    · exact LEx
  have hsel0 : selectMethod e.platform s.vm P1.m.cls T.fill0 = .method T.fill0 := by
    obtain ⟨c2, r2, m2, q1, q2, q3, q4, -⟩ := Cond.selects_spec (a' (.selects Bundle.nN Bundle.tFill0 Bundle.tFill0) (by simp [Bundle.npeArmAtoms]))
    cases Option.some.inj (q1.symm.trans hfound)
    cases Option.some.inj (q2.symm.trans (State.methodFound?_of_named Y.fill0 (by decide)))
    cases Option.some.inj (q3.symm.trans Y.fill0)
    rw [Launch.admits_selectMethod X.admits]; exact q4
  have hselF : selectMethod e.platform s.vm P1.m.cls T.fill = .method N.fill := by
    obtain ⟨c2, r2, m2, q1, q2, q3, q4, -⟩ := Cond.selects_spec (a' (.selects Bundle.nN Bundle.tFill Bundle.nFill) (by simp [Bundle.npeArmAtoms]))
    cases Option.some.inj (q1.symm.trans hfound)
    cases Option.some.inj (q2.symm.trans (State.methodFound?_of_named Y.fill (by decide)))
    cases Option.some.inj (q3.symm.trans hnNF)
    rw [Launch.admits_selectMethod X.admits]; exact q4
  obtain ⟨cellS0, hcS0, hiss⟩ := Y.statics
  obtain ⟨u0, hu0⟩ := Cond.staticRefV Y.unassigned L.unassignedStatic L.statics hcS0 hiss (a' (.isRef (.static Bundle.tN "UNASSIGNED_STACK" Bundle.steD)) (by simp [Bundle.npeArmAtoms]))
  obtain ⟨sen, hsen⟩ := Cond.staticRefV Y.sentinel L.sentinelStatic L.statics hcS0 hiss (a' (.isRef (.static Bundle.tN "SUPPRESSED_SENTINEL" Bundle.listD)) (by simp [Bundle.npeArmAtoms]))
  obtain ⟨ci198, i198, fB, hk198, hg198, ha198, hsB, -, hnB, htB, hffB⟩ := Cond.ownField (t := .object "java/lang/Object") Y.found L.cls (by decide +kernel) (a' (.fieldLink Bundle.tN 198 Bundle.tN "backtrace" Bundle.objD) (by simp [Bundle.npeArmAtoms])) (a' (.lays Bundle.tN Bundle.tN "backtrace" Bundle.objD) (by simp [Bundle.npeArmAtoms])) e.platform hpl
  obtain ⟨cellS, hcS', heS, -, hkeep⟩ := X.same.2.2.2.2.2 T.aS cellS0 hcS0
  have hcellS : W.heap[T.aS]? = some cellS := hcS'
  have hout' : ∀ i, (⟨T.aS, i⟩ : Loc) ∉ locs := fun i hmem => by
    have := hlocs _ hmem cellS0 hcS0
    rw [hiss] at this; cases this
  have hknownS : cellS.vm ≠ .unknown := by
    rw [heS]; intro hu
    rw [show cellS0.vm = .unknown from hu] at hiss
    cases hiss
  have hvU : cellS.slots[T.fUnassigned.slot]? = some u0.v := by rw [hkeep _ (hout' _)]; exact hu0
  have hvSen : cellS.slots[T.fSentinel.slot]? = some sen.v := by rw [hkeep _ (hout' _)]; exact hsen
  obtain ⟨tyC, dC, hdC, hdnC⟩ := Cond.laysAt hfound hk Y.cause (a' (.lays Bundle.nN Bundle.tN "cause" "Ljava/lang/Throwable;") (by simp [Bundle.npeArmAtoms]))
  obtain ⟨tyS, dS, hdS, hdnS⟩ := Cond.laysAt hfound hk Y.stack (a' (.lays Bundle.nN Bundle.tN "stackTrace" Bundle.steD) (by simp [Bundle.npeArmAtoms]))
  obtain ⟨tyP, dP, hdP, hdnP⟩ := Cond.laysAt hfound hk Y.supp (a' (.lays Bundle.nN Bundle.tN "suppressedExceptions" Bundle.listD) (by simp [Bundle.npeArmAtoms]))
  obtain ⟨tyX, dX, hdX, hdnX⟩ := Cond.laysAt hfound hk hffS (a' (.lays Bundle.nN Bundle.nN "extendedMessageState" "I") (by simp [Bundle.npeArmAtoms, Bundle.npeAtoms]))
  obtain ⟨hnX, htX⟩ := State.fieldFound?_type hffS (t := .int) (by decide +kernel)
  have xC := Cond.laysApart hdC hdX hdnC hdnX (by rw [hnX, Y.causeName]; decide)
  have xS := Cond.laysApart hdS hdX hdnS hdnX (by rw [hnX, Y.stackName]; decide)
  have xP := Cond.laysApart hdP hdX hdnP hdnX (by rw [hnX, Y.suppName]; decide)
  have hv0 : (freshCell P1.m.cls N.kN).slots[N.fState.slot]? = some (.int 0) := by
    have := fresh_default (c := P1.m.cls) tyX
    rw [htX] at this; exact this
  obtain ⟨tyB, dB, hdB, hdnB⟩ := Cond.laysAt hfound hk hffB (a' (.lays Bundle.nN Bundle.tN "backtrace" Bundle.objD) (by simp [Bundle.npeArmAtoms]))
  have bC := Cond.laysApart hdB hdC hdnB hdnC (by rw [hnB, Y.causeName]; decide)
  have bS := Cond.laysApart hdB hdS hdnB hdnS (by rw [hnB, Y.stackName]; decide)
  have bP := Cond.laysApart hdB hdP hdnB hdnP (by rw [hnB, Y.suppName]; decide)
  have bX := Cond.laysApart hdB hdX hdnB hdnX (by rw [hnB, hnX]; decide)
  have hbk : ((npeCell N.toNpeT (preparedCellV T.toThrowableT (freshCell P1.m.cls N.kN) W.heap.size u0 sen) W.cur).withEntry W.cur).slots[fB.slot]? = some .null := by
    have := fresh_default (c := P1.m.cls) tyB
    rw [htB] at this
    simpa [npeCell, preparedCellV, Cell.setSlot, Cell.withEntry, Array.getElem?_setIfInBounds, bC, bS, bP, bX, bC.symm, bS.symm, bP.symm, bX.symm, defaultValue] using this
  have tkC := Takes.of_laid (v := .ref W.heap.size) hk hordN tyC (by rw [Y.causeType]; rfl)
  have tkS := Takes.of_laid (v := u0.v) hk hordN tyS (by rw [Y.stackType]; exact fits_refV_array _ u0)
  have tkP := Takes.of_laid (v := sen.v) hk hordN tyP (by rw [Y.suppType]; exact fits_refV_object _ sen)
  have tkX := Takes.of_laid (v := .int 1) hk hordN tyX (by rw [htX]; rfl)
  have hskip : SkipFacts T e.platform s (fun u => u) u0 ((npeCell N.toNpeT (preparedCellV T.toThrowableT (freshCell P1.m.cls N.kN) W.heap.size u0 sen) W.cur).withEntry W.cur) := ⟨{ ci198 := ci198, i198 := i198, fBack := fB }, ⟨hk198, hg198, ha198, hsB⟩, hbk, fun _ _ => rfl⟩
  obtain ⟨vm', X3, st, -⟩ := X.throwsNpeColdBareVAt hexec hg hsize T L Z LZ N LN P1 L1 [PR, PE] hLs hlink1 ⟨hlinkR, hlinkE, trivial⟩ hfound hk hinit hordN hctor hsel0 hselF hcellS hknownS hvU hvSen
    hv0 xC xS xP tkC tkS tkP tkX Y.objLocals hskip (fun _ _ hA hW _ hroom _ hrest => L.nativeOff p htr hA hW hroom hrest) (by simpa using hRframes) hRlocals (by simp) hRcells (by rw [hn]; exact hRslots)
  have hlt : W.heap.size < ((W.pushCell (freshCell P1.m.cls N.kN)).setVm vm').heap.size := by
    show W.heap.size < (W.pushCell (freshCell P1.m.cls N.kN)).heap.size
    rw [State.heap_size_pushCell]; omega
  rw [hfsz] at X3
  obtain ⟨g₁, hfrM⟩ := X3.frames_eq
  have hU : ((((W.pushCell (freshCell P1.m.cls N.kN)).setVm vm').setCell W.heap.size (npeBareV T.toThrowableT N.toNpeT (freshCell P1.m.cls N.kN) W.heap.size u0 sen)).setTop g).pushFrame (.throwing W.heap.size) = (((W.pushCell (freshCell P1.m.cls N.kN)).setVm vm').setCell W.heap.size (npeBareV T.toThrowableT N.toNpeT (freshCell P1.m.cls N.kN) W.heap.size u0 sen)).setFrames (.throwing W.heap.size :: .java g :: below) := by
    rw [State.pushFrame, State.frames_setTop _ hfrM, State.setTop_of_frames _ hfrM, State.setFrames_setFrames]
  refine ⟨_, W.heap.size, _, fun target ht => st.trans (by rw [← hU]; exact ht), X3.forget (fun y hy => ?_), heapAt_setCell_self _ hlt, hfound, rfl⟩
  simp only [List.mem_cons, List.not_mem_nil, or_false] at hy
  have hge : s.heap.size ≤ W.heap.size := X.same.2.1
  rcases hy with rfl | rfl | rfl | rfl | rfl <;> exact hge
/-- the words of a machine's NullPointerException, but the four that speak of the heap -/
def vx_atN (n : Nat) : List Cond := (Bundle.npeArmAtoms n).filter vx_no
/-- the words of a machine's throw with a message, but the four that speak of the heap -/
def vx_atM (X : String) (names : List String) : List Cond := (Bundle.messageArmAtoms X names).filter vx_no
section
variable {p : Program} {l : Launch} {e : Env} {R : Room} {s : State} {m : MethodId} {args : Array Value} {below : List Frame} {meth : Method} {c : Code} {H : Heap} {locs : List Loc} {cells slots : Nat}
/-- a frame seen from a rebased start, seen from the first start again -/
theorem vx_back9 {T S : State} {R' : Room} {k n : Nat} (X : Stand p l e R s m args below meth c T locs cells slots) (Y : Stand p l e R' ((T.setVm s.vm).setFrames (.invoking m args :: below)) m args below meth c T [] 0 0) (Z : Stand p l e R' ((T.setVm s.vm).setFrames (.invoking m args :: below)) m args below meth c S [] k n) :
    Stand p l e R s m args below meth c S locs (cells + k) (slots + n) := by
  have hW0 : s.WarmedH ((T.setVm s.vm).setFrames (.invoking m args :: below)).vm := State.WarmedH.refl s
  refine { admits := X.admits, cas := X.cas, clock := X.clock, frames := X.frames, room := X.room, hears := X.hears, method := X.method, code := X.code, here := Z.here, tail := Z.tail, warmed := State.WarmedH.trans hW0 Z.warmed, limits := Z.limits.trans (Y.limits.symm.trans X.limits), bytes := Z.bytes.trans (Y.bytes.symm.trans X.bytes), same := ?_ }
  obtain ⟨e1, e2⟩ := Z.same
  rw [State.setFrames_setFrames] at e1
  have h2 : (T.setVm s.vm).sameButNew (S.setVm s.vm) [] k n := ⟨e1, e2⟩
  have h3 := X.same.trans h2
  rw [List.append_nil] at h3
  exact h3
/-- from the machine's note that E is thrown here with this text -/
def vx_Note (p : Program) (l : Launch) (e : Env) (R : Room) (s : State) (m : MethodId) (args : Array Value) (below : List Frame) (meth : Method) (c : Code) (H : Heap) (locs : List Loc) (cells slots : Nat) (Q : State → Prop) (g : JFrame) (E text : String) : Prop :=
  ∀ T : State, T.heap = H → Stand p l e R s m args below meth c T locs cells slots → ∃ t, Steps p.tables e below ((T.setTop g).pushFrame (.throwNew E (some text) none)) t ∧ Q t
theorem vx_vm {pc : Nat} {ls : Array Slot} {rest : List Value} {Q : State → Prop} (hexec : p.tables.exec = Jvm.exec) (hl : l.stackTraces = false) {cls text : String} {names : List String} {nb : Nat} {A : Nat → Prop}
    (hcls : Bundle.fit cls = true) (hnames : ∀ n ∈ names, Bundle.fit n = true) (hsoe : (cls == "java/lang/StackOverflowError") = false) (hoom : (cls == "java/lang/OutOfMemoryError") = false)
    (hat : ∀ w ∈ vx_atM cls names, w.before args s = true) (hgood : ∀ w ∈ vx_atM cls names, vx_ot w = true)
    (hU : vx_Zq Bundle.tN "UNASSIGNED_STACK" Bundle.steD A s s.heap) (hN : vx_Zq Bundle.tN "SUPPRESSED_SENTINEL" Bundle.listD A s s.heap) (hS : va_S A s.heap H locs) (hsize : ls.size = c.maxLocals)
    (htext : (text == notModelled) = false) (hnb : (stringBytes (stringToUtf16 text)).size ≤ nb) (hnb1 : nb ≤ 1000)
    (hRframes : names.length + 4 < R.frames) (hRlocals : (rest.map fun v => v.category).sum + 10240 ≤ R.locals) (hshort : 13 * names.length + 55 ≤ 10240) (hRcells : cells + 3 ≤ R.cells) (hRslots : slots + (nb + 10) ≤ R.slots) (hlocks : meth.locks = false)
    (k : ∀ (H1 : Heap) (q9 : Addr) (ce : Cell), H.size ≤ H1.size → (∀ q : Nat, q < H.size → H1[q]? = H[q]?) → va_S A s.heap H1 locs → H1[q9]? = some ce → ce.vm = .none → s.vm.findClass cls = some ce.cls → vx_W p l e R s m args below meth c H1 locs (cells + 3) (slots + (nb + 10)) Q (F0 m pc ls rest) q9) :
    vx_Note p l e R s m args below meth c H locs cells slots Q (F0 m pc ls rest) cls text := by
  intro T hT X
  have htr : e.platform.stackTraces = false := (show e.platform.stackTraces = l.stackTraces by rw [X.admits.platform]).trans hl
  have Y := vx_rebase X (R' := { frames := R.frames, locals := R.locals, cells := 3, slots := nb + 10 }) (Nat.le_refl _) (Nat.le_refl _) hRcells hRslots
  have hhp : ((T.setVm s.vm).setFrames (.invoking m args :: below)).heap = H := hT
  have hW0 : s.WarmedH ((T.setVm s.vm).setFrames (.invoking m args :: below)).vm := State.WarmedH.refl s
  have hat' : ∀ w ∈ vx_atM cls names, w.before args ((T.setVm s.vm).setFrames (.invoking m args :: below)) = true := fun w hw => vx_ot_at hW0 rfl (hgood w hw) (hat w hw)
  have hU' : vx_Zq Bundle.tN "UNASSIGNED_STACK" Bundle.steD A ((T.setVm s.vm).setFrames (.invoking m args :: below)) ((T.setVm s.vm).setFrames (.invoking m args :: below)).heap := by rw [hhp]; exact vx_Zq.moved hW0.alike (hU.kept hS.2.1)
  have hN' : vx_Zq Bundle.tN "SUPPRESSED_SENTINEL" Bundle.listD A ((T.setVm s.vm).setFrames (.invoking m args :: below)) ((T.setVm s.vm).setFrames (.invoking m args :: below)).heap := by rw [hhp]; exact vx_Zq.moved hW0.alike (hN.kept hS.2.1)
  obtain ⟨S, q, ce, st, Z, hce, hcl', hv⟩ := vx_vmAt Y hexec htr (cls := cls) (names := names) (text := text) hcls hnames hsoe hoom (vx_own hat' (vx_isRefq hU'.1) (vx_isRefq hN'.1) hU'.2.word hN'.2.word) (fun x hx => nomatch hx) htext
    (by rw [Launch.admits_arrayLengthLimit X.admits]; omega) (by rw [Launch.admits_maxHeapBytes X.admits]; simp only [componentBytes]; omega)
    (g := F0 m pc ls rest) rfl hsize hRframes (by show 2 * 0 + (rest.map fun v => v.category).sum + 10240 ≤ R.locals; omega) hshort (by show 0 + 3 ≤ 3; omega) (by show 0 + (_ + 4 + 6) ≤ nb + 10; omega) hlocks
  obtain ⟨f1, f2⟩ := vx_frame Z.same
  have f1' : H.size ≤ S.heap.size := by rw [← hT]; exact f1
  have f2' : ∀ q : Nat, q < H.size → S.heap[q]? = H[q]? := fun q hq => by
    rw [← hT]
    exact f2 q (by rw [← hT] at hq; exact hq) (fun z hz => nomatch hz)
  have X5 := vx_back9 X Y Z
  have X6 : Stand p l e R s m args below meth c S locs (cells + 3) (slots + (nb + 10)) := { X5 with same := X5.same.mono (by omega) (by omega) }
  obtain ⟨t, a1, b1⟩ := k S.heap q ce f1' f2' ⟨Nat.le_trans hS.1 f1', fun q h1 h2 => (f2' q (Nat.lt_of_lt_of_le h1 hS.1)).trans (hS.2.1 q h1 h2), hS.2.2⟩ hce hv hcl' S rfl X6
  exact ⟨t, st t a1, b1⟩
/-- from the machine's note that NullPointerException is thrown here -/
def vx_NoteN (p : Program) (l : Launch) (e : Env) (R : Room) (s : State) (m : MethodId) (args : Array Value) (below : List Frame) (meth : Method) (c : Code) (H : Heap) (locs : List Loc) (cells slots : Nat) (Q : State → Prop) (g : JFrame) : Prop :=
  ∀ T : State, T.heap = H → Stand p l e R s m args below meth c T locs cells slots → ∃ t, Steps p.tables e below ((T.setTop g).pushFrame (.throwNew "java/lang/NullPointerException" none none)) t ∧ Q t
theorem vx_npe {pc : Nat} {ls : Array Slot} {rest : List Value} {Q : State → Prop} (hexec : p.tables.exec = Jvm.exec) (hl : l.stackTraces = false) {nb : Nat} {A : Nat → Prop}
    (hat : ∀ w ∈ vx_atN nb, w.before args s = true) (hgood : ∀ w ∈ vx_atN nb, vx_ot w = true)
    (hU : vx_Zq Bundle.tN "UNASSIGNED_STACK" Bundle.steD A s s.heap) (hN : vx_Zq Bundle.tN "SUPPRESSED_SENTINEL" Bundle.listD A s s.heap) (hS : va_S A s.heap H locs) (hsize : ls.size = c.maxLocals)
    (hRframes : 7 < R.frames) (hRlocals : (rest.map fun v => v.category).sum + 10240 ≤ R.locals) (hRcells : cells + 1 ≤ R.cells) (hRslots : slots + nb ≤ R.slots) (hlocks : meth.locks = false)
    (k : ∀ (H1 : Heap) (q9 : Addr) (ce : Cell), H.size ≤ H1.size → (∀ q : Nat, q < H.size → H1[q]? = H[q]?) → va_S A s.heap H1 locs → H1[q9]? = some ce → ce.vm = .none → s.vm.findClass "java/lang/NullPointerException" = some ce.cls → vx_W p l e R s m args below meth c H1 locs (cells + 1) (slots + nb) Q (F0 m pc ls rest) q9) :
    vx_NoteN p l e R s m args below meth c H locs cells slots Q (F0 m pc ls rest) := by
  intro T hT X
  have htr : e.platform.stackTraces = false := (show e.platform.stackTraces = l.stackTraces by rw [X.admits.platform]).trans hl
  have Y := vx_rebase X (R' := { frames := R.frames, locals := R.locals, cells := 1, slots := nb }) (Nat.le_refl _) (Nat.le_refl _) hRcells hRslots
  have hhp : ((T.setVm s.vm).setFrames (.invoking m args :: below)).heap = H := hT
  have hW0 : s.WarmedH ((T.setVm s.vm).setFrames (.invoking m args :: below)).vm := State.WarmedH.refl s
  have hat' : ∀ w ∈ vx_atN nb, w.before args ((T.setVm s.vm).setFrames (.invoking m args :: below)) = true := fun w hw => vx_ot_at hW0 rfl (hgood w hw) (hat w hw)
  have hU' : vx_Zq Bundle.tN "UNASSIGNED_STACK" Bundle.steD A ((T.setVm s.vm).setFrames (.invoking m args :: below)) ((T.setVm s.vm).setFrames (.invoking m args :: below)).heap := by rw [hhp]; exact vx_Zq.moved hW0.alike (hU.kept hS.2.1)
  have hN' : vx_Zq Bundle.tN "SUPPRESSED_SENTINEL" Bundle.listD A ((T.setVm s.vm).setFrames (.invoking m args :: below)) ((T.setVm s.vm).setFrames (.invoking m args :: below)).heap := by rw [hhp]; exact vx_Zq.moved hW0.alike (hN.kept hS.2.1)
  obtain ⟨S, q, ce, st, Z, hce, hcl', hv⟩ := vx_npeAt Y hexec htr (n := nb) (vx_own hat' (vx_isRefq hU'.1) (vx_isRefq hN'.1) hU'.2.word hN'.2.word) (fun x hx => nomatch hx)
    (g := F0 m pc ls rest) rfl hsize hRframes (by show 2 * 0 + (rest.map fun v => v.category).sum + 10240 ≤ R.locals; omega) (by show 0 + 1 ≤ 1; omega) (by show 0 + nb ≤ nb; omega) hlocks
  obtain ⟨f1, f2⟩ := vx_frame Z.same
  have f1' : H.size ≤ S.heap.size := by rw [← hT]; exact f1
  have f2' : ∀ q : Nat, q < H.size → S.heap[q]? = H[q]? := fun q hq => by
    rw [← hT]
    exact f2 q (by rw [← hT] at hq; exact hq) (fun z hz => nomatch hz)
  have X5 := vx_back9 X Y Z
  have X6 : Stand p l e R s m args below meth c S locs (cells + 1) (slots + nb) := { X5 with same := X5.same.mono (by omega) (by omega) }
  obtain ⟨t, a1, b1⟩ := k S.heap q ce f1' f2' ⟨Nat.le_trans hS.1 f1', fun q h1 h2 => (f2' q (Nat.lt_of_lt_of_le h1 hS.1)).trans (hS.2.1 q h1 h2), hS.2.2⟩ hce hv hcl' S rfl X6
  exact ⟨t, st t a1, b1⟩
variable {Q : State → Prop} {cc : ByteArray} {pc : Nat} {ls : Array Slot} {rest : List Value}
theorem vx_idivZ (hexec : p.tables.exec = Jvm.exec) (hb : c.code = cc) {a b : Int32} (h0 : b = 0) (d : decode cc pc = .ok (.idiv, 1)) (k : vx_Note p l e R s m args below meth c H locs cells slots Q (F0 m pc ls rest) "java/lang/ArithmeticException" "/ by zero") :
    W p l e R s m args below meth c H locs cells slots Q (F0 m pc ls (.int b :: .int a :: rest)) := by
  intro T hT X
  obtain ⟨t, st, q⟩ := k T hT X
  exact ⟨t, X.idivZero hexec (g := F0 m pc ls (.int b :: .int a :: rest)) rfl (a := a) (rest := rest) (by rw [h0]) (by rw [hb]; exact d) t st, q⟩
theorem vx_iremZ (hexec : p.tables.exec = Jvm.exec) (hb : c.code = cc) {a b : Int32} (h0 : b = 0) (d : decode cc pc = .ok (.irem, 1)) (k : vx_Note p l e R s m args below meth c H locs cells slots Q (F0 m pc ls rest) "java/lang/ArithmeticException" "/ by zero") :
    W p l e R s m args below meth c H locs cells slots Q (F0 m pc ls (.int b :: .int a :: rest)) := by
  intro T hT X
  obtain ⟨t, st, q⟩ := k T hT X
  exact ⟨t, X.iremZero hexec (g := F0 m pc ls (.int b :: .int a :: rest)) rfl (a := a) (rest := rest) (by rw [h0]) (by rw [hb]; exact d) t st, q⟩
theorem vx_ldivZ (hexec : p.tables.exec = Jvm.exec) (hb : c.code = cc) {a b : Int64} (h0 : b = 0) (d : decode cc pc = .ok (.ldiv, 1)) (k : vx_Note p l e R s m args below meth c H locs cells slots Q (F0 m pc ls rest) "java/lang/ArithmeticException" "/ by zero") :
    W p l e R s m args below meth c H locs cells slots Q (F0 m pc ls (.long b :: .long a :: rest)) := by
  intro T hT X
  obtain ⟨t, st, q⟩ := k T hT X
  exact ⟨t, X.ldivZero hexec (g := F0 m pc ls (.long b :: .long a :: rest)) rfl (a := a) (rest := rest) (by rw [h0]) (by rw [hb]; exact d) t st, q⟩
theorem vx_lremZ (hexec : p.tables.exec = Jvm.exec) (hb : c.code = cc) {a b : Int64} (h0 : b = 0) (d : decode cc pc = .ok (.lrem, 1)) (k : vx_Note p l e R s m args below meth c H locs cells slots Q (F0 m pc ls rest) "java/lang/ArithmeticException" "/ by zero") :
    W p l e R s m args below meth c H locs cells slots Q (F0 m pc ls (.long b :: .long a :: rest)) := by
  intro T hT X
  obtain ⟨t, st, q⟩ := k T hT X
  exact ⟨t, X.lremZero hexec (g := F0 m pc ls (.long b :: .long a :: rest)) rfl (a := a) (rest := rest) (by rw [h0]) (by rw [hb]; exact d) t st, q⟩
theorem vx_ialdZ {D : va_G} {cl : List vw_C} {ws : va_W} {tys : List (ClassId × FieldType)} {a : Nat} (hexec : p.tables.exec = Jvm.exec) (hb : c.code = cc) (hK : va_K D cl tys s) (hP : va_P D cl ws H) (q0 t0 : Nat) {cA : ClassId} {n : Nat} {f : Nat → Int32} (ha : ws[q0]? = some (a, .inl (cA, n, .inl f))) (ht : tys[t0]? = some (cA, .int)) {i : Int32} (hout : ¬ vp_in i n) (hdg : decode cc pc = .ok (.iaload, 1))
    (k : ∀ tx : String, tx = (toString "Index " ++ toString i ++ toString " out of bounds for length " ++ toString n : String) → vx_Note p l e R s m args below meth c H locs cells slots Q (F0 m pc ls rest) "java/lang/ArrayIndexOutOfBoundsException" tx) : W p l e R s m args below meth c H locs cells slots Q (F0 m pc ls (.int i :: .ref a :: rest)) := by
  intro T hT X
  obtain ⟨t, st, q⟩ := k _ rfl T hT X
  refine ⟨t, ?_, q⟩
  have h1 := X.ialoadOut hexec (by rw [hT]; exact hP q0 _ ha) ((hK.2 t0 _ ht).1 n (fun j => .int (f j))) (j := i) (by show (i < 0 ∨ (arrV _ _ _).slots.size ≤ _); rw [arrV_size]; exact Classical.byContradiction hout) (g := F0 m pc ls (.int i :: .ref a :: rest)) rfl (rest := rest) rfl (by rw [hb]; exact hdg) t
  simp only [arrV_size] at h1
  exact h1 st
theorem vx_iastZ {D : va_G} {cl : List vw_C} {ws : va_W} {tys : List (ClassId × FieldType)} {a : Nat} (hexec : p.tables.exec = Jvm.exec) (hb : c.code = cc) (hK : va_K D cl tys s) (hP : va_P D cl ws H) (q0 t0 : Nat) {cA : ClassId} {n : Nat} {f : Nat → Int32} (ha : ws[q0]? = some (a, .inl (cA, n, .inl f))) (ht : tys[t0]? = some (cA, .int)) {i : Int32} {x : Int32} (hout : ¬ vp_in i n) (hdg : decode cc pc = .ok (.iastore, 1))
    (k : ∀ tx : String, tx = (toString "Index " ++ toString i ++ toString " out of bounds for length " ++ toString n : String) → vx_Note p l e R s m args below meth c H locs cells slots Q (F0 m pc ls rest) "java/lang/ArrayIndexOutOfBoundsException" tx) : W p l e R s m args below meth c H locs cells slots Q (F0 m pc ls (.int x :: .int i :: .ref a :: rest)) := by
  intro T hT X
  obtain ⟨t, st, q⟩ := k _ rfl T hT X
  refine ⟨t, ?_, q⟩
  have h1 := X.iastoreOut hexec (by rw [hT]; exact hP q0 _ ha) ((hK.2 t0 _ ht).1 n (fun j => .int (f j))) (j := i) (by show (i < 0 ∨ (arrV _ _ _).slots.size ≤ _); rw [arrV_size]; exact Classical.byContradiction hout) (g := F0 m pc ls (.int x :: .int i :: .ref a :: rest)) rfl (rest := rest) rfl (by rw [hb]; exact hdg) t
  simp only [arrV_size] at h1
  exact h1 st
theorem vx_baldZ {D : va_G} {cl : List vw_C} {ws : va_W} {tys : List (ClassId × FieldType)} {a : Nat} (hexec : p.tables.exec = Jvm.exec) (hb : c.code = cc) (hK : va_K D cl tys s) (hP : va_P D cl ws H) (q0 t0 : Nat) {cA : ClassId} {n : Nat} {f : Nat → Int32} (ha : ws[q0]? = some (a, .inl (cA, n, .inl f))) (ht : tys[t0]? = some (cA, .byte)) {i : Int32} (hout : ¬ vp_in i n) (hdg : decode cc pc = .ok (.baload, 1))
    (k : ∀ tx : String, tx = (toString "Index " ++ toString i ++ toString " out of bounds for length " ++ toString n : String) → vx_Note p l e R s m args below meth c H locs cells slots Q (F0 m pc ls rest) "java/lang/ArrayIndexOutOfBoundsException" tx) : W p l e R s m args below meth c H locs cells slots Q (F0 m pc ls (.int i :: .ref a :: rest)) := by
  intro T hT X
  obtain ⟨t, st, q⟩ := k _ rfl T hT X
  refine ⟨t, ?_, q⟩
  have h1 := X.baloadOut hexec (by rw [hT]; exact hP q0 _ ha) ((hK.2 t0 _ ht).1 n (fun j => .int (f j))) (j := i) (by show (i < 0 ∨ (arrV _ _ _).slots.size ≤ _); rw [arrV_size]; exact Classical.byContradiction hout) (g := F0 m pc ls (.int i :: .ref a :: rest)) rfl (rest := rest) rfl (by rw [hb]; exact hdg) t
  simp only [arrV_size] at h1
  exact h1 st
theorem vx_bastZ {D : va_G} {cl : List vw_C} {ws : va_W} {tys : List (ClassId × FieldType)} {a : Nat} (hexec : p.tables.exec = Jvm.exec) (hb : c.code = cc) (hK : va_K D cl tys s) (hP : va_P D cl ws H) (q0 t0 : Nat) {cA : ClassId} {n : Nat} {f : Nat → Int32} (ha : ws[q0]? = some (a, .inl (cA, n, .inl f))) (ht : tys[t0]? = some (cA, .byte)) {i : Int32} {x : Int32} (hout : ¬ vp_in i n) (hdg : decode cc pc = .ok (.bastore, 1))
    (k : ∀ tx : String, tx = (toString "Index " ++ toString i ++ toString " out of bounds for length " ++ toString n : String) → vx_Note p l e R s m args below meth c H locs cells slots Q (F0 m pc ls rest) "java/lang/ArrayIndexOutOfBoundsException" tx) : W p l e R s m args below meth c H locs cells slots Q (F0 m pc ls (.int x :: .int i :: .ref a :: rest)) := by
  intro T hT X
  obtain ⟨t, st, q⟩ := k _ rfl T hT X
  refine ⟨t, ?_, q⟩
  have h1 := X.bastoreOut hexec (by rw [hT]; exact hP q0 _ ha) ((hK.2 t0 _ ht).1 n (fun j => .int (f j))) (j := i) (by show (i < 0 ∨ (arrV _ _ _).slots.size ≤ _); rw [arrV_size]; exact Classical.byContradiction hout) (g := F0 m pc ls (.int x :: .int i :: .ref a :: rest)) rfl (rest := rest) rfl (by rw [hb]; exact hdg) t
  simp only [arrV_size] at h1
  exact h1 st
theorem vx_zaldZ {D : va_G} {cl : List vw_C} {ws : va_W} {tys : List (ClassId × FieldType)} {a : Nat} (hexec : p.tables.exec = Jvm.exec) (hb : c.code = cc) (hK : va_K D cl tys s) (hP : va_P D cl ws H) (q0 t0 : Nat) {cA : ClassId} {n : Nat} {f : Nat → Int32} (ha : ws[q0]? = some (a, .inl (cA, n, .inl f))) (ht : tys[t0]? = some (cA, .boolean)) {i : Int32} (hout : ¬ vp_in i n) (hdg : decode cc pc = .ok (.baload, 1))
    (k : ∀ tx : String, tx = (toString "Index " ++ toString i ++ toString " out of bounds for length " ++ toString n : String) → vx_Note p l e R s m args below meth c H locs cells slots Q (F0 m pc ls rest) "java/lang/ArrayIndexOutOfBoundsException" tx) : W p l e R s m args below meth c H locs cells slots Q (F0 m pc ls (.int i :: .ref a :: rest)) := by
  intro T hT X
  obtain ⟨t, st, q⟩ := k _ rfl T hT X
  refine ⟨t, ?_, q⟩
  have h1 := X.baloadOut hexec (by rw [hT]; exact hP q0 _ ha) ((hK.2 t0 _ ht).1 n (fun j => .int (f j))) (j := i) (by show (i < 0 ∨ (arrV _ _ _).slots.size ≤ _); rw [arrV_size]; exact Classical.byContradiction hout) (g := F0 m pc ls (.int i :: .ref a :: rest)) rfl (rest := rest) rfl (by rw [hb]; exact hdg) t
  simp only [arrV_size] at h1
  exact h1 st
theorem vx_zastZ {D : va_G} {cl : List vw_C} {ws : va_W} {tys : List (ClassId × FieldType)} {a : Nat} (hexec : p.tables.exec = Jvm.exec) (hb : c.code = cc) (hK : va_K D cl tys s) (hP : va_P D cl ws H) (q0 t0 : Nat) {cA : ClassId} {n : Nat} {f : Nat → Int32} (ha : ws[q0]? = some (a, .inl (cA, n, .inl f))) (ht : tys[t0]? = some (cA, .boolean)) {i : Int32} {x : Int32} (hout : ¬ vp_in i n) (hdg : decode cc pc = .ok (.bastore, 1))
    (k : ∀ tx : String, tx = (toString "Index " ++ toString i ++ toString " out of bounds for length " ++ toString n : String) → vx_Note p l e R s m args below meth c H locs cells slots Q (F0 m pc ls rest) "java/lang/ArrayIndexOutOfBoundsException" tx) : W p l e R s m args below meth c H locs cells slots Q (F0 m pc ls (.int x :: .int i :: .ref a :: rest)) := by
  intro T hT X
  obtain ⟨t, st, q⟩ := k _ rfl T hT X
  refine ⟨t, ?_, q⟩
  have h1 := X.bastoreOut hexec (by rw [hT]; exact hP q0 _ ha) ((hK.2 t0 _ ht).1 n (fun j => .int (f j))) (j := i) (by show (i < 0 ∨ (arrV _ _ _).slots.size ≤ _); rw [arrV_size]; exact Classical.byContradiction hout) (g := F0 m pc ls (.int x :: .int i :: .ref a :: rest)) rfl (rest := rest) rfl (by rw [hb]; exact hdg) t
  simp only [arrV_size] at h1
  exact h1 st
theorem vx_caldZ {D : va_G} {cl : List vw_C} {ws : va_W} {tys : List (ClassId × FieldType)} {a : Nat} (hexec : p.tables.exec = Jvm.exec) (hb : c.code = cc) (hK : va_K D cl tys s) (hP : va_P D cl ws H) (q0 t0 : Nat) {cA : ClassId} {n : Nat} {f : Nat → Int32} (ha : ws[q0]? = some (a, .inl (cA, n, .inl f))) (ht : tys[t0]? = some (cA, .char)) {i : Int32} (hout : ¬ vp_in i n) (hdg : decode cc pc = .ok (.caload, 1))
    (k : ∀ tx : String, tx = (toString "Index " ++ toString i ++ toString " out of bounds for length " ++ toString n : String) → vx_Note p l e R s m args below meth c H locs cells slots Q (F0 m pc ls rest) "java/lang/ArrayIndexOutOfBoundsException" tx) : W p l e R s m args below meth c H locs cells slots Q (F0 m pc ls (.int i :: .ref a :: rest)) := by
  intro T hT X
  obtain ⟨t, st, q⟩ := k _ rfl T hT X
  refine ⟨t, ?_, q⟩
  have h1 := X.caloadOut hexec (by rw [hT]; exact hP q0 _ ha) ((hK.2 t0 _ ht).1 n (fun j => .int (f j))) (j := i) (by show (i < 0 ∨ (arrV _ _ _).slots.size ≤ _); rw [arrV_size]; exact Classical.byContradiction hout) (g := F0 m pc ls (.int i :: .ref a :: rest)) rfl (rest := rest) rfl (by rw [hb]; exact hdg) t
  simp only [arrV_size] at h1
  exact h1 st
theorem vx_castZ {D : va_G} {cl : List vw_C} {ws : va_W} {tys : List (ClassId × FieldType)} {a : Nat} (hexec : p.tables.exec = Jvm.exec) (hb : c.code = cc) (hK : va_K D cl tys s) (hP : va_P D cl ws H) (q0 t0 : Nat) {cA : ClassId} {n : Nat} {f : Nat → Int32} (ha : ws[q0]? = some (a, .inl (cA, n, .inl f))) (ht : tys[t0]? = some (cA, .char)) {i : Int32} {x : Int32} (hout : ¬ vp_in i n) (hdg : decode cc pc = .ok (.castore, 1))
    (k : ∀ tx : String, tx = (toString "Index " ++ toString i ++ toString " out of bounds for length " ++ toString n : String) → vx_Note p l e R s m args below meth c H locs cells slots Q (F0 m pc ls rest) "java/lang/ArrayIndexOutOfBoundsException" tx) : W p l e R s m args below meth c H locs cells slots Q (F0 m pc ls (.int x :: .int i :: .ref a :: rest)) := by
  intro T hT X
  obtain ⟨t, st, q⟩ := k _ rfl T hT X
  refine ⟨t, ?_, q⟩
  have h1 := X.castoreOut hexec (by rw [hT]; exact hP q0 _ ha) ((hK.2 t0 _ ht).1 n (fun j => .int (f j))) (j := i) (by show (i < 0 ∨ (arrV _ _ _).slots.size ≤ _); rw [arrV_size]; exact Classical.byContradiction hout) (g := F0 m pc ls (.int x :: .int i :: .ref a :: rest)) rfl (rest := rest) rfl (by rw [hb]; exact hdg) t
  simp only [arrV_size] at h1
  exact h1 st
theorem vx_saldZ {D : va_G} {cl : List vw_C} {ws : va_W} {tys : List (ClassId × FieldType)} {a : Nat} (hexec : p.tables.exec = Jvm.exec) (hb : c.code = cc) (hK : va_K D cl tys s) (hP : va_P D cl ws H) (q0 t0 : Nat) {cA : ClassId} {n : Nat} {f : Nat → Int32} (ha : ws[q0]? = some (a, .inl (cA, n, .inl f))) (ht : tys[t0]? = some (cA, .short)) {i : Int32} (hout : ¬ vp_in i n) (hdg : decode cc pc = .ok (.saload, 1))
    (k : ∀ tx : String, tx = (toString "Index " ++ toString i ++ toString " out of bounds for length " ++ toString n : String) → vx_Note p l e R s m args below meth c H locs cells slots Q (F0 m pc ls rest) "java/lang/ArrayIndexOutOfBoundsException" tx) : W p l e R s m args below meth c H locs cells slots Q (F0 m pc ls (.int i :: .ref a :: rest)) := by
  intro T hT X
  obtain ⟨t, st, q⟩ := k _ rfl T hT X
  refine ⟨t, ?_, q⟩
  have h1 := X.saloadOut hexec (by rw [hT]; exact hP q0 _ ha) ((hK.2 t0 _ ht).1 n (fun j => .int (f j))) (j := i) (by show (i < 0 ∨ (arrV _ _ _).slots.size ≤ _); rw [arrV_size]; exact Classical.byContradiction hout) (g := F0 m pc ls (.int i :: .ref a :: rest)) rfl (rest := rest) rfl (by rw [hb]; exact hdg) t
  simp only [arrV_size] at h1
  exact h1 st
theorem vx_sastZ {D : va_G} {cl : List vw_C} {ws : va_W} {tys : List (ClassId × FieldType)} {a : Nat} (hexec : p.tables.exec = Jvm.exec) (hb : c.code = cc) (hK : va_K D cl tys s) (hP : va_P D cl ws H) (q0 t0 : Nat) {cA : ClassId} {n : Nat} {f : Nat → Int32} (ha : ws[q0]? = some (a, .inl (cA, n, .inl f))) (ht : tys[t0]? = some (cA, .short)) {i : Int32} {x : Int32} (hout : ¬ vp_in i n) (hdg : decode cc pc = .ok (.sastore, 1))
    (k : ∀ tx : String, tx = (toString "Index " ++ toString i ++ toString " out of bounds for length " ++ toString n : String) → vx_Note p l e R s m args below meth c H locs cells slots Q (F0 m pc ls rest) "java/lang/ArrayIndexOutOfBoundsException" tx) : W p l e R s m args below meth c H locs cells slots Q (F0 m pc ls (.int x :: .int i :: .ref a :: rest)) := by
  intro T hT X
  obtain ⟨t, st, q⟩ := k _ rfl T hT X
  refine ⟨t, ?_, q⟩
  have h1 := X.sastoreOut hexec (by rw [hT]; exact hP q0 _ ha) ((hK.2 t0 _ ht).1 n (fun j => .int (f j))) (j := i) (by show (i < 0 ∨ (arrV _ _ _).slots.size ≤ _); rw [arrV_size]; exact Classical.byContradiction hout) (g := F0 m pc ls (.int x :: .int i :: .ref a :: rest)) rfl (rest := rest) rfl (by rw [hb]; exact hdg) t
  simp only [arrV_size] at h1
  exact h1 st
theorem vx_laldZ {D : va_G} {cl : List vw_C} {ws : va_W} {tys : List (ClassId × FieldType)} {a : Nat} (hexec : p.tables.exec = Jvm.exec) (hb : c.code = cc) (hK : va_K D cl tys s) (hP : va_P D cl ws H) (q0 t0 : Nat) {cA : ClassId} {n : Nat} {f : Nat → Int64} (ha : ws[q0]? = some (a, .inl (cA, n, .inr (.inl f)))) (ht : tys[t0]? = some (cA, .long)) {i : Int32} (hout : ¬ vp_in i n) (hdg : decode cc pc = .ok (.laload, 1))
    (k : ∀ tx : String, tx = (toString "Index " ++ toString i ++ toString " out of bounds for length " ++ toString n : String) → vx_Note p l e R s m args below meth c H locs cells slots Q (F0 m pc ls rest) "java/lang/ArrayIndexOutOfBoundsException" tx) : W p l e R s m args below meth c H locs cells slots Q (F0 m pc ls (.int i :: .ref a :: rest)) := by
  intro T hT X
  obtain ⟨t, st, q⟩ := k _ rfl T hT X
  refine ⟨t, ?_, q⟩
  have h1 := X.laloadOut hexec (by rw [hT]; exact hP q0 _ ha) ((hK.2 t0 _ ht).1 n (fun j => .long (f j))) (j := i) (by show (i < 0 ∨ (arrV _ _ _).slots.size ≤ _); rw [arrV_size]; exact Classical.byContradiction hout) (g := F0 m pc ls (.int i :: .ref a :: rest)) rfl (rest := rest) rfl (by rw [hb]; exact hdg) t
  simp only [arrV_size] at h1
  exact h1 st
theorem vx_lastZ {D : va_G} {cl : List vw_C} {ws : va_W} {tys : List (ClassId × FieldType)} {a : Nat} (hexec : p.tables.exec = Jvm.exec) (hb : c.code = cc) (hK : va_K D cl tys s) (hP : va_P D cl ws H) (q0 t0 : Nat) {cA : ClassId} {n : Nat} {f : Nat → Int64} (ha : ws[q0]? = some (a, .inl (cA, n, .inr (.inl f)))) (ht : tys[t0]? = some (cA, .long)) {i : Int32} {x : Int64} (hout : ¬ vp_in i n) (hdg : decode cc pc = .ok (.lastore, 1))
    (k : ∀ tx : String, tx = (toString "Index " ++ toString i ++ toString " out of bounds for length " ++ toString n : String) → vx_Note p l e R s m args below meth c H locs cells slots Q (F0 m pc ls rest) "java/lang/ArrayIndexOutOfBoundsException" tx) : W p l e R s m args below meth c H locs cells slots Q (F0 m pc ls (.long x :: .int i :: .ref a :: rest)) := by
  intro T hT X
  obtain ⟨t, st, q⟩ := k _ rfl T hT X
  refine ⟨t, ?_, q⟩
  have h1 := X.lastoreOut hexec (by rw [hT]; exact hP q0 _ ha) ((hK.2 t0 _ ht).1 n (fun j => .long (f j))) (j := i) (by show (i < 0 ∨ (arrV _ _ _).slots.size ≤ _); rw [arrV_size]; exact Classical.byContradiction hout) (g := F0 m pc ls (.long x :: .int i :: .ref a :: rest)) rfl (rest := rest) rfl (by rw [hb]; exact hdg) t
  simp only [arrV_size] at h1
  exact h1 st
theorem vx_faldZ {D : va_G} {cl : List vw_C} {ws : va_W} {tys : List (ClassId × FieldType)} {a : Nat} (hexec : p.tables.exec = Jvm.exec) (hb : c.code = cc) (hK : va_K D cl tys s) (hP : va_P D cl ws H) (q0 t0 : Nat) {cA : ClassId} {n : Nat} {f : Nat → UInt32} (ha : ws[q0]? = some (a, .inl (cA, n, .inr (.inr (.inl f))))) (ht : tys[t0]? = some (cA, .float)) {i : Int32} (hout : ¬ vp_in i n) (hdg : decode cc pc = .ok (.faload, 1))
    (k : ∀ tx : String, tx = (toString "Index " ++ toString i ++ toString " out of bounds for length " ++ toString n : String) → vx_Note p l e R s m args below meth c H locs cells slots Q (F0 m pc ls rest) "java/lang/ArrayIndexOutOfBoundsException" tx) : W p l e R s m args below meth c H locs cells slots Q (F0 m pc ls (.int i :: .ref a :: rest)) := by
  intro T hT X
  obtain ⟨t, st, q⟩ := k _ rfl T hT X
  refine ⟨t, ?_, q⟩
  have h1 := X.faloadOut hexec (by rw [hT]; exact hP q0 _ ha) ((hK.2 t0 _ ht).1 n (fun j => .float (f j))) (j := i) (by show (i < 0 ∨ (arrV _ _ _).slots.size ≤ _); rw [arrV_size]; exact Classical.byContradiction hout) (g := F0 m pc ls (.int i :: .ref a :: rest)) rfl (rest := rest) rfl (by rw [hb]; exact hdg) t
  simp only [arrV_size] at h1
  exact h1 st
theorem vx_fastZ {D : va_G} {cl : List vw_C} {ws : va_W} {tys : List (ClassId × FieldType)} {a : Nat} (hexec : p.tables.exec = Jvm.exec) (hb : c.code = cc) (hK : va_K D cl tys s) (hP : va_P D cl ws H) (q0 t0 : Nat) {cA : ClassId} {n : Nat} {f : Nat → UInt32} (ha : ws[q0]? = some (a, .inl (cA, n, .inr (.inr (.inl f))))) (ht : tys[t0]? = some (cA, .float)) {i : Int32} {x : UInt32} (hout : ¬ vp_in i n) (hdg : decode cc pc = .ok (.fastore, 1))
    (k : ∀ tx : String, tx = (toString "Index " ++ toString i ++ toString " out of bounds for length " ++ toString n : String) → vx_Note p l e R s m args below meth c H locs cells slots Q (F0 m pc ls rest) "java/lang/ArrayIndexOutOfBoundsException" tx) : W p l e R s m args below meth c H locs cells slots Q (F0 m pc ls (.float x :: .int i :: .ref a :: rest)) := by
  intro T hT X
  obtain ⟨t, st, q⟩ := k _ rfl T hT X
  refine ⟨t, ?_, q⟩
  have h1 := X.fastoreOut hexec (by rw [hT]; exact hP q0 _ ha) ((hK.2 t0 _ ht).1 n (fun j => .float (f j))) (j := i) (by show (i < 0 ∨ (arrV _ _ _).slots.size ≤ _); rw [arrV_size]; exact Classical.byContradiction hout) (g := F0 m pc ls (.float x :: .int i :: .ref a :: rest)) rfl (rest := rest) rfl (by rw [hb]; exact hdg) t
  simp only [arrV_size] at h1
  exact h1 st
theorem vx_daldZ {D : va_G} {cl : List vw_C} {ws : va_W} {tys : List (ClassId × FieldType)} {a : Nat} (hexec : p.tables.exec = Jvm.exec) (hb : c.code = cc) (hK : va_K D cl tys s) (hP : va_P D cl ws H) (q0 t0 : Nat) {cA : ClassId} {n : Nat} {f : Nat → UInt64} (ha : ws[q0]? = some (a, .inl (cA, n, .inr (.inr (.inr (.inl f)))))) (ht : tys[t0]? = some (cA, .double)) {i : Int32} (hout : ¬ vp_in i n) (hdg : decode cc pc = .ok (.daload, 1))
    (k : ∀ tx : String, tx = (toString "Index " ++ toString i ++ toString " out of bounds for length " ++ toString n : String) → vx_Note p l e R s m args below meth c H locs cells slots Q (F0 m pc ls rest) "java/lang/ArrayIndexOutOfBoundsException" tx) : W p l e R s m args below meth c H locs cells slots Q (F0 m pc ls (.int i :: .ref a :: rest)) := by
  intro T hT X
  obtain ⟨t, st, q⟩ := k _ rfl T hT X
  refine ⟨t, ?_, q⟩
  have h1 := X.daloadOut hexec (by rw [hT]; exact hP q0 _ ha) ((hK.2 t0 _ ht).1 n (fun j => .double (f j))) (j := i) (by show (i < 0 ∨ (arrV _ _ _).slots.size ≤ _); rw [arrV_size]; exact Classical.byContradiction hout) (g := F0 m pc ls (.int i :: .ref a :: rest)) rfl (rest := rest) rfl (by rw [hb]; exact hdg) t
  simp only [arrV_size] at h1
  exact h1 st
theorem vx_dastZ {D : va_G} {cl : List vw_C} {ws : va_W} {tys : List (ClassId × FieldType)} {a : Nat} (hexec : p.tables.exec = Jvm.exec) (hb : c.code = cc) (hK : va_K D cl tys s) (hP : va_P D cl ws H) (q0 t0 : Nat) {cA : ClassId} {n : Nat} {f : Nat → UInt64} (ha : ws[q0]? = some (a, .inl (cA, n, .inr (.inr (.inr (.inl f)))))) (ht : tys[t0]? = some (cA, .double)) {i : Int32} {x : UInt64} (hout : ¬ vp_in i n) (hdg : decode cc pc = .ok (.dastore, 1))
    (k : ∀ tx : String, tx = (toString "Index " ++ toString i ++ toString " out of bounds for length " ++ toString n : String) → vx_Note p l e R s m args below meth c H locs cells slots Q (F0 m pc ls rest) "java/lang/ArrayIndexOutOfBoundsException" tx) : W p l e R s m args below meth c H locs cells slots Q (F0 m pc ls (.double x :: .int i :: .ref a :: rest)) := by
  intro T hT X
  obtain ⟨t, st, q⟩ := k _ rfl T hT X
  refine ⟨t, ?_, q⟩
  have h1 := X.dastoreOut hexec (by rw [hT]; exact hP q0 _ ha) ((hK.2 t0 _ ht).1 n (fun j => .double (f j))) (j := i) (by show (i < 0 ∨ (arrV _ _ _).slots.size ≤ _); rw [arrV_size]; exact Classical.byContradiction hout) (g := F0 m pc ls (.double x :: .int i :: .ref a :: rest)) rfl (rest := rest) rfl (by rw [hb]; exact hdg) t
  simp only [arrV_size] at h1
  exact h1 st
theorem vx_arraylengthN (hexec : p.tables.exec = Jvm.exec) (hb : c.code = cc) (hdg : decode cc pc = .ok (.arraylength, 1)) (k : vx_NoteN p l e R s m args below meth c H locs cells slots Q (F0 m pc ls rest)) : W p l e R s m args below meth c H locs cells slots Q (F0 m pc ls (.null :: rest)) := by
  intro T hT X
  obtain ⟨t, st, q⟩ := k T hT X
  exact ⟨t, X.arraylengthNull hexec (g := F0 m pc ls (.null :: rest)) rfl (rest := rest) rfl (by rw [hb]; exact hdg) t st, q⟩
theorem vx_ialoadN (hexec : p.tables.exec = Jvm.exec) (hb : c.code = cc) {i : Int32} (hdg : decode cc pc = .ok (.iaload, 1)) (k : vx_NoteN p l e R s m args below meth c H locs cells slots Q (F0 m pc ls rest)) : W p l e R s m args below meth c H locs cells slots Q (F0 m pc ls (.int i :: .null :: rest)) := by
  intro T hT X
  obtain ⟨t, st, q⟩ := k T hT X
  exact ⟨t, X.ialoadNull hexec (g := F0 m pc ls (.int i :: .null :: rest)) rfl (rest := rest) rfl (by rw [hb]; exact hdg) t st, q⟩
theorem vx_laloadN (hexec : p.tables.exec = Jvm.exec) (hb : c.code = cc) {i : Int32} (hdg : decode cc pc = .ok (.laload, 1)) (k : vx_NoteN p l e R s m args below meth c H locs cells slots Q (F0 m pc ls rest)) : W p l e R s m args below meth c H locs cells slots Q (F0 m pc ls (.int i :: .null :: rest)) := by
  intro T hT X
  obtain ⟨t, st, q⟩ := k T hT X
  exact ⟨t, X.laloadNull hexec (g := F0 m pc ls (.int i :: .null :: rest)) rfl (rest := rest) rfl (by rw [hb]; exact hdg) t st, q⟩
theorem vx_faloadN (hexec : p.tables.exec = Jvm.exec) (hb : c.code = cc) {i : Int32} (hdg : decode cc pc = .ok (.faload, 1)) (k : vx_NoteN p l e R s m args below meth c H locs cells slots Q (F0 m pc ls rest)) : W p l e R s m args below meth c H locs cells slots Q (F0 m pc ls (.int i :: .null :: rest)) := by
  intro T hT X
  obtain ⟨t, st, q⟩ := k T hT X
  exact ⟨t, X.faloadNull hexec (g := F0 m pc ls (.int i :: .null :: rest)) rfl (rest := rest) rfl (by rw [hb]; exact hdg) t st, q⟩
theorem vx_daloadN (hexec : p.tables.exec = Jvm.exec) (hb : c.code = cc) {i : Int32} (hdg : decode cc pc = .ok (.daload, 1)) (k : vx_NoteN p l e R s m args below meth c H locs cells slots Q (F0 m pc ls rest)) : W p l e R s m args below meth c H locs cells slots Q (F0 m pc ls (.int i :: .null :: rest)) := by
  intro T hT X
  obtain ⟨t, st, q⟩ := k T hT X
  exact ⟨t, X.daloadNull hexec (g := F0 m pc ls (.int i :: .null :: rest)) rfl (rest := rest) rfl (by rw [hb]; exact hdg) t st, q⟩
theorem vx_aaloadN (hexec : p.tables.exec = Jvm.exec) (hb : c.code = cc) {i : Int32} (hdg : decode cc pc = .ok (.aaload, 1)) (k : vx_NoteN p l e R s m args below meth c H locs cells slots Q (F0 m pc ls rest)) : W p l e R s m args below meth c H locs cells slots Q (F0 m pc ls (.int i :: .null :: rest)) := by
  intro T hT X
  obtain ⟨t, st, q⟩ := k T hT X
  exact ⟨t, X.aaloadNull hexec (g := F0 m pc ls (.int i :: .null :: rest)) rfl (rest := rest) rfl (by rw [hb]; exact hdg) t st, q⟩
theorem vx_baloadN (hexec : p.tables.exec = Jvm.exec) (hb : c.code = cc) {i : Int32} (hdg : decode cc pc = .ok (.baload, 1)) (k : vx_NoteN p l e R s m args below meth c H locs cells slots Q (F0 m pc ls rest)) : W p l e R s m args below meth c H locs cells slots Q (F0 m pc ls (.int i :: .null :: rest)) := by
  intro T hT X
  obtain ⟨t, st, q⟩ := k T hT X
  exact ⟨t, X.baloadNull hexec (g := F0 m pc ls (.int i :: .null :: rest)) rfl (rest := rest) rfl (by rw [hb]; exact hdg) t st, q⟩
theorem vx_caloadN (hexec : p.tables.exec = Jvm.exec) (hb : c.code = cc) {i : Int32} (hdg : decode cc pc = .ok (.caload, 1)) (k : vx_NoteN p l e R s m args below meth c H locs cells slots Q (F0 m pc ls rest)) : W p l e R s m args below meth c H locs cells slots Q (F0 m pc ls (.int i :: .null :: rest)) := by
  intro T hT X
  obtain ⟨t, st, q⟩ := k T hT X
  exact ⟨t, X.caloadNull hexec (g := F0 m pc ls (.int i :: .null :: rest)) rfl (rest := rest) rfl (by rw [hb]; exact hdg) t st, q⟩
theorem vx_saloadN (hexec : p.tables.exec = Jvm.exec) (hb : c.code = cc) {i : Int32} (hdg : decode cc pc = .ok (.saload, 1)) (k : vx_NoteN p l e R s m args below meth c H locs cells slots Q (F0 m pc ls rest)) : W p l e R s m args below meth c H locs cells slots Q (F0 m pc ls (.int i :: .null :: rest)) := by
  intro T hT X
  obtain ⟨t, st, q⟩ := k T hT X
  exact ⟨t, X.saloadNull hexec (g := F0 m pc ls (.int i :: .null :: rest)) rfl (rest := rest) rfl (by rw [hb]; exact hdg) t st, q⟩
theorem vx_iastoreN (hexec : p.tables.exec = Jvm.exec) (hb : c.code = cc) {x : Int32} {i : Int32} (hdg : decode cc pc = .ok (.iastore, 1)) (k : vx_NoteN p l e R s m args below meth c H locs cells slots Q (F0 m pc ls rest)) : W p l e R s m args below meth c H locs cells slots Q (F0 m pc ls (.int x :: .int i :: .null :: rest)) := by
  intro T hT X
  obtain ⟨t, st, q⟩ := k T hT X
  exact ⟨t, X.iastoreNull hexec (g := F0 m pc ls (.int x :: .int i :: .null :: rest)) rfl (rest := rest) rfl (by rw [hb]; exact hdg) t st, q⟩
theorem vx_lastoreN (hexec : p.tables.exec = Jvm.exec) (hb : c.code = cc) {x : Int64} {i : Int32} (hdg : decode cc pc = .ok (.lastore, 1)) (k : vx_NoteN p l e R s m args below meth c H locs cells slots Q (F0 m pc ls rest)) : W p l e R s m args below meth c H locs cells slots Q (F0 m pc ls (.long x :: .int i :: .null :: rest)) := by
  intro T hT X
  obtain ⟨t, st, q⟩ := k T hT X
  exact ⟨t, X.lastoreNull hexec (g := F0 m pc ls (.long x :: .int i :: .null :: rest)) rfl (rest := rest) rfl (by rw [hb]; exact hdg) t st, q⟩
theorem vx_fastoreN (hexec : p.tables.exec = Jvm.exec) (hb : c.code = cc) {x : UInt32} {i : Int32} (hdg : decode cc pc = .ok (.fastore, 1)) (k : vx_NoteN p l e R s m args below meth c H locs cells slots Q (F0 m pc ls rest)) : W p l e R s m args below meth c H locs cells slots Q (F0 m pc ls (.float x :: .int i :: .null :: rest)) := by
  intro T hT X
  obtain ⟨t, st, q⟩ := k T hT X
  exact ⟨t, X.fastoreNull hexec (g := F0 m pc ls (.float x :: .int i :: .null :: rest)) rfl (rest := rest) rfl (by rw [hb]; exact hdg) t st, q⟩
theorem vx_dastoreN (hexec : p.tables.exec = Jvm.exec) (hb : c.code = cc) {x : UInt64} {i : Int32} (hdg : decode cc pc = .ok (.dastore, 1)) (k : vx_NoteN p l e R s m args below meth c H locs cells slots Q (F0 m pc ls rest)) : W p l e R s m args below meth c H locs cells slots Q (F0 m pc ls (.double x :: .int i :: .null :: rest)) := by
  intro T hT X
  obtain ⟨t, st, q⟩ := k T hT X
  exact ⟨t, X.dastoreNull hexec (g := F0 m pc ls (.double x :: .int i :: .null :: rest)) rfl (rest := rest) rfl (by rw [hb]; exact hdg) t st, q⟩
theorem vx_bastoreN (hexec : p.tables.exec = Jvm.exec) (hb : c.code = cc) {x : Int32} {i : Int32} (hdg : decode cc pc = .ok (.bastore, 1)) (k : vx_NoteN p l e R s m args below meth c H locs cells slots Q (F0 m pc ls rest)) : W p l e R s m args below meth c H locs cells slots Q (F0 m pc ls (.int x :: .int i :: .null :: rest)) := by
  intro T hT X
  obtain ⟨t, st, q⟩ := k T hT X
  exact ⟨t, X.bastoreNull hexec (g := F0 m pc ls (.int x :: .int i :: .null :: rest)) rfl (rest := rest) rfl (by rw [hb]; exact hdg) t st, q⟩
theorem vx_castoreN (hexec : p.tables.exec = Jvm.exec) (hb : c.code = cc) {x : Int32} {i : Int32} (hdg : decode cc pc = .ok (.castore, 1)) (k : vx_NoteN p l e R s m args below meth c H locs cells slots Q (F0 m pc ls rest)) : W p l e R s m args below meth c H locs cells slots Q (F0 m pc ls (.int x :: .int i :: .null :: rest)) := by
  intro T hT X
  obtain ⟨t, st, q⟩ := k T hT X
  exact ⟨t, X.castoreNull hexec (g := F0 m pc ls (.int x :: .int i :: .null :: rest)) rfl (rest := rest) rfl (by rw [hb]; exact hdg) t st, q⟩
theorem vx_sastoreN (hexec : p.tables.exec = Jvm.exec) (hb : c.code = cc) {x : Int32} {i : Int32} (hdg : decode cc pc = .ok (.sastore, 1)) (k : vx_NoteN p l e R s m args below meth c H locs cells slots Q (F0 m pc ls rest)) : W p l e R s m args below meth c H locs cells slots Q (F0 m pc ls (.int x :: .int i :: .null :: rest)) := by
  intro T hT X
  obtain ⟨t, st, q⟩ := k T hT X
  exact ⟨t, X.sastoreNull hexec (g := F0 m pc ls (.int x :: .int i :: .null :: rest)) rfl (rest := rest) rfl (by rw [hb]; exact hdg) t st, q⟩
theorem vx_invokeN {own C : String} {index maxL : Nat} {y : MethodName} {bytes : ByteArray} {ret : Option FieldType} (hexec : p.tables.exec = Jvm.exec) (hb : c.code = cc) (hown : s.vm.findClass own = some m.cls) (hlink : (Cond.methodLink own index y).before args s = true) (hinst : (Cond.instanceMethod y).before args s = true) (hcode : (Cond.code y bytes maxL ret).before args s = true) (hsel : (Cond.selects C y y).before args s = true)
    (hx : y.cls ≠ "java/lang/invoke/MethodHandle" ∧ y.cls ≠ "java/lang/invoke/VarHandle") {As : List Value} (hlen : (parseMethodDescriptor y.desc).map (fun d => d.parameters.length) = some As.length) (hdg : decode cc pc = .ok (.invokevirtual index, 3))
    (k : vx_NoteN p l e R s m args below meth c H locs cells slots Q (F0 m pc ls rest)) {st0 : List Value} (hst : st0 = As.reverse ++ .null :: rest) : W p l e R s m args below meth c H locs cells slots Q (F0 m pc ls st0) := by
  intro T hT X
  obtain ⟨r0, r, hn, hrm, hstR, hsigR⟩ := va_Decl.of hinst hcode
  obtain ⟨c2, r2, m2, q1, q2, q3, q4, kP, hkP, hkPi⟩ := Cond.selects_spec hsel
  cases hn.symm.trans q3
  have hl9 : As.length = r.sig.parameters.length := by
    rw [hsigR] at hlen
    exact (Option.some.inj hlen).symm
  obtain ⟨vm', X1, st1⟩ := X.invokevirtualNull hexec hown hlink hn hrm hstR hkP hkPi hx (g := F0 m pc ls st0) rfl (argsL := As) (rest := rest) hl9 hst (by rw [hb]; exact hdg)
  obtain ⟨t, st, q⟩ := k (T.setVm vm') hT X1
  exact ⟨t, st1 t st, q⟩
theorem vx_newarrayZ {atype : ArrayType} (hexec : p.tables.exec = Jvm.exec) (hb : c.code = cc) {n : Int32} (h0 : n < 0) (hdg : decode cc pc = .ok (.newarray atype, 2)) (k : ∀ tx : String, tx = toString n → vx_Note p l e R s m args below meth c H locs cells slots Q (F0 m pc ls rest) "java/lang/NegativeArraySizeException" tx) : W p l e R s m args below meth c H locs cells slots Q (F0 m pc ls (.int n :: rest)) := by
  intro T hT X
  obtain ⟨t, st, q⟩ := k _ rfl T hT X
  exact ⟨t, X.newarrayNegative hexec (g := F0 m pc ls (.int n :: rest)) rfl h0 (rest := rest) rfl (by rw [hb]; exact hdg) t st, q⟩
end
end VXM
/-! ===== END ===== -/
end
section
def RX10 : String := "FloodStones"
def RX0 : String := "FloodStones$Chisels"
def RX1 : String := "FloodStones$Epochs"
def RX2 : String := "FloodStones$Floods"
def RX3 : String := "FloodStones$History"
def RX4 : String := "FloodStones$Marks"
def RX5 : String := "FloodStones$Refusal"
def RX6 : String := "FloodStones$River"
def RX7 : String := "FloodStones$Rows"
def RX8 : String := "FloodStones$Stones"
def RX9 : String := "FloodStones$Text"
def RL : String := "FloodStonesLaw"
def RX11 : String := "FloodStonesModel"
def RJ5 : String := "java/lang/AbstractStringBuilder"
def RJ6 : String := "java/lang/Integer"
def RJ9 : String := "java/lang/Math"
def RJ0 : String := "java/lang/String"
def RJ4 : String := "java/lang/StringBuilder"
def RJ1 : String := "java/lang/StringLatin1"
def RJ7 : String := "java/util/Arrays"
def RJ8 : String := "jdk/internal/util/ArraysSupport"
def TX0 : u_T := fun k => match k with
  | 0 => ("FloodStones$Chisels", "count", "I", false)
  | _ => ("FloodStones$Chisels", "sharpness", "[I", true)
def tyX0 : Nat → FieldType := fun k => match k with
  | 0 => .int
  | _ => .array .int
theorem nmX0 : ∀ a, a < 2 → ∀ b, b < 2 → a ≠ b → (TX0 a).2.1 ≠ (TX0 b).2.1 := by decide +kernel
theorem tyX0_ok : ∀ k, k < 2 → parseFieldDescriptor (TX0 k).2.2.1 = some (tyX0 k) := by decide +kernel
def TX1 : u_T := fun k => match k with
  | 0 => ("FloodStones$Epochs", "count", "I", false)
  | 1 => ("FloodStones$Epochs", "from", "[I", true)
  | _ => ("FloodStones$Epochs", "amount", "[I", true)
def tyX1 : Nat → FieldType := fun k => match k with
  | 0 => .int
  | 1 => .array .int
  | _ => .array .int
theorem nmX1 : ∀ a, a < 3 → ∀ b, b < 3 → a ≠ b → (TX1 a).2.1 ≠ (TX1 b).2.1 := by decide +kernel
theorem tyX1_ok : ∀ k, k < 3 → parseFieldDescriptor (TX1 k).2.2.1 = some (tyX1 k) := by decide +kernel
def TX2 : u_T := fun k => match k with
  | 0 => ("FloodStones$Floods", "count", "I", false)
  | 1 => ("FloodStones$Floods", "year", "[I", true)
  | 2 => ("FloodStones$Floods", "crest", "[I", true)
  | _ => ("FloodStones$Floods", "witnesses", "[I", true)
def tyX2 : Nat → FieldType := fun k => match k with
  | 0 => .int
  | 1 => .array .int
  | 2 => .array .int
  | _ => .array .int
theorem nmX2 : ∀ a, a < 4 → ∀ b, b < 4 → a ≠ b → (TX2 a).2.1 ≠ (TX2 b).2.1 := by decide +kernel
theorem tyX2_ok : ∀ k, k < 4 → parseFieldDescriptor (TX2 k).2.2.1 = some (tyX2 k) := by decide +kernel
def TX3 : u_T := fun k => match k with
  | 0 => ("FloodStones$History", "ring", "[LFloodStones$River;", true)
  | 1 => ("FloodStones$History", "next", "I", false)
  | _ => ("FloodStones$History", "count", "I", false)
def tyX3 : Nat → FieldType := fun k => match k with
  | 0 => .array (.object "FloodStones$River")
  | 1 => .int
  | _ => .int
theorem nmX3 : ∀ a, a < 3 → ∀ b, b < 3 → a ≠ b → (TX3 a).2.1 ≠ (TX3 b).2.1 := by decide +kernel
theorem tyX3_ok : ∀ k, k < 3 → parseFieldDescriptor (TX3 k).2.2.1 = some (tyX3 k) := by decide +kernel
def TX4 : u_T := fun k => match k with
  | 0 => ("FloodStones$Marks", "height", "[I", true)
  | 1 => ("FloodStones$Marks", "depth", "[I", true)
  | 2 => ("FloodStones$Marks", "cutYear", "[I", true)
  | 3 => ("FloodStones$Marks", "made", "I", false)
  | 4 => ("FloodStones$Marks", "effaced", "I", false)
  | _ => ("FloodStones$Marks", "weathered", "I", false)
def tyX4 : Nat → FieldType := fun k => match k with
  | 0 => .array .int
  | 1 => .array .int
  | 2 => .array .int
  | 3 => .int
  | 4 => .int
  | _ => .int
theorem nmX4 : ∀ a, a < 6 → ∀ b, b < 6 → a ≠ b → (TX4 a).2.1 ≠ (TX4 b).2.1 := by decide +kernel
theorem tyX4_ok : ∀ k, k < 6 → parseFieldDescriptor (TX4 k).2.2.1 = some (tyX4 k) := by decide +kernel
def TX5 : u_T := fun k => match k with
  | 0 => ("FloodStones$Refusal", "number", "I", false)
  | 1 => ("FloodStones$Refusal", "detail", "I", false)
  | _ => ("FloodStones$Refusal", "command", "I", false)
def tyX5 : Nat → FieldType := fun k => match k with
  | 0 => .int
  | 1 => .int
  | _ => .int
theorem nmX5 : ∀ a, a < 3 → ∀ b, b < 3 → a ≠ b → (TX5 a).2.1 ≠ (TX5 b).2.1 := by decide +kernel
theorem tyX5_ok : ∀ k, k < 3 → parseFieldDescriptor (TX5 k).2.2.1 = some (tyX5 k) := by decide +kernel
def TX6 : u_T := fun k => match k with
  | 0 => ("FloodStones$River", "year", "I", false)
  | 1 => ("FloodStones$River", "stones", "LFloodStones$Stones;", true)
  | 2 => ("FloodStones$River", "floods", "LFloodStones$Floods;", true)
  | 3 => ("FloodStones$River", "epochs", "LFloodStones$Epochs;", true)
  | 4 => ("FloodStones$River", "chisels", "LFloodStones$Chisels;", true)
  | _ => ("FloodStones$River", "marks", "LFloodStones$Marks;", true)
def tyX6 : Nat → FieldType := fun k => match k with
  | 0 => .int
  | 1 => .object "FloodStones$Stones"
  | 2 => .object "FloodStones$Floods"
  | 3 => .object "FloodStones$Epochs"
  | 4 => .object "FloodStones$Chisels"
  | _ => .object "FloodStones$Marks"
theorem nmX6 : ∀ a, a < 6 → ∀ b, b < 6 → a ≠ b → (TX6 a).2.1 ≠ (TX6 b).2.1 := by decide +kernel
theorem tyX6_ok : ∀ k, k < 6 → parseFieldDescriptor (TX6 k).2.2.1 = some (tyX6 k) := by decide +kernel
def TJ4 : u_T := fun k => match k with
  | 0 => ("java/lang/AbstractStringBuilder", "value", "[B", false)
  | 1 => ("java/lang/AbstractStringBuilder", "coder", "B", false)
  | 2 => ("java/lang/AbstractStringBuilder", "maybeLatin1", "Z", false)
  | _ => ("java/lang/AbstractStringBuilder", "count", "I", false)
def tyJ4 : Nat → FieldType := fun k => match k with
  | 0 => .array .byte
  | 1 => .byte
  | 2 => .boolean
  | _ => .int
theorem nmJ4 : ∀ a, a < 4 → ∀ b, b < 4 → a ≠ b → (TJ4 a).2.1 ≠ (TJ4 b).2.1 := by decide +kernel
theorem tyJ4_ok : ∀ k, k < 4 → parseFieldDescriptor (TJ4 k).2.2.1 = some (tyJ4 k) := by decide +kernel
def TX8 : u_T := fun k => match k with
  | 0 => ("FloodStones$Stones", "count", "I", false)
  | 1 => ("FloodStones$Stones", "place", "[I", true)
  | 2 => ("FloodStones$Stones", "base", "[I", true)
  | 3 => ("FloodStones$Stones", "hardness", "[I", true)
  | _ => ("FloodStones$Stones", "error", "[I", true)
def tyX8 : Nat → FieldType := fun k => match k with
  | 0 => .int
  | 1 => .array .int
  | 2 => .array .int
  | 3 => .array .int
  | _ => .array .int
theorem nmX8 : ∀ a, a < 5 → ∀ b, b < 5 → a ≠ b → (TX8 a).2.1 ≠ (TX8 b).2.1 := by decide +kernel
theorem tyX8_ok : ∀ k, k < 5 → parseFieldDescriptor (TX8 k).2.2.1 = some (tyX8 k) := by decide +kernel
def TX9 : u_T := fun k => match k with
  | 0 => ("FloodStones$Text", "signs", "[C", true)
  | 1 => ("FloodStones$Text", "length", "I", false)
  | 2 => ("FloodStones$Text", "kinds", "[I", true)
  | 3 => ("FloodStones$Text", "numbers", "[I", true)
  | 4 => ("FloodStones$Text", "found", "I", false)
  | _ => ("FloodStones$Text", "position", "I", false)
def tyX9 : Nat → FieldType := fun k => match k with
  | 0 => .array .char
  | 1 => .int
  | 2 => .array .int
  | 3 => .array .int
  | 4 => .int
  | _ => .int
theorem nmX9 : ∀ a, a < 6 → ∀ b, b < 6 → a ≠ b → (TX9 a).2.1 ≠ (TX9 b).2.1 := by decide +kernel
theorem tyX9_ok : ∀ k, k < 6 → parseFieldDescriptor (TX9 k).2.2.1 = some (tyX9 k) := by decide +kernel
def TX10 : u_T := fun k => match k with
  | 0 => ("FloodStones", "now", "LFloodStones$River;", true)
  | 1 => ("FloodStones", "trial", "LFloodStones$River;", true)
  | 2 => ("FloodStones", "saved", "LFloodStones$River;", true)
  | 3 => ("FloodStones", "isSaved", "Z", false)
  | 4 => ("FloodStones", "history", "LFloodStones$History;", true)
  | 5 => ("FloodStones", "refusal", "LFloodStones$Refusal;", true)
  | 6 => ("FloodStones", "text", "LFloodStones$Text;", true)
  | 7 => ("FloodStones", "latestFault", "I", false)
  | 8 => ("FloodStones", "written", "Ljava/lang/StringBuilder;", true)
  | _ => ("FloodStones", "credits", "[I", true)
def tyX10 : Nat → FieldType := fun k => match k with
  | 0 => .object "FloodStones$River"
  | 1 => .object "FloodStones$River"
  | 2 => .object "FloodStones$River"
  | 3 => .boolean
  | 4 => .object "FloodStones$History"
  | 5 => .object "FloodStones$Refusal"
  | 6 => .object "FloodStones$Text"
  | 7 => .int
  | 8 => .object "java/lang/StringBuilder"
  | _ => .array .int
theorem nmX10 : ∀ a, a < 10 → ∀ b, b < 10 → a ≠ b → (TX10 a).2.1 ≠ (TX10 b).2.1 := by decide +kernel
theorem tyX10_ok : ∀ k, k < 10 → parseFieldDescriptor (TX10 k).2.2.1 = some (tyX10 k) := by decide +kernel
def TX11 : u_T := fun k => match k with
  | 0 => ("FloodStonesModel", "g", "[I", true)
  | 1 => ("FloodStonesModel", "kept", "[I", true)
  | 2 => ("FloodStonesModel", "saved", "[I", true)
  | 3 => ("FloodStonesModel", "before", "[I", true)
  | 4 => ("FloodStonesModel", "isSaved", "Z", false)
  | 5 => ("FloodStonesModel", "changes", "I", false)
  | 6 => ("FloodStonesModel", "isWithin", "Z", false)
  | 7 => ("FloodStonesModel", "code", "I", false)
  | 8 => ("FloodStonesModel", "why", "I", false)
  | 9 => ("FloodStonesModel", "detail", "I", false)
  | 10 => ("FloodStonesModel", "command", "I", false)
  | 11 => ("FloodStonesModel", "index", "I", false)
  | 12 => ("FloodStonesModel", "input", "[I", true)
  | 13 => ("FloodStonesModel", "length", "I", false)
  | 14 => ("FloodStonesModel", "fault", "I", false)
  | 15 => ("FloodStonesModel", "signs", "[C", true)
  | 16 => ("FloodStonesModel", "signMany", "I", false)
  | 17 => ("FloodStonesModel", "at", "I", false)
  | 18 => ("FloodStonesModel", "told", "[I", true)
  | _ => ("FloodStonesModel", "toldMany", "I", false)
def tyX11 : Nat → FieldType := fun k => match k with
  | 0 => .array .int
  | 1 => .array .int
  | 2 => .array .int
  | 3 => .array .int
  | 4 => .boolean
  | 5 => .int
  | 6 => .boolean
  | 7 => .int
  | 8 => .int
  | 9 => .int
  | 10 => .int
  | 11 => .int
  | 12 => .array .int
  | 13 => .int
  | 14 => .int
  | 15 => .array .char
  | 16 => .int
  | 17 => .int
  | 18 => .array .int
  | _ => .int
theorem nmX11 : ∀ a, a < 20 → ∀ b, b < 20 → a ≠ b → (TX11 a).2.1 ≠ (TX11 b).2.1 := by decide +kernel
theorem tyX11_ok : ∀ k, k < 20 → parseFieldDescriptor (TX11 k).2.2.1 = some (tyX11 k) := by decide +kernel
/-- the classes whose objects the worlds hold -/
abbrev zcl : List vw_C := [(RX0, TX0, 2), (RX1, TX1, 3), (RX2, TX2, 4), (RX3, TX3, 3), (RX4, TX4, 6), (RX5, TX5, 3), (RX6, TX6, 6), (RJ4, TJ4, 4), (RX8, TX8, 5), (RX9, TX9, 6), (RX10, TX10, 10), (RX11, TX11, 20)]
def zCl (ci : Nat) (C : String) (T : u_T) (N : Nat) (ty : Nat → FieldType) : Prop := zcl[ci]? = some (C, T, N) ∧ (∀ w ∈ u_ws C T N, w ∈ lw_good) ∧ (∀ k, k < N → parseFieldDescriptor (T k).2.2.1 = some (ty k)) ∧ (∀ a, a < N → ∀ b, b < N → a ≠ b → (T a).2.1 ≠ (T b).2.1) ∧ Cond.instantiable C N ∈ lw_good ∧ Cond.initialized C ∈ lw_good
theorem zc0 : zCl 0 RX0 TX0 2 tyX0 := ⟨rfl, zall (by decide +kernel), tyX0_ok, nmX0, zin 127 (by decide +kernel) (by decide +kernel), zin 6 (by decide +kernel) (by decide +kernel)⟩
theorem zc1 : zCl 1 RX1 TX1 3 tyX1 := ⟨rfl, zall (by decide +kernel), tyX1_ok, nmX1, zin 109 (by decide +kernel) (by decide +kernel), zin 5 (by decide +kernel) (by decide +kernel)⟩
theorem zc2 : zCl 2 RX2 TX2 4 tyX2 := ⟨rfl, zall (by decide +kernel), tyX2_ok, nmX2, zin 82 (by decide +kernel) (by decide +kernel), zin 4 (by decide +kernel) (by decide +kernel)⟩
theorem zc3 : zCl 3 RX3 TX3 3 tyX3 := ⟨rfl, zall (by decide +kernel), tyX3_ok, nmX3, zin 197 (by decide +kernel) (by decide +kernel), zin 8 (by decide +kernel) (by decide +kernel)⟩
theorem zc4 : zCl 4 RX4 TX4 6 tyX4 := ⟨rfl, zall (by decide +kernel), tyX4_ok, nmX4, zin 144 (by decide +kernel) (by decide +kernel), zin 7 (by decide +kernel) (by decide +kernel)⟩
theorem zc5 : zCl 5 RX5 TX5 3 tyX5 := ⟨rfl, zall (by decide +kernel), tyX5_ok, nmX5, zin 217 (by decide +kernel) (by decide +kernel), zin 9 (by decide +kernel) (by decide +kernel)⟩
theorem zc6 : zCl 6 RX6 TX6 6 tyX6 := ⟨rfl, zall (by decide +kernel), tyX6_ok, nmX6, zin 45 (by decide +kernel) (by decide +kernel), zin 2 (by decide +kernel) (by decide +kernel)⟩
theorem zc7 : zCl 7 RJ4 TJ4 4 tyJ4 := ⟨rfl, zall (by decide +kernel), tyJ4_ok, nmJ4, zin 264 (by decide +kernel) (by decide +kernel), zin 12 (by decide +kernel) (by decide +kernel)⟩
theorem zc8 : zCl 8 RX8 TX8 5 tyX8 := ⟨rfl, zall (by decide +kernel), tyX8_ok, nmX8, zin 51 (by decide +kernel) (by decide +kernel), zin 3 (by decide +kernel) (by decide +kernel)⟩
theorem zc9 : zCl 9 RX9 TX9 6 tyX9 := ⟨rfl, zall (by decide +kernel), tyX9_ok, nmX9, zin 236 (by decide +kernel) (by decide +kernel), zin 10 (by decide +kernel) (by decide +kernel)⟩
theorem zc10 : zCl 10 RX10 TX10 10 tyX10 := ⟨rfl, zall (by decide +kernel), tyX10_ok, nmX10, zin 37 (by decide +kernel) (by decide +kernel), zin 1 (by decide +kernel) (by decide +kernel)⟩
theorem zc11 : zCl 11 RX11 TX11 20 tyX11 := ⟨rfl, zall (by decide +kernel), tyX11_ok, nmX11, zin 1491 (by decide +kernel) (by decide +kernel), zin 15 (by decide +kernel) (by decide +kernel)⟩
abbrev zMI : Type := MethodName × ByteArray × Nat × Option FieldType × List (Nat × Nat × Nat × Nat)
def yX10_init : MethodName := ⟨RX10, "<init>", "()V"⟩
abbrev mX10_init : zMI := (yX10_init, prog_1_method_1_code, 1, (Option.none : Option Jvm.ClassFile.FieldType), [])
theorem kX10_init : Cond.code yX10_init prog_1_method_1_code 1 (Option.none : Option Jvm.ClassFile.FieldType) ∈ lw_good := zin 40 (by decide +kernel) (by decide +kernel)
def yX6_init : MethodName := ⟨RX6, "<init>", "()V"⟩
abbrev mX6_init : zMI := (yX6_init, prog_8_method_1_code, 1, (Option.none : Option Jvm.ClassFile.FieldType), [])
theorem kX6_init : Cond.code yX6_init prog_8_method_1_code 1 (Option.none : Option Jvm.ClassFile.FieldType) ∈ lw_good := zin 48 (by decide +kernel) (by decide +kernel)
def yX8_init : MethodName := ⟨RX8, "<init>", "()V"⟩
abbrev mX8_init : zMI := (yX8_init, prog_10_method_1_code, 1, (Option.none : Option Jvm.ClassFile.FieldType), [])
theorem kX8_init : Cond.code yX8_init prog_10_method_1_code 1 (Option.none : Option Jvm.ClassFile.FieldType) ∈ lw_good := zin 54 (by decide +kernel) (by decide +kernel)
def yX2_init : MethodName := ⟨RX2, "<init>", "()V"⟩
abbrev mX2_init : zMI := (yX2_init, prog_4_method_1_code, 1, (Option.none : Option Jvm.ClassFile.FieldType), [])
theorem kX2_init : Cond.code yX2_init prog_4_method_1_code 1 (Option.none : Option Jvm.ClassFile.FieldType) ∈ lw_good := zin 85 (by decide +kernel) (by decide +kernel)
def yX1_init : MethodName := ⟨RX1, "<init>", "()V"⟩
abbrev mX1_init : zMI := (yX1_init, prog_3_method_1_code, 1, (Option.none : Option Jvm.ClassFile.FieldType), [])
theorem kX1_init : Cond.code yX1_init prog_3_method_1_code 1 (Option.none : Option Jvm.ClassFile.FieldType) ∈ lw_good := zin 112 (by decide +kernel) (by decide +kernel)
def yX0_init : MethodName := ⟨RX0, "<init>", "()V"⟩
abbrev mX0_init : zMI := (yX0_init, prog_2_method_1_code, 1, (Option.none : Option Jvm.ClassFile.FieldType), [])
theorem kX0_init : Cond.code yX0_init prog_2_method_1_code 1 (Option.none : Option Jvm.ClassFile.FieldType) ∈ lw_good := zin 130 (by decide +kernel) (by decide +kernel)
def yX4_init : MethodName := ⟨RX4, "<init>", "()V"⟩
abbrev mX4_init : zMI := (yX4_init, prog_6_method_1_code, 1, (Option.none : Option Jvm.ClassFile.FieldType), [])
theorem kX4_init : Cond.code yX4_init prog_6_method_1_code 1 (Option.none : Option Jvm.ClassFile.FieldType) ∈ lw_good := zin 147 (by decide +kernel) (by decide +kernel)
def yX3_init : MethodName := ⟨RX3, "<init>", "(I)V"⟩
abbrev mX3_init : zMI := (yX3_init, prog_5_method_1_code, 3, (Option.none : Option Jvm.ClassFile.FieldType), [])
theorem kX3_init : Cond.code yX3_init prog_5_method_1_code 3 (Option.none : Option Jvm.ClassFile.FieldType) ∈ lw_good := zin 200 (by decide +kernel) (by decide +kernel)
def yX5_init : MethodName := ⟨RX5, "<init>", "()V"⟩
abbrev mX5_init : zMI := (yX5_init, prog_7_method_1_code, 1, (Option.none : Option Jvm.ClassFile.FieldType), [])
theorem kX5_init : Cond.code yX5_init prog_7_method_1_code 1 (Option.none : Option Jvm.ClassFile.FieldType) ∈ lw_good := zin 220 (by decide +kernel) (by decide +kernel)
def yX9_init : MethodName := ⟨RX9, "<init>", "()V"⟩
abbrev mX9_init : zMI := (yX9_init, prog_11_method_1_code, 1, (Option.none : Option Jvm.ClassFile.FieldType), [])
theorem kX9_init : Cond.code yX9_init prog_11_method_1_code 1 (Option.none : Option Jvm.ClassFile.FieldType) ∈ lw_good := zin 239 (by decide +kernel) (by decide +kernel)
def yJ4_init_da8c8 : MethodName := ⟨RJ4, "<init>", "()V"⟩
abbrev mJ4_init_da8c8 : zMI := (yJ4_init_da8c8, prog_31_method_1_code, 1, (Option.none : Option Jvm.ClassFile.FieldType), [])
theorem kJ4_init_da8c8 : Cond.code yJ4_init_da8c8 prog_31_method_1_code 1 (Option.none : Option Jvm.ClassFile.FieldType) ∈ lw_good := zin 267 (by decide +kernel) (by decide +kernel)
def yJ5_init_d00df : MethodName := ⟨RJ5, "<init>", "(I)V"⟩
abbrev mJ5_init_d00df : zMI := (yJ5_init_d00df, prog_15_method_2_code, 2, (Option.none : Option Jvm.ClassFile.FieldType), [])
theorem kJ5_init_d00df : Cond.code yJ5_init_d00df prog_15_method_2_code 2 (Option.none : Option Jvm.ClassFile.FieldType) ∈ lw_good := zin 270 (by decide +kernel) (by decide +kernel)
def yX10_doubts : MethodName := ⟨RX10, "doubts", "()I"⟩
abbrev mX10_doubts : zMI := (yX10_doubts, prog_1_method_25_code, 1, (Option.some Jvm.ClassFile.FieldType.int), [])
theorem kX10_doubts : Cond.code yX10_doubts prog_1_method_25_code 1 (Option.some Jvm.ClassFile.FieldType.int) ∈ lw_good := zin 330 (by decide +kernel) (by decide +kernel)
def yX6_doubtsByStones : MethodName := ⟨RX6, "doubtsByStones", "()I"⟩
abbrev mX6_doubtsByStones : zMI := (yX6_doubtsByStones, prog_8_method_24_code, 3, (Option.some Jvm.ClassFile.FieldType.int), [])
theorem kX6_doubtsByStones : Cond.code yX6_doubtsByStones prog_8_method_24_code 3 (Option.some Jvm.ClassFile.FieldType.int) ∈ lw_good := zin 334 (by decide +kernel) (by decide +kernel)
def yX6_doubtsOnStone : MethodName := ⟨RX6, "doubtsOnStone", "(I)I"⟩
abbrev mX6_doubtsOnStone : zMI := (yX6_doubtsOnStone, prog_8_method_22_code, 5, (Option.some Jvm.ClassFile.FieldType.int), [])
theorem kX6_doubtsOnStone : Cond.code yX6_doubtsOnStone prog_8_method_22_code 5 (Option.some Jvm.ClassFile.FieldType.int) ∈ lw_good := zin 338 (by decide +kernel) (by decide +kernel)
def yX6_areInDoubt : MethodName := ⟨RX6, "areInDoubt", "(III)Z"⟩
abbrev mX6_areInDoubt : zMI := (yX6_areInDoubt, prog_8_method_21_code, 6, (Option.some Jvm.ClassFile.FieldType.boolean), [])
theorem kX6_areInDoubt : Cond.code yX6_areInDoubt prog_8_method_21_code 6 (Option.some Jvm.ClassFile.FieldType.boolean) ∈ lw_good := zin 342 (by decide +kernel) (by decide +kernel)
def yX4_has : MethodName := ⟨RX4, "has", "(II)Z"⟩
abbrev mX4_has : zMI := (yX4_has, prog_6_method_4_code, 3, (Option.some Jvm.ClassFile.FieldType.boolean), [])
theorem kX4_has : Cond.code yX4_has prog_6_method_4_code 3 (Option.some Jvm.ClassFile.FieldType.boolean) ∈ lw_good := zin 346 (by decide +kernel) (by decide +kernel)
def yX4_cell : MethodName := ⟨RX4, "cell", "(II)I"⟩
abbrev mX4_cell : zMI := (yX4_cell, prog_6_method_3_code, 2, (Option.some Jvm.ClassFile.FieldType.int), [])
theorem kX4_cell : Cond.code yX4_cell prog_6_method_3_code 2 (Option.some Jvm.ClassFile.FieldType.int) ∈ lw_good := zin 349 (by decide +kernel) (by decide +kernel)
def yX7_at : MethodName := ⟨RX7, "at", "([II)I"⟩
abbrev mX7_at : zMI := (yX7_at, prog_9_method_2_code, 2, (Option.some Jvm.ClassFile.FieldType.int), [])
theorem kX7_at : Cond.code yX7_at prog_9_method_2_code 2 (Option.some Jvm.ClassFile.FieldType.int) ∈ lw_good := zin 352 (by decide +kernel) (by decide +kernel)
def yX6_trueHeight : MethodName := ⟨RX6, "trueHeight", "(II)I"⟩
abbrev mX6_trueHeight : zMI := (yX6_trueHeight, prog_8_method_20_code, 3, (Option.some Jvm.ClassFile.FieldType.int), [])
theorem kX6_trueHeight : Cond.code yX6_trueHeight prog_8_method_20_code 3 (Option.some Jvm.ClassFile.FieldType.int) ∈ lw_good := zin 357 (by decide +kernel) (by decide +kernel)
def yX4_heightAt : MethodName := ⟨RX4, "heightAt", "(II)I"⟩
abbrev mX4_heightAt : zMI := (yX4_heightAt, prog_6_method_5_code, 3, (Option.some Jvm.ClassFile.FieldType.int), [])
theorem kX4_heightAt : Cond.code yX4_heightAt prog_6_method_5_code 3 (Option.some Jvm.ClassFile.FieldType.int) ∈ lw_good := zin 361 (by decide +kernel) (by decide +kernel)
def yX4_cutYearAt : MethodName := ⟨RX4, "cutYearAt", "(II)I"⟩
abbrev mX4_cutYearAt : zMI := (yX4_cutYearAt, prog_6_method_7_code, 3, (Option.some Jvm.ClassFile.FieldType.int), [])
theorem kX4_cutYearAt : Cond.code yX4_cutYearAt prog_6_method_7_code 3 (Option.some Jvm.ClassFile.FieldType.int) ∈ lw_good := zin 365 (by decide +kernel) (by decide +kernel)
def yX1_shiftIn : MethodName := ⟨RX1, "shiftIn", "(I)I"⟩
abbrev mX1_shiftIn : zMI := (yX1_shiftIn, prog_3_method_5_code, 6, (Option.some Jvm.ClassFile.FieldType.int), [])
theorem kX1_shiftIn : Cond.code yX1_shiftIn prog_3_method_5_code 6 (Option.some Jvm.ClassFile.FieldType.int) ∈ lw_good := zin 369 (by decide +kernel) (by decide +kernel)
def yX10_doubtsAgain : MethodName := ⟨RX10, "doubtsAgain", "()I"⟩
abbrev mX10_doubtsAgain : zMI := (yX10_doubtsAgain, prog_1_method_26_code, 1, (Option.some Jvm.ClassFile.FieldType.int), [])
theorem kX10_doubtsAgain : Cond.code yX10_doubtsAgain prog_1_method_26_code 1 (Option.some Jvm.ClassFile.FieldType.int) ∈ lw_good := zin 374 (by decide +kernel) (by decide +kernel)
def yX6_doubtsByFloods : MethodName := ⟨RX6, "doubtsByFloods", "()I"⟩
abbrev mX6_doubtsByFloods : zMI := (yX6_doubtsByFloods, prog_8_method_25_code, 3, (Option.some Jvm.ClassFile.FieldType.int), [])
theorem kX6_doubtsByFloods : Cond.code yX6_doubtsByFloods prog_8_method_25_code 3 (Option.some Jvm.ClassFile.FieldType.int) ∈ lw_good := zin 378 (by decide +kernel) (by decide +kernel)
def yX6_doubtsOfFlood : MethodName := ⟨RX6, "doubtsOfFlood", "(I)I"⟩
abbrev mX6_doubtsOfFlood : zMI := (yX6_doubtsOfFlood, prog_8_method_23_code, 5, (Option.some Jvm.ClassFile.FieldType.int), [])
theorem kX6_doubtsOfFlood : Cond.code yX6_doubtsOfFlood prog_8_method_23_code 5 (Option.some Jvm.ClassFile.FieldType.int) ∈ lw_good := zin 382 (by decide +kernel) (by decide +kernel)
def yX10_faultPosition : MethodName := ⟨RX10, "faultPosition", "()I"⟩
abbrev mX10_faultPosition : zMI := (yX10_faultPosition, prog_1_method_31_code, 1, (Option.some Jvm.ClassFile.FieldType.int), [])
theorem kX10_faultPosition : Cond.code yX10_faultPosition prog_1_method_31_code 1 (Option.some Jvm.ClassFile.FieldType.int) ∈ lw_good := zin 386 (by decide +kernel) (by decide +kernel)
def yX10_save : MethodName := ⟨RX10, "save", "()I"⟩
abbrev mX10_save : zMI := (yX10_save, prog_1_method_39_code, 1, (Option.some Jvm.ClassFile.FieldType.int), [])
theorem kX10_save : Cond.code yX10_save prog_1_method_39_code 1 (Option.some Jvm.ClassFile.FieldType.int) ∈ lw_good := zin 390 (by decide +kernel) (by decide +kernel)
def yX6_copyFrom : MethodName := ⟨RX6, "copyFrom", "(LFloodStones$River;)V"⟩
abbrev mX6_copyFrom : zMI := (yX6_copyFrom, prog_8_method_2_code, 2, (Option.none : Option Jvm.ClassFile.FieldType), [])
theorem kX6_copyFrom : Cond.code yX6_copyFrom prog_8_method_2_code 2 (Option.none : Option Jvm.ClassFile.FieldType) ∈ lw_good := zin 394 (by decide +kernel) (by decide +kernel)
def yX8_copyFrom : MethodName := ⟨RX8, "copyFrom", "(LFloodStones$Stones;)V"⟩
abbrev mX8_copyFrom : zMI := (yX8_copyFrom, prog_10_method_2_code, 2, (Option.none : Option Jvm.ClassFile.FieldType), [])
theorem kX8_copyFrom : Cond.code yX8_copyFrom prog_10_method_2_code 2 (Option.none : Option Jvm.ClassFile.FieldType) ∈ lw_good := zin 398 (by decide +kernel) (by decide +kernel)
def yX7_copy : MethodName := ⟨RX7, "copy", "([I[I)V"⟩
abbrev mX7_copy : zMI := (yX7_copy, prog_9_method_4_code, 2, (Option.none : Option Jvm.ClassFile.FieldType), [])
theorem kX7_copy : Cond.code yX7_copy prog_9_method_4_code 2 (Option.none : Option Jvm.ClassFile.FieldType) ∈ lw_good := zin 401 (by decide +kernel) (by decide +kernel)
def yJ9_min_7cf53 : MethodName := ⟨RJ9, "min", "(II)I"⟩
abbrev mJ9_min_7cf53 : zMI := (yJ9_min_7cf53, prog_27_method_69_code, 2, (Option.some Jvm.ClassFile.FieldType.int), [])
theorem kJ9_min_7cf53 : Cond.code yJ9_min_7cf53 prog_27_method_69_code 2 (Option.some Jvm.ClassFile.FieldType.int) ∈ lw_good := zin 404 (by decide +kernel) (by decide +kernel)
def yX2_copyFrom : MethodName := ⟨RX2, "copyFrom", "(LFloodStones$Floods;)V"⟩
abbrev mX2_copyFrom : zMI := (yX2_copyFrom, prog_4_method_2_code, 2, (Option.none : Option Jvm.ClassFile.FieldType), [])
theorem kX2_copyFrom : Cond.code yX2_copyFrom prog_4_method_2_code 2 (Option.none : Option Jvm.ClassFile.FieldType) ∈ lw_good := zin 411 (by decide +kernel) (by decide +kernel)
def yX1_copyFrom : MethodName := ⟨RX1, "copyFrom", "(LFloodStones$Epochs;)V"⟩
abbrev mX1_copyFrom : zMI := (yX1_copyFrom, prog_3_method_2_code, 2, (Option.none : Option Jvm.ClassFile.FieldType), [])
theorem kX1_copyFrom : Cond.code yX1_copyFrom prog_3_method_2_code 2 (Option.none : Option Jvm.ClassFile.FieldType) ∈ lw_good := zin 416 (by decide +kernel) (by decide +kernel)
def yX0_copyFrom : MethodName := ⟨RX0, "copyFrom", "(LFloodStones$Chisels;)V"⟩
abbrev mX0_copyFrom : zMI := (yX0_copyFrom, prog_2_method_2_code, 2, (Option.none : Option Jvm.ClassFile.FieldType), [])
theorem kX0_copyFrom : Cond.code yX0_copyFrom prog_2_method_2_code 2 (Option.none : Option Jvm.ClassFile.FieldType) ∈ lw_good := zin 421 (by decide +kernel) (by decide +kernel)
def yX4_copyFrom : MethodName := ⟨RX4, "copyFrom", "(LFloodStones$Marks;)V"⟩
abbrev mX4_copyFrom : zMI := (yX4_copyFrom, prog_6_method_2_code, 2, (Option.none : Option Jvm.ClassFile.FieldType), [])
theorem kX4_copyFrom : Cond.code yX4_copyFrom prog_6_method_2_code 2 (Option.none : Option Jvm.ClassFile.FieldType) ∈ lw_good := zin 426 (by decide +kernel) (by decide +kernel)
def yL_stone : MethodName := ⟨RL, "stone", "(LFloodStones;III[J)I"⟩
abbrev mL_stone : zMI := (yL_stone, method_3_code, 6, (Option.some Jvm.ClassFile.FieldType.int), [((0 : Nat), (12 : Nat), (15 : Nat), (13 : Nat))])
theorem kL_stone : Cond.codeWith yL_stone method_3_code 6 (Option.some Jvm.ClassFile.FieldType.int) [((0 : Nat), (12 : Nat), (15 : Nat), (13 : Nat))] ∈ tables_1 := List.mem_of_getElem? (i := 430) (by decide +kernel)
def yX10_stone : MethodName := ⟨RX10, "stone", "(III)I"⟩
abbrev mX10_stone : zMI := (yX10_stone, prog_1_method_2_code, 4, (Option.some Jvm.ClassFile.FieldType.int), [])
theorem kX10_stone : Cond.code yX10_stone prog_1_method_2_code 4 (Option.some Jvm.ClassFile.FieldType.int) ∈ lw_good := zin 435 (by decide +kernel) (by decide +kernel)
def yX6_refusesStone : MethodName := ⟨RX6, "refusesStone", "(IIILFloodStones$Refusal;)Z"⟩
abbrev mX6_refusesStone : zMI := (yX6_refusesStone, prog_8_method_4_code, 5, (Option.some Jvm.ClassFile.FieldType.boolean), [])
theorem kX6_refusesStone : Cond.code yX6_refusesStone prog_8_method_4_code 5 (Option.some Jvm.ClassFile.FieldType.boolean) ∈ lw_good := zin 439 (by decide +kernel) (by decide +kernel)
def yX6_isOutside : MethodName := ⟨RX6, "isOutside", "(III)Z"⟩
abbrev mX6_isOutside : zMI := (yX6_isOutside, prog_8_method_3_code, 3, (Option.some Jvm.ClassFile.FieldType.boolean), [])
theorem kX6_isOutside : Cond.code yX6_isOutside prog_8_method_3_code 3 (Option.some Jvm.ClassFile.FieldType.boolean) ∈ lw_good := zin 442 (by decide +kernel) (by decide +kernel)
def yX5_give : MethodName := ⟨RX5, "give", "(II)Z"⟩
abbrev mX5_give : zMI := (yX5_give, prog_7_method_2_code, 3, (Option.some Jvm.ClassFile.FieldType.boolean), [])
theorem kX5_give : Cond.code yX5_give prog_7_method_2_code 3 (Option.some Jvm.ClassFile.FieldType.boolean) ∈ lw_good := zin 446 (by decide +kernel) (by decide +kernel)
def yX3_keep : MethodName := ⟨RX3, "keep", "(LFloodStones$River;)V"⟩
abbrev mX3_keep : zMI := (yX3_keep, prog_5_method_3_code, 3, (Option.none : Option Jvm.ClassFile.FieldType), [])
theorem kX3_keep : Cond.code yX3_keep prog_5_method_3_code 3 (Option.none : Option Jvm.ClassFile.FieldType) ∈ lw_good := zin 522 (by decide +kernel) (by decide +kernel)
def yX3_slotAt : MethodName := ⟨RX3, "slotAt", "(I)LFloodStones$River;"⟩
abbrev mX3_slotAt : zMI := (yX3_slotAt, prog_5_method_2_code, 2, (Option.some (Jvm.ClassFile.FieldType.object "FloodStones$River")), [])
theorem kX3_slotAt : Cond.code yX3_slotAt prog_5_method_2_code 2 (Option.some (Jvm.ClassFile.FieldType.object "FloodStones$River")) ∈ lw_good := zin 526 (by decide +kernel) (by decide +kernel)
def yX8_add : MethodName := ⟨RX8, "add", "(III)I"⟩
abbrev mX8_add : zMI := (yX8_add, prog_10_method_4_code, 5, (Option.some Jvm.ClassFile.FieldType.int), [])
theorem kX8_add : Cond.code yX8_add prog_10_method_4_code 5 (Option.some Jvm.ClassFile.FieldType.int) ∈ lw_good := zin 532 (by decide +kernel) (by decide +kernel)
def yX7_set : MethodName := ⟨RX7, "set", "([III)V"⟩
abbrev mX7_set : zMI := (yX7_set, prog_9_method_3_code, 3, (Option.none : Option Jvm.ClassFile.FieldType), [])
theorem kX7_set : Cond.code yX7_set prog_9_method_3_code 3 (Option.none : Option Jvm.ClassFile.FieldType) ∈ lw_good := zin 535 (by decide +kernel) (by decide +kernel)
def yL_flood : MethodName := ⟨RL, "flood", "(LFloodStones;III[J)I"⟩
abbrev mL_flood : zMI := (yL_flood, method_4_code, 6, (Option.some Jvm.ClassFile.FieldType.int), [((0 : Nat), (12 : Nat), (15 : Nat), (13 : Nat))])
theorem kL_flood : Cond.codeWith yL_flood method_4_code 6 (Option.some Jvm.ClassFile.FieldType.int) [((0 : Nat), (12 : Nat), (15 : Nat), (13 : Nat))] ∈ tables_1 := List.mem_of_getElem? (i := 538) (by decide +kernel)
def yX10_flood : MethodName := ⟨RX10, "flood", "(III)I"⟩
abbrev mX10_flood : zMI := (yX10_flood, prog_1_method_3_code, 4, (Option.some Jvm.ClassFile.FieldType.int), [])
theorem kX10_flood : Cond.code yX10_flood prog_1_method_3_code 4 (Option.some Jvm.ClassFile.FieldType.int) ∈ lw_good := zin 542 (by decide +kernel) (by decide +kernel)
def yX6_refusesFlood : MethodName := ⟨RX6, "refusesFlood", "(IIILFloodStones$Refusal;)Z"⟩
abbrev mX6_refusesFlood : zMI := (yX6_refusesFlood, prog_8_method_5_code, 6, (Option.some Jvm.ClassFile.FieldType.boolean), [])
theorem kX6_refusesFlood : Cond.code yX6_refusesFlood prog_8_method_5_code 6 (Option.some Jvm.ClassFile.FieldType.boolean) ∈ lw_good := zin 546 (by decide +kernel) (by decide +kernel)
def yX2_findYear : MethodName := ⟨RX2, "findYear", "(I)I"⟩
abbrev mX2_findYear : zMI := (yX2_findYear, prog_4_method_6_code, 3, (Option.some Jvm.ClassFile.FieldType.int), [])
theorem kX2_findYear : Cond.code yX2_findYear prog_4_method_6_code 3 (Option.some Jvm.ClassFile.FieldType.int) ∈ lw_good := zin 550 (by decide +kernel) (by decide +kernel)
def yX2_add : MethodName := ⟨RX2, "add", "(III)I"⟩
abbrev mX2_add : zMI := (yX2_add, prog_4_method_4_code, 5, (Option.some Jvm.ClassFile.FieldType.int), [])
theorem kX2_add : Cond.code yX2_add prog_4_method_4_code 5 (Option.some Jvm.ClassFile.FieldType.int) ∈ lw_good := zin 556 (by decide +kernel) (by decide +kernel)
def yL_epoch : MethodName := ⟨RL, "epoch", "(LFloodStones;II[J)I"⟩
abbrev mL_epoch : zMI := (yL_epoch, method_5_code, 5, (Option.some Jvm.ClassFile.FieldType.int), [((0 : Nat), (10 : Nat), (13 : Nat), (13 : Nat))])
theorem kL_epoch : Cond.codeWith yL_epoch method_5_code 5 (Option.some Jvm.ClassFile.FieldType.int) [((0 : Nat), (10 : Nat), (13 : Nat), (13 : Nat))] ∈ tables_1 := List.mem_of_getElem? (i := 560) (by decide +kernel)
def yX10_epoch : MethodName := ⟨RX10, "epoch", "(II)I"⟩
abbrev mX10_epoch : zMI := (yX10_epoch, prog_1_method_4_code, 3, (Option.some Jvm.ClassFile.FieldType.int), [])
theorem kX10_epoch : Cond.code yX10_epoch prog_1_method_4_code 3 (Option.some Jvm.ClassFile.FieldType.int) ∈ lw_good := zin 564 (by decide +kernel) (by decide +kernel)
def yX6_refusesEpoch : MethodName := ⟨RX6, "refusesEpoch", "(IILFloodStones$Refusal;)Z"⟩
abbrev mX6_refusesEpoch : zMI := (yX6_refusesEpoch, prog_8_method_6_code, 4, (Option.some Jvm.ClassFile.FieldType.boolean), [])
theorem kX6_refusesEpoch : Cond.code yX6_refusesEpoch prog_8_method_6_code 4 (Option.some Jvm.ClassFile.FieldType.boolean) ∈ lw_good := zin 568 (by decide +kernel) (by decide +kernel)
def yX1_find : MethodName := ⟨RX1, "find", "(I)I"⟩
abbrev mX1_find : zMI := (yX1_find, prog_3_method_3_code, 3, (Option.some Jvm.ClassFile.FieldType.int), [])
theorem kX1_find : Cond.code yX1_find prog_3_method_3_code 3 (Option.some Jvm.ClassFile.FieldType.int) ∈ lw_good := zin 572 (by decide +kernel) (by decide +kernel)
def yX1_tell : MethodName := ⟨RX1, "tell", "(II)I"⟩
abbrev mX1_tell : zMI := (yX1_tell, prog_3_method_4_code, 4, (Option.some Jvm.ClassFile.FieldType.int), [])
theorem kX1_tell : Cond.code yX1_tell prog_3_method_4_code 4 (Option.some Jvm.ClassFile.FieldType.int) ∈ lw_good := zin 577 (by decide +kernel) (by decide +kernel)
def yL_chisel : MethodName := ⟨RL, "chisel", "(LFloodStones;[J)I"⟩
abbrev mL_chisel : zMI := (yL_chisel, method_6_code, 3, (Option.some Jvm.ClassFile.FieldType.int), [((0 : Nat), (8 : Nat), (11 : Nat), (13 : Nat))])
theorem kL_chisel : Cond.codeWith yL_chisel method_6_code 3 (Option.some Jvm.ClassFile.FieldType.int) [((0 : Nat), (8 : Nat), (11 : Nat), (13 : Nat))] ∈ tables_1 := List.mem_of_getElem? (i := 582) (by decide +kernel)
def yX10_chisel : MethodName := ⟨RX10, "chisel", "()I"⟩
abbrev mX10_chisel : zMI := (yX10_chisel, prog_1_method_5_code, 1, (Option.some Jvm.ClassFile.FieldType.int), [])
theorem kX10_chisel : Cond.code yX10_chisel prog_1_method_5_code 1 (Option.some Jvm.ClassFile.FieldType.int) ∈ lw_good := zin 586 (by decide +kernel) (by decide +kernel)
def yX6_refusesChisel : MethodName := ⟨RX6, "refusesChisel", "(LFloodStones$Refusal;)Z"⟩
abbrev mX6_refusesChisel : zMI := (yX6_refusesChisel, prog_8_method_7_code, 2, (Option.some Jvm.ClassFile.FieldType.boolean), [])
theorem kX6_refusesChisel : Cond.code yX6_refusesChisel prog_8_method_7_code 2 (Option.some Jvm.ClassFile.FieldType.boolean) ∈ lw_good := zin 590 (by decide +kernel) (by decide +kernel)
def yX0_add : MethodName := ⟨RX0, "add", "()I"⟩
abbrev mX0_add : zMI := (yX0_add, prog_2_method_4_code, 2, (Option.some Jvm.ClassFile.FieldType.int), [])
theorem kX0_add : Cond.code yX0_add prog_2_method_4_code 2 (Option.some Jvm.ClassFile.FieldType.int) ∈ lw_good := zin 595 (by decide +kernel) (by decide +kernel)
def yL_cut : MethodName := ⟨RL, "cut", "(LFloodStones;III[J)I"⟩
abbrev mL_cut : zMI := (yL_cut, method_7_code, 6, (Option.some Jvm.ClassFile.FieldType.int), [((0 : Nat), (12 : Nat), (15 : Nat), (13 : Nat))])
theorem kL_cut : Cond.codeWith yL_cut method_7_code 6 (Option.some Jvm.ClassFile.FieldType.int) [((0 : Nat), (12 : Nat), (15 : Nat), (13 : Nat))] ∈ tables_1 := List.mem_of_getElem? (i := 599) (by decide +kernel)
def yX10_cut : MethodName := ⟨RX10, "cut", "(III)I"⟩
abbrev mX10_cut : zMI := (yX10_cut, prog_1_method_6_code, 4, (Option.some Jvm.ClassFile.FieldType.int), [])
theorem kX10_cut : Cond.code yX10_cut prog_1_method_6_code 4 (Option.some Jvm.ClassFile.FieldType.int) ∈ lw_good := zin 603 (by decide +kernel) (by decide +kernel)
def yX6_refusesCut : MethodName := ⟨RX6, "refusesCut", "(IIILFloodStones$Refusal;)Z"⟩
abbrev mX6_refusesCut : zMI := (yX6_refusesCut, prog_8_method_8_code, 9, (Option.some Jvm.ClassFile.FieldType.boolean), [])
theorem kX6_refusesCut : Cond.code yX6_refusesCut prog_8_method_8_code 9 (Option.some Jvm.ClassFile.FieldType.boolean) ∈ lw_good := zin 607 (by decide +kernel) (by decide +kernel)
def yX8_has : MethodName := ⟨RX8, "has", "(I)Z"⟩
abbrev mX8_has : zMI := (yX8_has, prog_10_method_3_code, 2, (Option.some Jvm.ClassFile.FieldType.boolean), [])
theorem kX8_has : Cond.code yX8_has prog_10_method_3_code 2 (Option.some Jvm.ClassFile.FieldType.boolean) ∈ lw_good := zin 611 (by decide +kernel) (by decide +kernel)
def yX2_has : MethodName := ⟨RX2, "has", "(I)Z"⟩
abbrev mX2_has : zMI := (yX2_has, prog_4_method_3_code, 2, (Option.some Jvm.ClassFile.FieldType.boolean), [])
theorem kX2_has : Cond.code yX2_has prog_4_method_3_code 2 (Option.some Jvm.ClassFile.FieldType.boolean) ∈ lw_good := zin 615 (by decide +kernel) (by decide +kernel)
def yX0_has : MethodName := ⟨RX0, "has", "(I)Z"⟩
abbrev mX0_has : zMI := (yX0_has, prog_2_method_3_code, 2, (Option.some Jvm.ClassFile.FieldType.boolean), [])
theorem kX0_has : Cond.code yX0_has prog_2_method_3_code 2 (Option.some Jvm.ClassFile.FieldType.boolean) ∈ lw_good := zin 619 (by decide +kernel) (by decide +kernel)
def yX6_levelAt : MethodName := ⟨RX6, "levelAt", "(II)I"⟩
abbrev mX6_levelAt : zMI := (yX6_levelAt, prog_8_method_18_code, 3, (Option.some Jvm.ClassFile.FieldType.int), [])
theorem kX6_levelAt : Cond.code yX6_levelAt prog_8_method_18_code 3 (Option.some Jvm.ClassFile.FieldType.int) ∈ lw_good := zin 623 (by decide +kernel) (by decide +kernel)
def yX8_loss : MethodName := ⟨RX8, "loss", "(I)I"⟩
abbrev mX8_loss : zMI := (yX8_loss, prog_10_method_8_code, 2, (Option.some Jvm.ClassFile.FieldType.int), [])
theorem kX8_loss : Cond.code yX8_loss prog_10_method_8_code 2 (Option.some Jvm.ClassFile.FieldType.int) ∈ lw_good := zin 627 (by decide +kernel) (by decide +kernel)
def yX6_readingAt : MethodName := ⟨RX6, "readingAt", "(II)I"⟩
abbrev mX6_readingAt : zMI := (yX6_readingAt, prog_8_method_19_code, 3, (Option.some Jvm.ClassFile.FieldType.int), [])
theorem kX6_readingAt : Cond.code yX6_readingAt prog_8_method_19_code 3 (Option.some Jvm.ClassFile.FieldType.int) ∈ lw_good := zin 632 (by decide +kernel) (by decide +kernel)
def yX4_floodAtHeight : MethodName := ⟨RX4, "floodAtHeight", "(II)I"⟩
abbrev mX4_floodAtHeight : zMI := (yX4_floodAtHeight, prog_6_method_14_code, 4, (Option.some Jvm.ClassFile.FieldType.int), [])
theorem kX4_floodAtHeight : Cond.code yX4_floodAtHeight prog_6_method_14_code 4 (Option.some Jvm.ClassFile.FieldType.int) ∈ lw_good := zin 636 (by decide +kernel) (by decide +kernel)
def yX4_countOn : MethodName := ⟨RX4, "countOn", "(I)I"⟩
abbrev mX4_countOn : zMI := (yX4_countOn, prog_6_method_11_code, 4, (Option.some Jvm.ClassFile.FieldType.int), [])
theorem kX4_countOn : Cond.code yX4_countOn prog_6_method_11_code 4 (Option.some Jvm.ClassFile.FieldType.int) ∈ lw_good := zin 642 (by decide +kernel) (by decide +kernel)
def yX6_cutMark : MethodName := ⟨RX6, "cutMark", "(III)I"⟩
abbrev mX6_cutMark : zMI := (yX6_cutMark, prog_8_method_14_code, 6, (Option.some Jvm.ClassFile.FieldType.int), [])
theorem kX6_cutMark : Cond.code yX6_cutMark prog_8_method_14_code 6 (Option.some Jvm.ClassFile.FieldType.int) ∈ lw_good := zin 647 (by decide +kernel) (by decide +kernel)
def yX4_add : MethodName := ⟨RX4, "add", "(IIII)V"⟩
abbrev mX4_add : zMI := (yX4_add, prog_6_method_8_code, 5, (Option.none : Option Jvm.ClassFile.FieldType), [])
theorem kX4_add : Cond.code yX4_add prog_6_method_8_code 5 (Option.none : Option Jvm.ClassFile.FieldType) ∈ lw_good := zin 652 (by decide +kernel) (by decide +kernel)
def yX0_blunt : MethodName := ⟨RX0, "blunt", "(II)V"⟩
abbrev mX0_blunt : zMI := (yX0_blunt, prog_2_method_6_code, 3, (Option.none : Option Jvm.ClassFile.FieldType), [])
theorem kX0_blunt : Cond.code yX0_blunt prog_2_method_6_code 3 (Option.none : Option Jvm.ClassFile.FieldType) ∈ lw_good := zin 657 (by decide +kernel) (by decide +kernel)
def yL_efface : MethodName := ⟨RL, "efface", "(LFloodStones;II[J)I"⟩
abbrev mL_efface : zMI := (yL_efface, method_8_code, 5, (Option.some Jvm.ClassFile.FieldType.int), [((0 : Nat), (10 : Nat), (13 : Nat), (13 : Nat))])
theorem kL_efface : Cond.codeWith yL_efface method_8_code 5 (Option.some Jvm.ClassFile.FieldType.int) [((0 : Nat), (10 : Nat), (13 : Nat), (13 : Nat))] ∈ tables_1 := List.mem_of_getElem? (i := 661) (by decide +kernel)
def yX10_efface : MethodName := ⟨RX10, "efface", "(II)I"⟩
abbrev mX10_efface : zMI := (yX10_efface, prog_1_method_7_code, 3, (Option.some Jvm.ClassFile.FieldType.int), [])
theorem kX10_efface : Cond.code yX10_efface prog_1_method_7_code 3 (Option.some Jvm.ClassFile.FieldType.int) ∈ lw_good := zin 665 (by decide +kernel) (by decide +kernel)
def yX6_refusesEfface : MethodName := ⟨RX6, "refusesEfface", "(IILFloodStones$Refusal;)Z"⟩
abbrev mX6_refusesEfface : zMI := (yX6_refusesEfface, prog_8_method_9_code, 4, (Option.some Jvm.ClassFile.FieldType.boolean), [])
theorem kX6_refusesEfface : Cond.code yX6_refusesEfface prog_8_method_9_code 4 (Option.some Jvm.ClassFile.FieldType.boolean) ∈ lw_good := zin 669 (by decide +kernel) (by decide +kernel)
def yX4_takeOff : MethodName := ⟨RX4, "takeOff", "(II)I"⟩
abbrev mX4_takeOff : zMI := (yX4_takeOff, prog_6_method_9_code, 3, (Option.some Jvm.ClassFile.FieldType.int), [])
theorem kX4_takeOff : Cond.code yX4_takeOff prog_6_method_9_code 3 (Option.some Jvm.ClassFile.FieldType.int) ∈ lw_good := zin 674 (by decide +kernel) (by decide +kernel)
def yL_sharpen : MethodName := ⟨RL, "sharpen", "(LFloodStones;I[J)I"⟩
abbrev mL_sharpen : zMI := (yL_sharpen, method_9_code, 4, (Option.some Jvm.ClassFile.FieldType.int), [((0 : Nat), (9 : Nat), (12 : Nat), (13 : Nat))])
theorem kL_sharpen : Cond.codeWith yL_sharpen method_9_code 4 (Option.some Jvm.ClassFile.FieldType.int) [((0 : Nat), (9 : Nat), (12 : Nat), (13 : Nat))] ∈ tables_1 := List.mem_of_getElem? (i := 677) (by decide +kernel)
def yX10_sharpen : MethodName := ⟨RX10, "sharpen", "(I)I"⟩
abbrev mX10_sharpen : zMI := (yX10_sharpen, prog_1_method_8_code, 2, (Option.some Jvm.ClassFile.FieldType.int), [])
theorem kX10_sharpen : Cond.code yX10_sharpen prog_1_method_8_code 2 (Option.some Jvm.ClassFile.FieldType.int) ∈ lw_good := zin 681 (by decide +kernel) (by decide +kernel)
def yX6_refusesSharpen : MethodName := ⟨RX6, "refusesSharpen", "(ILFloodStones$Refusal;)Z"⟩
abbrev mX6_refusesSharpen : zMI := (yX6_refusesSharpen, prog_8_method_10_code, 3, (Option.some Jvm.ClassFile.FieldType.boolean), [])
theorem kX6_refusesSharpen : Cond.code yX6_refusesSharpen prog_8_method_10_code 3 (Option.some Jvm.ClassFile.FieldType.boolean) ∈ lw_good := zin 685 (by decide +kernel) (by decide +kernel)
def yX0_renew : MethodName := ⟨RX0, "renew", "(I)I"⟩
abbrev mX0_renew : zMI := (yX0_renew, prog_2_method_5_code, 3, (Option.some Jvm.ClassFile.FieldType.int), [])
theorem kX0_renew : Cond.code yX0_renew prog_2_method_5_code 3 (Option.some Jvm.ClassFile.FieldType.int) ∈ lw_good := zin 690 (by decide +kernel) (by decide +kernel)
def yL_check : MethodName := ⟨RL, "check", "(LFloodStones;I[J)I"⟩
abbrev mL_check : zMI := (yL_check, method_10_code, 4, (Option.some Jvm.ClassFile.FieldType.int), [((0 : Nat), (9 : Nat), (12 : Nat), (13 : Nat))])
theorem kL_check : Cond.codeWith yL_check method_10_code 4 (Option.some Jvm.ClassFile.FieldType.int) [((0 : Nat), (9 : Nat), (12 : Nat), (13 : Nat))] ∈ tables_1 := List.mem_of_getElem? (i := 693) (by decide +kernel)
def yX10_check : MethodName := ⟨RX10, "check", "(I)I"⟩
abbrev mX10_check : zMI := (yX10_check, prog_1_method_9_code, 2, (Option.some Jvm.ClassFile.FieldType.int), [])
theorem kX10_check : Cond.code yX10_check prog_1_method_9_code 2 (Option.some Jvm.ClassFile.FieldType.int) ∈ lw_good := zin 697 (by decide +kernel) (by decide +kernel)
def yX6_refusesCheck : MethodName := ⟨RX6, "refusesCheck", "(ILFloodStones$Refusal;)Z"⟩
abbrev mX6_refusesCheck : zMI := (yX6_refusesCheck, prog_8_method_11_code, 3, (Option.some Jvm.ClassFile.FieldType.boolean), [])
theorem kX6_refusesCheck : Cond.code yX6_refusesCheck prog_8_method_11_code 3 (Option.some Jvm.ClassFile.FieldType.boolean) ∈ lw_good := zin 701 (by decide +kernel) (by decide +kernel)
def yX8_setRight : MethodName := ⟨RX8, "setRight", "(I)I"⟩
abbrev mX8_setRight : zMI := (yX8_setRight, prog_10_method_5_code, 3, (Option.some Jvm.ClassFile.FieldType.int), [])
theorem kX8_setRight : Cond.code yX8_setRight prog_10_method_5_code 3 (Option.some Jvm.ClassFile.FieldType.int) ∈ lw_good := zin 706 (by decide +kernel) (by decide +kernel)
def yL_witness : MethodName := ⟨RL, "witness", "(LFloodStones;II[J)I"⟩
abbrev mL_witness : zMI := (yL_witness, method_11_code, 5, (Option.some Jvm.ClassFile.FieldType.int), [((0 : Nat), (10 : Nat), (13 : Nat), (13 : Nat))])
theorem kL_witness : Cond.codeWith yL_witness method_11_code 5 (Option.some Jvm.ClassFile.FieldType.int) [((0 : Nat), (10 : Nat), (13 : Nat), (13 : Nat))] ∈ tables_1 := List.mem_of_getElem? (i := 709) (by decide +kernel)
def yX10_witness : MethodName := ⟨RX10, "witness", "(II)I"⟩
abbrev mX10_witness : zMI := (yX10_witness, prog_1_method_10_code, 3, (Option.some Jvm.ClassFile.FieldType.int), [])
theorem kX10_witness : Cond.code yX10_witness prog_1_method_10_code 3 (Option.some Jvm.ClassFile.FieldType.int) ∈ lw_good := zin 713 (by decide +kernel) (by decide +kernel)
def yX6_refusesWitness : MethodName := ⟨RX6, "refusesWitness", "(IILFloodStones$Refusal;)Z"⟩
abbrev mX6_refusesWitness : zMI := (yX6_refusesWitness, prog_8_method_12_code, 4, (Option.some Jvm.ClassFile.FieldType.boolean), [])
theorem kX6_refusesWitness : Cond.code yX6_refusesWitness prog_8_method_12_code 4 (Option.some Jvm.ClassFile.FieldType.boolean) ∈ lw_good := zin 717 (by decide +kernel) (by decide +kernel)
def yX2_addWitnesses : MethodName := ⟨RX2, "addWitnesses", "(II)I"⟩
abbrev mX2_addWitnesses : zMI := (yX2_addWitnesses, prog_4_method_5_code, 4, (Option.some Jvm.ClassFile.FieldType.int), [])
theorem kX2_addWitnesses : Cond.code yX2_addWitnesses prog_4_method_5_code 4 (Option.some Jvm.ClassFile.FieldType.int) ∈ lw_good := zin 722 (by decide +kernel) (by decide +kernel)
def yL_years : MethodName := ⟨RL, "years", "(LFloodStones;I[J)I"⟩
abbrev mL_years : zMI := (yL_years, method_12_code, 4, (Option.some Jvm.ClassFile.FieldType.int), [((0 : Nat), (9 : Nat), (12 : Nat), (13 : Nat))])
theorem kL_years : Cond.codeWith yL_years method_12_code 4 (Option.some Jvm.ClassFile.FieldType.int) [((0 : Nat), (9 : Nat), (12 : Nat), (13 : Nat))] ∈ tables_1 := List.mem_of_getElem? (i := 725) (by decide +kernel)
def yX10_years : MethodName := ⟨RX10, "years", "(I)I"⟩
abbrev mX10_years : zMI := (yX10_years, prog_1_method_11_code, 2, (Option.some Jvm.ClassFile.FieldType.int), [])
theorem kX10_years : Cond.code yX10_years prog_1_method_11_code 2 (Option.some Jvm.ClassFile.FieldType.int) ∈ lw_good := zin 729 (by decide +kernel) (by decide +kernel)
def yX6_refusesYears : MethodName := ⟨RX6, "refusesYears", "(ILFloodStones$Refusal;)Z"⟩
abbrev mX6_refusesYears : zMI := (yX6_refusesYears, prog_8_method_13_code, 3, (Option.some Jvm.ClassFile.FieldType.boolean), [])
theorem kX6_refusesYears : Cond.code yX6_refusesYears prog_8_method_13_code 3 (Option.some Jvm.ClassFile.FieldType.boolean) ∈ lw_good := zin 733 (by decide +kernel) (by decide +kernel)
def yX6_passYears : MethodName := ⟨RX6, "passYears", "(I)I"⟩
abbrev mX6_passYears : zMI := (yX6_passYears, prog_8_method_15_code, 4, (Option.some Jvm.ClassFile.FieldType.int), [])
theorem kX6_passYears : Cond.code yX6_passYears prog_8_method_15_code 4 (Option.some Jvm.ClassFile.FieldType.int) ∈ lw_good := zin 738 (by decide +kernel) (by decide +kernel)
def yX8_driftAll : MethodName := ⟨RX8, "driftAll", "()V"⟩
abbrev mX8_driftAll : zMI := (yX8_driftAll, prog_10_method_6_code, 2, (Option.none : Option Jvm.ClassFile.FieldType), [])
theorem kX8_driftAll : Cond.code yX8_driftAll prog_10_method_6_code 2 (Option.none : Option Jvm.ClassFile.FieldType) ∈ lw_good := zin 742 (by decide +kernel) (by decide +kernel)
def yX8_drift : MethodName := ⟨RX8, "drift", "(I)I"⟩
abbrev mX8_drift : zMI := (yX8_drift, prog_10_method_7_code, 1, (Option.some Jvm.ClassFile.FieldType.int), [])
theorem kX8_drift : Cond.code yX8_drift prog_10_method_7_code 1 (Option.some Jvm.ClassFile.FieldType.int) ∈ lw_good := zin 745 (by decide +kernel) (by decide +kernel)
def yJ9_max_7cf53 : MethodName := ⟨RJ9, "max", "(II)I"⟩
abbrev mJ9_max_7cf53 : zMI := (yJ9_max_7cf53, prog_27_method_65_code, 2, (Option.some Jvm.ClassFile.FieldType.int), [])
theorem kJ9_max_7cf53 : Cond.code yJ9_max_7cf53 prog_27_method_65_code 2 (Option.some Jvm.ClassFile.FieldType.int) ∈ lw_good := zin 749 (by decide +kernel) (by decide +kernel)
def yX4_weatherAll : MethodName := ⟨RX4, "weatherAll", "()I"⟩
abbrev mX4_weatherAll : zMI := (yX4_weatherAll, prog_6_method_10_code, 4, (Option.some Jvm.ClassFile.FieldType.int), [])
theorem kX4_weatherAll : Cond.code yX4_weatherAll prog_6_method_10_code 4 (Option.some Jvm.ClassFile.FieldType.int) ∈ lw_good := zin 753 (by decide +kernel) (by decide +kernel)
def yL_stoneOf : MethodName := ⟨RL, "stoneOf", "(LFloodStones;II[J)I"⟩
abbrev mL_stoneOf : zMI := (yL_stoneOf, method_13_code, 5, (Option.some Jvm.ClassFile.FieldType.int), [((0 : Nat), (10 : Nat), (13 : Nat), (48 : Nat)), ((0 : Nat), (10 : Nat), (17 : Nat), (50 : Nat))])
theorem kL_stoneOf : Cond.codeWith yL_stoneOf method_13_code 5 (Option.some Jvm.ClassFile.FieldType.int) [((0 : Nat), (10 : Nat), (13 : Nat), (48 : Nat)), ((0 : Nat), (10 : Nat), (17 : Nat), (50 : Nat))] ∈ tables_1 := List.mem_of_getElem? (i := 756) (by decide +kernel)
def yX10_stoneOf : MethodName := ⟨RX10, "stoneOf", "(II)I"⟩
abbrev mX10_stoneOf : zMI := (yX10_stoneOf, prog_1_method_12_code, 3, (Option.some Jvm.ClassFile.FieldType.int), [])
theorem kX10_stoneOf : Cond.code yX10_stoneOf prog_1_method_12_code 3 (Option.some Jvm.ClassFile.FieldType.int) ∈ lw_good := zin 785 (by decide +kernel) (by decide +kernel)
def yL_floodOf : MethodName := ⟨RL, "floodOf", "(LFloodStones;II[J)I"⟩
abbrev mL_floodOf : zMI := (yL_floodOf, method_14_code, 5, (Option.some Jvm.ClassFile.FieldType.int), [((0 : Nat), (10 : Nat), (13 : Nat), (48 : Nat)), ((0 : Nat), (10 : Nat), (17 : Nat), (50 : Nat))])
theorem kL_floodOf : Cond.codeWith yL_floodOf method_14_code 5 (Option.some Jvm.ClassFile.FieldType.int) [((0 : Nat), (10 : Nat), (13 : Nat), (48 : Nat)), ((0 : Nat), (10 : Nat), (17 : Nat), (50 : Nat))] ∈ tables_1 := List.mem_of_getElem? (i := 821) (by decide +kernel)
def yX10_floodOf : MethodName := ⟨RX10, "floodOf", "(II)I"⟩
abbrev mX10_floodOf : zMI := (yX10_floodOf, prog_1_method_13_code, 3, (Option.some Jvm.ClassFile.FieldType.int), [])
theorem kX10_floodOf : Cond.code yX10_floodOf prog_1_method_13_code 3 (Option.some Jvm.ClassFile.FieldType.int) ∈ lw_good := zin 825 (by decide +kernel) (by decide +kernel)
def yX4_countFor : MethodName := ⟨RX4, "countFor", "(I)I"⟩
abbrev mX4_countFor : zMI := (yX4_countFor, prog_6_method_12_code, 4, (Option.some Jvm.ClassFile.FieldType.int), [])
theorem kX4_countFor : Cond.code yX4_countFor prog_6_method_12_code 4 (Option.some Jvm.ClassFile.FieldType.int) ∈ lw_good := zin 831 (by decide +kernel) (by decide +kernel)
def yX6_creditOf : MethodName := ⟨RX6, "creditOf", "(I)I"⟩
abbrev mX6_creditOf : zMI := (yX6_creditOf, prog_8_method_27_code, 2, (Option.some Jvm.ClassFile.FieldType.int), [])
theorem kX6_creditOf : Cond.code yX6_creditOf prog_8_method_27_code 2 (Option.some Jvm.ClassFile.FieldType.int) ∈ lw_good := zin 836 (by decide +kernel) (by decide +kernel)
def yL_floodIn : MethodName := ⟨RL, "floodIn", "(LFloodStones;I[J)I"⟩
abbrev mL_floodIn : zMI := (yL_floodIn, method_15_code, 4, (Option.some Jvm.ClassFile.FieldType.int), [((0 : Nat), (9 : Nat), (12 : Nat), (58 : Nat))])
theorem kL_floodIn : Cond.codeWith yL_floodIn method_15_code 4 (Option.some Jvm.ClassFile.FieldType.int) [((0 : Nat), (9 : Nat), (12 : Nat), (58 : Nat))] ∈ tables_1 := List.mem_of_getElem? (i := 840) (by decide +kernel)
def yX10_floodIn : MethodName := ⟨RX10, "floodIn", "(I)I"⟩
abbrev mX10_floodIn : zMI := (yX10_floodIn, prog_1_method_14_code, 3, (Option.some Jvm.ClassFile.FieldType.int), [])
theorem kX10_floodIn : Cond.code yX10_floodIn prog_1_method_14_code 3 (Option.some Jvm.ClassFile.FieldType.int) ∈ lw_good := zin 845 (by decide +kernel) (by decide +kernel)
def yL_before : MethodName := ⟨RL, "before", "(LFloodStones;I[J)I"⟩
abbrev mL_before : zMI := (yL_before, method_16_code, 4, (Option.some Jvm.ClassFile.FieldType.int), [((0 : Nat), (9 : Nat), (12 : Nat), (58 : Nat))])
theorem kL_before : Cond.codeWith yL_before method_16_code 4 (Option.some Jvm.ClassFile.FieldType.int) [((0 : Nat), (9 : Nat), (12 : Nat), (58 : Nat))] ∈ tables_1 := List.mem_of_getElem? (i := 865) (by decide +kernel)
def yX10_before : MethodName := ⟨RX10, "before", "(I)I"⟩
abbrev mX10_before : zMI := (yX10_before, prog_1_method_15_code, 3, (Option.some Jvm.ClassFile.FieldType.int), [])
theorem kX10_before : Cond.code yX10_before prog_1_method_15_code 3 (Option.some Jvm.ClassFile.FieldType.int) ∈ lw_good := zin 869 (by decide +kernel) (by decide +kernel)
def yX2_findLatestAhead : MethodName := ⟨RX2, "findLatestAhead", "(I)I"⟩
abbrev mX2_findLatestAhead : zMI := (yX2_findLatestAhead, prog_4_method_7_code, 5, (Option.some Jvm.ClassFile.FieldType.int), [])
theorem kX2_findLatestAhead : Cond.code yX2_findLatestAhead prog_4_method_7_code 5 (Option.some Jvm.ClassFile.FieldType.int) ∈ lw_good := zin 873 (by decide +kernel) (by decide +kernel)
def yL_edge : MethodName := ⟨RL, "edge", "(LFloodStones;I[J)I"⟩
abbrev mL_edge : zMI := (yL_edge, method_17_code, 4, (Option.some Jvm.ClassFile.FieldType.int), [((0 : Nat), (9 : Nat), (12 : Nat), (48 : Nat))])
theorem kL_edge : Cond.codeWith yL_edge method_17_code 4 (Option.some Jvm.ClassFile.FieldType.int) [((0 : Nat), (9 : Nat), (12 : Nat), (48 : Nat))] ∈ tables_1 := List.mem_of_getElem? (i := 877) (by decide +kernel)
def yX10_edge : MethodName := ⟨RX10, "edge", "(I)I"⟩
abbrev mX10_edge : zMI := (yX10_edge, prog_1_method_16_code, 2, (Option.some Jvm.ClassFile.FieldType.int), [])
theorem kX10_edge : Cond.code yX10_edge prog_1_method_16_code 2 (Option.some Jvm.ClassFile.FieldType.int) ∈ lw_good := zin 881 (by decide +kernel) (by decide +kernel)
def yL_markOf : MethodName := ⟨RL, "markOf", "(LFloodStones;III[J)I"⟩
abbrev mL_markOf : zMI := (yL_markOf, method_18_code, 6, (Option.some Jvm.ClassFile.FieldType.int), [((0 : Nat), (12 : Nat), (15 : Nat), (48 : Nat)), ((0 : Nat), (12 : Nat), (19 : Nat), (50 : Nat)), ((0 : Nat), (12 : Nat), (23 : Nat), (58 : Nat))])
theorem kL_markOf : Cond.codeWith yL_markOf method_18_code 6 (Option.some Jvm.ClassFile.FieldType.int) [((0 : Nat), (12 : Nat), (15 : Nat), (48 : Nat)), ((0 : Nat), (12 : Nat), (19 : Nat), (50 : Nat)), ((0 : Nat), (12 : Nat), (23 : Nat), (58 : Nat))] ∈ tables_1 := List.mem_of_getElem? (i := 886) (by decide +kernel)
def yX10_markOf : MethodName := ⟨RX10, "markOf", "(III)I"⟩
abbrev mX10_markOf : zMI := (yX10_markOf, prog_1_method_17_code, 4, (Option.some Jvm.ClassFile.FieldType.int), [])
theorem kX10_markOf : Cond.code yX10_markOf prog_1_method_17_code 4 (Option.some Jvm.ClassFile.FieldType.int) ∈ lw_good := zin 890 (by decide +kernel) (by decide +kernel)
def yX4_depthAt : MethodName := ⟨RX4, "depthAt", "(II)I"⟩
abbrev mX4_depthAt : zMI := (yX4_depthAt, prog_6_method_6_code, 3, (Option.some Jvm.ClassFile.FieldType.int), [])
theorem kX4_depthAt : Cond.code yX4_depthAt prog_6_method_6_code 3 (Option.some Jvm.ClassFile.FieldType.int) ∈ lw_good := zin 899 (by decide +kernel) (by decide +kernel)
def yX6_yearsLeft : MethodName := ⟨RX6, "yearsLeft", "(II)I"⟩
abbrev mX6_yearsLeft : zMI := (yX6_yearsLeft, prog_8_method_17_code, 4, (Option.some Jvm.ClassFile.FieldType.int), [])
theorem kX6_yearsLeft : Cond.code yX6_yearsLeft prog_8_method_17_code 4 (Option.some Jvm.ClassFile.FieldType.int) ∈ lw_good := zin 905 (by decide +kernel) (by decide +kernel)
def yL_mark : MethodName := ⟨RL, "mark", "(LFloodStones;II[J)I"⟩
abbrev mL_mark : zMI := (yL_mark, method_19_code, 5, (Option.some Jvm.ClassFile.FieldType.int), [((0 : Nat), (10 : Nat), (13 : Nat), (48 : Nat)), ((0 : Nat), (10 : Nat), (17 : Nat), (58 : Nat))])
theorem kL_mark : Cond.codeWith yL_mark method_19_code 5 (Option.some Jvm.ClassFile.FieldType.int) [((0 : Nat), (10 : Nat), (13 : Nat), (48 : Nat)), ((0 : Nat), (10 : Nat), (17 : Nat), (58 : Nat))] ∈ tables_1 := List.mem_of_getElem? (i := 909) (by decide +kernel)
def yX10_mark : MethodName := ⟨RX10, "mark", "(II)I"⟩
abbrev mX10_mark : zMI := (yX10_mark, prog_1_method_18_code, 4, (Option.some Jvm.ClassFile.FieldType.int), [])
theorem kX10_mark : Cond.code yX10_mark prog_1_method_18_code 4 (Option.some Jvm.ClassFile.FieldType.int) ∈ lw_good := zin 913 (by decide +kernel) (by decide +kernel)
def yX4_floodAtPlace : MethodName := ⟨RX4, "floodAtPlace", "(II)I"⟩
abbrev mX4_floodAtPlace : zMI := (yX4_floodAtPlace, prog_6_method_15_code, 4, (Option.some Jvm.ClassFile.FieldType.int), [])
theorem kX4_floodAtPlace : Cond.code yX4_floodAtPlace prog_6_method_15_code 4 (Option.some Jvm.ClassFile.FieldType.int) ∈ lw_good := zin 917 (by decide +kernel) (by decide +kernel)
def yX4_countLower : MethodName := ⟨RX4, "countLower", "(II)I"⟩
abbrev mX4_countLower : zMI := (yX4_countLower, prog_6_method_16_code, 5, (Option.some Jvm.ClassFile.FieldType.int), [])
theorem kX4_countLower : Cond.code yX4_countLower prog_6_method_16_code 5 (Option.some Jvm.ClassFile.FieldType.int) ∈ lw_good := zin 921 (by decide +kernel) (by decide +kernel)
def yL_level : MethodName := ⟨RL, "level", "(LFloodStones;II[J)I"⟩
abbrev mL_level : zMI := (yL_level, method_20_code, 5, (Option.some Jvm.ClassFile.FieldType.int), [((0 : Nat), (10 : Nat), (13 : Nat), (48 : Nat))])
theorem kL_level : Cond.codeWith yL_level method_20_code 5 (Option.some Jvm.ClassFile.FieldType.int) [((0 : Nat), (10 : Nat), (13 : Nat), (48 : Nat))] ∈ tables_1 := List.mem_of_getElem? (i := 925) (by decide +kernel)
def yX10_level : MethodName := ⟨RX10, "level", "(II)I"⟩
abbrev mX10_level : zMI := (yX10_level, prog_1_method_19_code, 3, (Option.some Jvm.ClassFile.FieldType.int), [])
theorem kX10_level : Cond.code yX10_level prog_1_method_19_code 3 (Option.some Jvm.ClassFile.FieldType.int) ∈ lw_good := zin 929 (by decide +kernel) (by decide +kernel)
def yL_reads : MethodName := ⟨RL, "reads", "(LFloodStones;II[J)I"⟩
abbrev mL_reads : zMI := (yL_reads, method_21_code, 5, (Option.some Jvm.ClassFile.FieldType.int), [((0 : Nat), (10 : Nat), (13 : Nat), (48 : Nat))])
theorem kL_reads : Cond.codeWith yL_reads method_21_code 5 (Option.some Jvm.ClassFile.FieldType.int) [((0 : Nat), (10 : Nat), (13 : Nat), (48 : Nat))] ∈ tables_1 := List.mem_of_getElem? (i := 933) (by decide +kernel)
def yX10_reads : MethodName := ⟨RX10, "reads", "(II)I"⟩
abbrev mX10_reads : zMI := (yX10_reads, prog_1_method_20_code, 3, (Option.some Jvm.ClassFile.FieldType.int), [])
theorem kX10_reads : Cond.code yX10_reads prog_1_method_20_code 3 (Option.some Jvm.ClassFile.FieldType.int) ∈ lw_good := zin 937 (by decide +kernel) (by decide +kernel)
def yL_shift : MethodName := ⟨RL, "shift", "(LFloodStones;I[J)I"⟩
abbrev mL_shift : zMI := (yL_shift, method_22_code, 4, (Option.some Jvm.ClassFile.FieldType.int), [((0 : Nat), (9 : Nat), (12 : Nat), (50 : Nat))])
theorem kL_shift : Cond.codeWith yL_shift method_22_code 4 (Option.some Jvm.ClassFile.FieldType.int) [((0 : Nat), (9 : Nat), (12 : Nat), (50 : Nat))] ∈ tables_1 := List.mem_of_getElem? (i := 941) (by decide +kernel)
def yX10_shift : MethodName := ⟨RX10, "shift", "(I)I"⟩
abbrev mX10_shift : zMI := (yX10_shift, prog_1_method_21_code, 2, (Option.some Jvm.ClassFile.FieldType.int), [])
theorem kX10_shift : Cond.code yX10_shift prog_1_method_21_code 2 (Option.some Jvm.ClassFile.FieldType.int) ∈ lw_good := zin 945 (by decide +kernel) (by decide +kernel)
def yL_errorIn : MethodName := ⟨RL, "errorIn", "(LFloodStones;II[J)I"⟩
abbrev mL_errorIn : zMI := (yL_errorIn, method_23_code, 5, (Option.some Jvm.ClassFile.FieldType.int), [((0 : Nat), (10 : Nat), (13 : Nat), (48 : Nat)), ((0 : Nat), (10 : Nat), (17 : Nat), (50 : Nat))])
theorem kL_errorIn : Cond.codeWith yL_errorIn method_23_code 5 (Option.some Jvm.ClassFile.FieldType.int) [((0 : Nat), (10 : Nat), (13 : Nat), (48 : Nat)), ((0 : Nat), (10 : Nat), (17 : Nat), (50 : Nat))] ∈ tables_1 := List.mem_of_getElem? (i := 950) (by decide +kernel)
def yX10_errorIn : MethodName := ⟨RX10, "errorIn", "(II)I"⟩
abbrev mX10_errorIn : zMI := (yX10_errorIn, prog_1_method_22_code, 3, (Option.some Jvm.ClassFile.FieldType.int), [])
theorem kX10_errorIn : Cond.code yX10_errorIn prog_1_method_22_code 3 (Option.some Jvm.ClassFile.FieldType.int) ∈ lw_good := zin 954 (by decide +kernel) (by decide +kernel)
def yX6_errorAfter : MethodName := ⟨RX6, "errorAfter", "(II)I"⟩
abbrev mX6_errorAfter : zMI := (yX6_errorAfter, prog_8_method_16_code, 5, (Option.some Jvm.ClassFile.FieldType.int), [])
theorem kX6_errorAfter : Cond.code yX6_errorAfter prog_8_method_16_code 5 (Option.some Jvm.ClassFile.FieldType.int) ∈ lw_good := zin 959 (by decide +kernel) (by decide +kernel)
def yL_rises : MethodName := ⟨RL, "rises", "(LFloodStones;I[J)I"⟩
abbrev mL_rises : zMI := (yL_rises, method_24_code, 4, (Option.some Jvm.ClassFile.FieldType.int), [((0 : Nat), (16 : Nat), (19 : Nat), (48 : Nat))])
theorem kL_rises : Cond.codeWith yL_rises method_24_code 4 (Option.some Jvm.ClassFile.FieldType.int) [((0 : Nat), (16 : Nat), (19 : Nat), (48 : Nat))] ∈ tables_1 := List.mem_of_getElem? (i := 963) (by decide +kernel)
def yX10_rises : MethodName := ⟨RX10, "rises", "(I)Z"⟩
abbrev mX10_rises : zMI := (yX10_rises, prog_1_method_23_code, 2, (Option.some Jvm.ClassFile.FieldType.boolean), [])
theorem kX10_rises : Cond.code yX10_rises prog_1_method_23_code 2 (Option.some Jvm.ClassFile.FieldType.boolean) ∈ lw_good := zin 967 (by decide +kernel) (by decide +kernel)
def yL_ranked : MethodName := ⟨RL, "ranked", "(LFloodStones;I[J)I"⟩
abbrev mL_ranked : zMI := (yL_ranked, method_25_code, 4, (Option.some Jvm.ClassFile.FieldType.int), [((0 : Nat), (9 : Nat), (12 : Nat), (58 : Nat))])
theorem kL_ranked : Cond.codeWith yL_ranked method_25_code 4 (Option.some Jvm.ClassFile.FieldType.int) [((0 : Nat), (9 : Nat), (12 : Nat), (58 : Nat))] ∈ tables_1 := List.mem_of_getElem? (i := 970) (by decide +kernel)
def yX10_ranked : MethodName := ⟨RX10, "ranked", "(I)I"⟩
abbrev mX10_ranked : zMI := (yX10_ranked, prog_1_method_24_code, 3, (Option.some Jvm.ClassFile.FieldType.int), [])
theorem kX10_ranked : Cond.code yX10_ranked prog_1_method_24_code 3 (Option.some Jvm.ClassFile.FieldType.int) ∈ lw_good := zin 974 (by decide +kernel) (by decide +kernel)
def yX6_floodAtRank : MethodName := ⟨RX6, "floodAtRank", "(I[I)I"⟩
abbrev mX6_floodAtRank : zMI := (yX6_floodAtRank, prog_8_method_28_code, 6, (Option.some Jvm.ClassFile.FieldType.int), [])
theorem kX6_floodAtRank : Cond.code yX6_floodAtRank prog_8_method_28_code 6 (Option.some Jvm.ClassFile.FieldType.int) ∈ lw_good := zin 979 (by decide +kernel) (by decide +kernel)
def yX6_isAhead : MethodName := ⟨RX6, "isAhead", "(II[I)Z"⟩
abbrev mX6_isAhead : zMI := (yX6_isAhead, prog_8_method_29_code, 6, (Option.some Jvm.ClassFile.FieldType.boolean), [])
theorem kX6_isAhead : Cond.code yX6_isAhead prog_8_method_29_code 6 (Option.some Jvm.ClassFile.FieldType.boolean) ∈ lw_good := zin 983 (by decide +kernel) (by decide +kernel)
def yL_append : MethodName := ⟨RL, "append", "(LFloodStones;C[J)I"⟩
abbrev mL_append : zMI := (yL_append, method_26_code, 4, (Option.some Jvm.ClassFile.FieldType.int), [((0 : Nat), (9 : Nat), (12 : Nat), (95 : Nat))])
theorem kL_append : Cond.codeWith yL_append method_26_code 4 (Option.some Jvm.ClassFile.FieldType.int) [((0 : Nat), (9 : Nat), (12 : Nat), (95 : Nat))] ∈ tables_1 := List.mem_of_getElem? (i := 987) (by decide +kernel)
def yX10_append : MethodName := ⟨RX10, "append", "(C)I"⟩
abbrev mX10_append : zMI := (yX10_append, prog_1_method_27_code, 2, (Option.some Jvm.ClassFile.FieldType.int), [])
theorem kX10_append : Cond.code yX10_append prog_1_method_27_code 2 (Option.some Jvm.ClassFile.FieldType.int) ∈ lw_good := zin 992 (by decide +kernel) (by decide +kernel)
def yX9_isFull : MethodName := ⟨RX9, "isFull", "()Z"⟩
abbrev mX9_isFull : zMI := (yX9_isFull, prog_11_method_2_code, 1, (Option.some Jvm.ClassFile.FieldType.boolean), [])
theorem kX9_isFull : Cond.code yX9_isFull prog_11_method_2_code 1 (Option.some Jvm.ClassFile.FieldType.boolean) ∈ lw_good := zin 996 (by decide +kernel) (by decide +kernel)
def yX9_put : MethodName := ⟨RX9, "put", "(C)I"⟩
abbrev mX9_put : zMI := (yX9_put, prog_11_method_3_code, 2, (Option.some Jvm.ClassFile.FieldType.int), [])
theorem kX9_put : Cond.code yX9_put prog_11_method_3_code 2 (Option.some Jvm.ClassFile.FieldType.int) ∈ lw_good := zin 1016 (by decide +kernel) (by decide +kernel)
def yL_commands : MethodName := ⟨RL, "commands", "(LFloodStones;[J)I"⟩
abbrev mL_commands : zMI := (yL_commands, method_27_code, 3, (Option.some Jvm.ClassFile.FieldType.int), [((0 : Nat), (8 : Nat), (11 : Nat), (50 : Nat)), ((0 : Nat), (8 : Nat), (14 : Nat), (13 : Nat))])
theorem kL_commands : Cond.codeWith yL_commands method_27_code 3 (Option.some Jvm.ClassFile.FieldType.int) [((0 : Nat), (8 : Nat), (11 : Nat), (50 : Nat)), ((0 : Nat), (8 : Nat), (14 : Nat), (13 : Nat))] ∈ tables_1 := List.mem_of_getElem? (i := 1019) (by decide +kernel)
def yX10_commands : MethodName := ⟨RX10, "commands", "()I"⟩
abbrev mX10_commands : zMI := (yX10_commands, prog_1_method_28_code, 3, (Option.some Jvm.ClassFile.FieldType.int), [])
theorem kX10_commands : Cond.code yX10_commands prog_1_method_28_code 3 (Option.some Jvm.ClassFile.FieldType.int) ∈ lw_good := zin 1023 (by decide +kernel) (by decide +kernel)
def yX9_scan : MethodName := ⟨RX9, "scan", "()I"⟩
abbrev mX9_scan : zMI := (yX9_scan, prog_11_method_7_code, 2, (Option.some Jvm.ClassFile.FieldType.int), [])
theorem kX9_scan : Cond.code yX9_scan prog_11_method_7_code 2 (Option.some Jvm.ClassFile.FieldType.int) ∈ lw_good := zin 1027 (by decide +kernel) (by decide +kernel)
def yX9_readCommand : MethodName := ⟨RX9, "readCommand", "(I)Z"⟩
abbrev mX9_readCommand : zMI := (yX9_readCommand, prog_11_method_10_code, 7, (Option.some Jvm.ClassFile.FieldType.boolean), [])
theorem kX9_readCommand : Cond.code yX9_readCommand prog_11_method_10_code 7 (Option.some Jvm.ClassFile.FieldType.boolean) ∈ lw_good := zin 1031 (by decide +kernel) (by decide +kernel)
def yX9_signHere : MethodName := ⟨RX9, "signHere", "()C"⟩
abbrev mX9_signHere : zMI := (yX9_signHere, prog_11_method_8_code, 1, (Option.some Jvm.ClassFile.FieldType.char), [])
theorem kX9_signHere : Cond.code yX9_signHere prog_11_method_8_code 1 (Option.some Jvm.ClassFile.FieldType.char) ∈ lw_good := zin 1035 (by decide +kernel) (by decide +kernel)
def yX9_formOf : MethodName := ⟨RX9, "formOf", "(C)Ljava/lang/String;"⟩
abbrev mX9_formOf : zMI := (yX9_formOf, prog_11_method_9_code, 1, (Option.some (Jvm.ClassFile.FieldType.object "java/lang/String")), [])
theorem kX9_formOf : Cond.code yX9_formOf prog_11_method_9_code 1 (Option.some (Jvm.ClassFile.FieldType.object "java/lang/String")) ∈ lw_good := zin 1038 (by decide +kernel) (by decide +kernel)
def yJ0_isEmpty_aae02 : MethodName := ⟨RJ0, "isEmpty", "()Z"⟩
abbrev mJ0_isEmpty_aae02 : zMI := (yJ0_isEmpty_aae02, prog_30_method_55_code, 1, (Option.some Jvm.ClassFile.FieldType.boolean), [])
theorem kJ0_isEmpty_aae02 : Cond.code yJ0_isEmpty_aae02 prog_30_method_55_code 1 (Option.some Jvm.ClassFile.FieldType.boolean) ∈ lw_good := zin 1048 (by decide +kernel) (by decide +kernel)
def yJ0_length_8abf5 : MethodName := ⟨RJ0, "length", "()I"⟩
abbrev mJ0_length_8abf5 : zMI := (yJ0_length_8abf5, prog_30_method_54_code, 1, (Option.some Jvm.ClassFile.FieldType.int), [])
theorem kJ0_length_8abf5 : Cond.code yJ0_length_8abf5 prog_30_method_54_code 1 (Option.some Jvm.ClassFile.FieldType.int) ∈ lw_good := zin 1053 (by decide +kernel) (by decide +kernel)
def yJ0_coder_7d493 : MethodName := ⟨RJ0, "coder", "()B"⟩
abbrev mJ0_coder_7d493 : zMI := (yJ0_coder_7d493, prog_30_method_152_code, 1, (Option.some Jvm.ClassFile.FieldType.byte), [])
theorem kJ0_coder_7d493 : Cond.code yJ0_coder_7d493 prog_30_method_152_code 1 (Option.some Jvm.ClassFile.FieldType.byte) ∈ lw_good := zin 1057 (by decide +kernel) (by decide +kernel)
def yJ0_charAt_5068e : MethodName := ⟨RJ0, "charAt", "(I)C"⟩
abbrev mJ0_charAt_5068e : zMI := (yJ0_charAt_5068e, prog_30_method_56_code, 2, (Option.some Jvm.ClassFile.FieldType.char), [])
theorem kJ0_charAt_5068e : Cond.code yJ0_charAt_5068e prog_30_method_56_code 2 (Option.some Jvm.ClassFile.FieldType.char) ∈ lw_good := zin 1062 (by decide +kernel) (by decide +kernel)
def yJ0_isLatin1_aae02 : MethodName := ⟨RJ0, "isLatin1", "()Z"⟩
abbrev mJ0_isLatin1_aae02 : zMI := (yJ0_isLatin1_aae02, prog_30_method_154_code, 1, (Option.some Jvm.ClassFile.FieldType.boolean), [])
theorem kJ0_isLatin1_aae02 : Cond.code yJ0_isLatin1_aae02 prog_30_method_154_code 1 (Option.some Jvm.ClassFile.FieldType.boolean) ∈ lw_good := zin 1066 (by decide +kernel) (by decide +kernel)
def yJ1_charAt_3b067 : MethodName := ⟨RJ1, "charAt", "([BI)C"⟩
abbrev mJ1_charAt_3b067 : zMI := (yJ1_charAt_3b067, prog_33_method_2_code, 2, (Option.some Jvm.ClassFile.FieldType.char), [])
theorem kJ1_charAt_3b067 : Cond.code yJ1_charAt_3b067 prog_33_method_2_code 2 (Option.some Jvm.ClassFile.FieldType.char) ∈ lw_good := zin 1069 (by decide +kernel) (by decide +kernel)
def yJ0_checkIndex_df160 : MethodName := ⟨RJ0, "checkIndex", "(II)V"⟩
abbrev mJ0_checkIndex_df160 : zMI := (yJ0_checkIndex_df160, prog_30_method_155_code, 2, (Option.none : Option Jvm.ClassFile.FieldType), [])
theorem kJ0_checkIndex_df160 : Cond.code yJ0_checkIndex_df160 prog_30_method_155_code 2 (Option.none : Option Jvm.ClassFile.FieldType) ∈ lw_good := zin 1072 (by decide +kernel) (by decide +kernel)
def yX9_isDigit : MethodName := ⟨RX9, "isDigit", "(C)Z"⟩
abbrev mX9_isDigit : zMI := (yX9_isDigit, prog_11_method_11_code, 1, (Option.some Jvm.ClassFile.FieldType.boolean), [])
theorem kX9_isDigit : Cond.code yX9_isDigit prog_11_method_11_code 1 (Option.some Jvm.ClassFile.FieldType.boolean) ∈ lw_good := zin 1099 (by decide +kernel) (by decide +kernel)
def yX9_readNumber : MethodName := ⟨RX9, "readNumber", "(Z)I"⟩
abbrev mX9_readNumber : zMI := (yX9_readNumber, prog_11_method_12_code, 3, (Option.some Jvm.ClassFile.FieldType.int), [])
theorem kX9_readNumber : Cond.code yX9_readNumber prog_11_method_12_code 3 (Option.some Jvm.ClassFile.FieldType.int) ∈ lw_good := zin 1103 (by decide +kernel) (by decide +kernel)
def yX9_readDigit : MethodName := ⟨RX9, "readDigit", "()I"⟩
abbrev mX9_readDigit : zMI := (yX9_readDigit, prog_11_method_13_code, 2, (Option.some Jvm.ClassFile.FieldType.int), [])
theorem kX9_readDigit : Cond.code yX9_readDigit prog_11_method_13_code 2 (Option.some Jvm.ClassFile.FieldType.int) ∈ lw_good := zin 1107 (by decide +kernel) (by decide +kernel)
def yX9_empty : MethodName := ⟨RX9, "empty", "()V"⟩
abbrev mX9_empty : zMI := (yX9_empty, prog_11_method_4_code, 1, (Option.none : Option Jvm.ClassFile.FieldType), [])
theorem kX9_empty : Cond.code yX9_empty prog_11_method_4_code 1 (Option.none : Option Jvm.ClassFile.FieldType) ∈ lw_good := zin 1111 (by decide +kernel) (by decide +kernel)
def yX10_isRefused : MethodName := ⟨RX10, "isRefused", "(I)Z"⟩
abbrev mX10_isRefused : zMI := (yX10_isRefused, prog_1_method_29_code, 4, (Option.some Jvm.ClassFile.FieldType.boolean), [])
theorem kX10_isRefused : Cond.code yX10_isRefused prog_1_method_29_code 4 (Option.some Jvm.ClassFile.FieldType.boolean) ∈ lw_good := zin 1116 (by decide +kernel) (by decide +kernel)
def yX9_numberOf : MethodName := ⟨RX9, "numberOf", "(II)I"⟩
abbrev mX9_numberOf : zMI := (yX9_numberOf, prog_11_method_6_code, 3, (Option.some Jvm.ClassFile.FieldType.int), [])
theorem kX9_numberOf : Cond.code yX9_numberOf prog_11_method_6_code 3 (Option.some Jvm.ClassFile.FieldType.int) ∈ lw_good := zin 1120 (by decide +kernel) (by decide +kernel)
def yX9_kindOf : MethodName := ⟨RX9, "kindOf", "(I)I"⟩
abbrev mX9_kindOf : zMI := (yX9_kindOf, prog_11_method_5_code, 2, (Option.some Jvm.ClassFile.FieldType.int), [])
theorem kX9_kindOf : Cond.code yX9_kindOf prog_11_method_5_code 2 (Option.some Jvm.ClassFile.FieldType.int) ∈ lw_good := zin 1125 (by decide +kernel) (by decide +kernel)
def yX10_carryOut : MethodName := ⟨RX10, "carryOut", "(I)V"⟩
abbrev mX10_carryOut : zMI := (yX10_carryOut, prog_1_method_30_code, 4, (Option.none : Option Jvm.ClassFile.FieldType), [])
theorem kX10_carryOut : Cond.code yX10_carryOut prog_1_method_30_code 4 (Option.none : Option Jvm.ClassFile.FieldType) ∈ lw_good := zin 1130 (by decide +kernel) (by decide +kernel)
def yL_reason : MethodName := ⟨RL, "reason", "(LFloodStones;I[J)I"⟩
abbrev mL_reason : zMI := (yL_reason, method_28_code, 4, (Option.some Jvm.ClassFile.FieldType.int), [((0 : Nat), (9 : Nat), (12 : Nat), (50 : Nat)), ((0 : Nat), (9 : Nat), (15 : Nat), (58 : Nat))])
theorem kL_reason : Cond.codeWith yL_reason method_28_code 4 (Option.some Jvm.ClassFile.FieldType.int) [((0 : Nat), (9 : Nat), (12 : Nat), (50 : Nat)), ((0 : Nat), (9 : Nat), (15 : Nat), (58 : Nat))] ∈ tables_1 := List.mem_of_getElem? (i := 1133) (by decide +kernel)
def yX10_reason : MethodName := ⟨RX10, "reason", "(I)I"⟩
abbrev mX10_reason : zMI := (yX10_reason, prog_1_method_32_code, 2, (Option.some Jvm.ClassFile.FieldType.int), [])
theorem kX10_reason : Cond.code yX10_reason prog_1_method_32_code 2 (Option.some Jvm.ClassFile.FieldType.int) ∈ lw_good := zin 1137 (by decide +kernel) (by decide +kernel)
def yL_line : MethodName := ⟨RL, "line", "(LFloodStones;I[J)I"⟩
abbrev mL_line : zMI := (yL_line, method_29_code, 4, (Option.some Jvm.ClassFile.FieldType.int), [((0 : Nat), (9 : Nat), (12 : Nat), (48 : Nat))])
theorem kL_line : Cond.codeWith yL_line method_29_code 4 (Option.some Jvm.ClassFile.FieldType.int) [((0 : Nat), (9 : Nat), (12 : Nat), (48 : Nat))] ∈ tables_1 := List.mem_of_getElem? (i := 1142) (by decide +kernel)
def yX10_line : MethodName := ⟨RX10, "line", "(I)I"⟩
abbrev mX10_line : zMI := (yX10_line, prog_1_method_33_code, 5, (Option.some Jvm.ClassFile.FieldType.int), [])
theorem kX10_line : Cond.code yX10_line prog_1_method_33_code 5 (Option.some Jvm.ClassFile.FieldType.int) ∈ lw_good := zin 1146 (by decide +kernel) (by decide +kernel)
def yJ4_setLength_d00df : MethodName := ⟨RJ4, "setLength", "(I)V"⟩
abbrev mJ4_setLength_d00df : zMI := (yJ4_setLength_d00df, prog_31_method_89_code, 2, (Option.none : Option Jvm.ClassFile.FieldType), [])
theorem kJ4_setLength_d00df : Cond.code yJ4_setLength_d00df prog_31_method_89_code 2 (Option.none : Option Jvm.ClassFile.FieldType) ∈ lw_good := zin 1150 (by decide +kernel) (by decide +kernel)
def yJ5_setLength_d00df : MethodName := ⟨RJ5, "setLength", "(I)V"⟩
abbrev mJ5_setLength_d00df : zMI := (yJ5_setLength_d00df, prog_15_method_13_code, 2, (Option.none : Option Jvm.ClassFile.FieldType), [])
theorem kJ5_setLength_d00df : Cond.code yJ5_setLength_d00df prog_15_method_13_code 2 (Option.none : Option Jvm.ClassFile.FieldType) ∈ lw_good := zin 1153 (by decide +kernel) (by decide +kernel)
def yJ4_append_15ec4 : MethodName := ⟨RJ4, "append", "(Ljava/lang/String;)Ljava/lang/StringBuilder;"⟩
abbrev mJ4_append_15ec4 : zMI := (yJ4_append_15ec4, prog_31_method_7_code, 2, (Option.some (Jvm.ClassFile.FieldType.object "java/lang/StringBuilder")), [])
theorem kJ4_append_15ec4 : Cond.code yJ4_append_15ec4 prog_31_method_7_code 2 (Option.some (Jvm.ClassFile.FieldType.object "java/lang/StringBuilder")) ∈ lw_good := zin 1165 (by decide +kernel) (by decide +kernel)
def yJ5_append_cf1ce : MethodName := ⟨RJ5, "append", "(Ljava/lang/String;)Ljava/lang/AbstractStringBuilder;"⟩
abbrev mJ5_append_cf1ce : zMI := (yJ5_append_cf1ce, prog_15_method_22_code, 3, (Option.some (Jvm.ClassFile.FieldType.object "java/lang/AbstractStringBuilder")), [])
theorem kJ5_append_cf1ce : Cond.code yJ5_append_cf1ce prog_15_method_22_code 3 (Option.some (Jvm.ClassFile.FieldType.object "java/lang/AbstractStringBuilder")) ∈ lw_good := zin 1168 (by decide +kernel) (by decide +kernel)
def yJ5_appendNull_278bc : MethodName := ⟨RJ5, "appendNull", "()Ljava/lang/AbstractStringBuilder;"⟩
abbrev mJ5_appendNull_278bc : zMI := (yJ5_appendNull_278bc, prog_15_method_26_code, 3, (Option.some (Jvm.ClassFile.FieldType.object "java/lang/AbstractStringBuilder")), [])
theorem kJ5_appendNull_278bc : Cond.code yJ5_appendNull_278bc prog_15_method_26_code 3 (Option.some (Jvm.ClassFile.FieldType.object "java/lang/AbstractStringBuilder")) ∈ lw_good := zin 1172 (by decide +kernel) (by decide +kernel)
def yJ5_ensureCapacityInternal_d00df : MethodName := ⟨RJ5, "ensureCapacityInternal", "(I)V"⟩
abbrev mJ5_ensureCapacityInternal_d00df : zMI := (yJ5_ensureCapacityInternal_d00df, prog_15_method_9_code, 3, (Option.none : Option Jvm.ClassFile.FieldType), [])
theorem kJ5_ensureCapacityInternal_d00df : Cond.code yJ5_ensureCapacityInternal_d00df prog_15_method_9_code 3 (Option.none : Option Jvm.ClassFile.FieldType) ∈ lw_good := zin 1176 (by decide +kernel) (by decide +kernel)
def yJ5_newCapacity_0f7a4 : MethodName := ⟨RJ5, "newCapacity", "(I)I"⟩
abbrev mJ5_newCapacity_0f7a4 : zMI := (yJ5_newCapacity_0f7a4, prog_15_method_10_code, 6, (Option.some Jvm.ClassFile.FieldType.int), [])
theorem kJ5_newCapacity_0f7a4 : Cond.code yJ5_newCapacity_0f7a4 prog_15_method_10_code 6 (Option.some Jvm.ClassFile.FieldType.int) ∈ lw_good := zin 1180 (by decide +kernel) (by decide +kernel)
def yJ8_newLength_cabcc : MethodName := ⟨RJ8, "newLength", "(III)I"⟩
abbrev mJ8_newLength_cabcc : zMI := (yJ8_newLength_cabcc, prog_42_method_27_code, 4, (Option.some Jvm.ClassFile.FieldType.int), [])
theorem kJ8_newLength_cabcc : Cond.code yJ8_newLength_cabcc prog_42_method_27_code 4 (Option.some Jvm.ClassFile.FieldType.int) ∈ lw_good := zin 1183 (by decide +kernel) (by decide +kernel)
def yJ8_hugeLength_7cf53 : MethodName := ⟨RJ8, "hugeLength", "(II)I"⟩
abbrev mJ8_hugeLength_7cf53 : zMI := (yJ8_hugeLength_7cf53, prog_42_method_28_code, 3, (Option.some Jvm.ClassFile.FieldType.int), [])
theorem kJ8_hugeLength_7cf53 : Cond.code yJ8_hugeLength_7cf53 prog_42_method_28_code 3 (Option.some Jvm.ClassFile.FieldType.int) ∈ lw_good := zin 1188 (by decide +kernel) (by decide +kernel)
def yJ7_copyOf_9075b : MethodName := ⟨RJ7, "copyOf", "([BI)[B"⟩
abbrev mJ7_copyOf_9075b : zMI := (yJ7_copyOf_9075b, prog_40_method_121_code, 3, (Option.some (Jvm.ClassFile.FieldType.array Jvm.ClassFile.FieldType.byte)), [])
theorem kJ7_copyOf_9075b : Cond.code yJ7_copyOf_9075b prog_40_method_121_code 3 (Option.some (Jvm.ClassFile.FieldType.array Jvm.ClassFile.FieldType.byte)) ∈ lw_good := zin 1192 (by decide +kernel) (by decide +kernel)
def yJ5_isLatin1_aae02 : MethodName := ⟨RJ5, "isLatin1", "()Z"⟩
abbrev mJ5_isLatin1_aae02 : zMI := (yJ5_isLatin1_aae02, prog_15_method_68_code, 1, (Option.some Jvm.ClassFile.FieldType.boolean), [])
theorem kJ5_isLatin1_aae02 : Cond.code yJ5_isLatin1_aae02 prog_15_method_68_code 1 (Option.some Jvm.ClassFile.FieldType.boolean) ∈ lw_good := zin 1206 (by decide +kernel) (by decide +kernel)
def yJ0_checkBoundsBeginEnd_23922 : MethodName := ⟨RJ0, "checkBoundsBeginEnd", "(III)V"⟩
abbrev mJ0_checkBoundsBeginEnd_23922 : zMI := (yJ0_checkBoundsBeginEnd_23922, prog_30_method_158_code, 3, (Option.none : Option Jvm.ClassFile.FieldType), [])
theorem kJ0_checkBoundsBeginEnd_23922 : Cond.code yJ0_checkBoundsBeginEnd_23922 prog_30_method_158_code 3 (Option.none : Option Jvm.ClassFile.FieldType) ∈ lw_good := zin 1215 (by decide +kernel) (by decide +kernel)
def yJ5_putStringAt_47b60 : MethodName := ⟨RJ5, "putStringAt", "(ILjava/lang/String;)V"⟩
abbrev mJ5_putStringAt_47b60 : zMI := (yJ5_putStringAt_47b60, prog_15_method_73_code, 3, (Option.none : Option Jvm.ClassFile.FieldType), [])
theorem kJ5_putStringAt_47b60 : Cond.code yJ5_putStringAt_47b60 prog_15_method_73_code 3 (Option.none : Option Jvm.ClassFile.FieldType) ∈ lw_good := zin 1226 (by decide +kernel) (by decide +kernel)
def yJ5_inflateIfNeededFor_a7421 : MethodName := ⟨RJ5, "inflateIfNeededFor", "(Ljava/lang/String;)V"⟩
abbrev mJ5_inflateIfNeededFor_a7421 : zMI := (yJ5_inflateIfNeededFor_a7421, prog_15_method_71_code, 2, (Option.none : Option Jvm.ClassFile.FieldType), [])
theorem kJ5_inflateIfNeededFor_a7421 : Cond.code yJ5_inflateIfNeededFor_a7421 prog_15_method_71_code 2 (Option.none : Option Jvm.ClassFile.FieldType) ∈ lw_good := zin 1230 (by decide +kernel) (by decide +kernel)
def yJ5_inflate_da8c8 : MethodName := ⟨RJ5, "inflate", "()V"⟩
abbrev mJ5_inflate_da8c8 : zMI := (yJ5_inflate_da8c8, prog_15_method_11_code, 2, (Option.none : Option Jvm.ClassFile.FieldType), [])
theorem kJ5_inflate_da8c8 : Cond.code yJ5_inflate_da8c8 prog_15_method_11_code 2 (Option.none : Option Jvm.ClassFile.FieldType) ∈ lw_good := zin 1235 (by decide +kernel) (by decide +kernel)
def yJ1_inflate_0e8fd : MethodName := ⟨RJ1, "inflate", "([BI[BII)V"⟩
abbrev mJ1_inflate_0e8fd : zMI := (yJ1_inflate_0e8fd, prog_33_method_50_code, 5, (Option.none : Option Jvm.ClassFile.FieldType), [])
theorem kJ1_inflate_0e8fd : Cond.code yJ1_inflate_0e8fd prog_33_method_50_code 5 (Option.none : Option Jvm.ClassFile.FieldType) ∈ lw_good := zin 1238 (by decide +kernel) (by decide +kernel)
def yJ0_checkBoundsOffCount_cabcc : MethodName := ⟨RJ0, "checkBoundsOffCount", "(III)I"⟩
abbrev mJ0_checkBoundsOffCount_cabcc : zMI := (yJ0_checkBoundsOffCount_cabcc, prog_30_method_157_code, 3, (Option.some Jvm.ClassFile.FieldType.int), [])
theorem kJ0_checkBoundsOffCount_cabcc : Cond.code yJ0_checkBoundsOffCount_cabcc prog_30_method_157_code 3 (Option.some Jvm.ClassFile.FieldType.int) ∈ lw_good := zin 1247 (by decide +kernel) (by decide +kernel)
def yJ0_getBytes_840e7 : MethodName := ⟨RJ0, "getBytes", "([BIB)V"⟩
abbrev mJ0_getBytes_840e7 : zMI := (yJ0_getBytes_840e7, prog_30_method_147_code, 4, (Option.none : Option Jvm.ClassFile.FieldType), [])
theorem kJ0_getBytes_840e7 : Cond.code yJ0_getBytes_840e7 prog_30_method_147_code 4 (Option.none : Option Jvm.ClassFile.FieldType) ∈ lw_good := zin 1254 (by decide +kernel) (by decide +kernel)
def yJ4_append_bf812 : MethodName := ⟨RJ4, "append", "(I)Ljava/lang/StringBuilder;"⟩
abbrev mJ4_append_bf812 : zMI := (yJ4_append_bf812, prog_31_method_15_code, 2, (Option.some (Jvm.ClassFile.FieldType.object "java/lang/StringBuilder")), [])
theorem kJ4_append_bf812 : Cond.code yJ4_append_bf812 prog_31_method_15_code 2 (Option.some (Jvm.ClassFile.FieldType.object "java/lang/StringBuilder")) ∈ lw_good := zin 1260 (by decide +kernel) (by decide +kernel)
def yJ5_append_c97b9 : MethodName := ⟨RJ5, "append", "(I)Ljava/lang/AbstractStringBuilder;"⟩
abbrev mJ5_append_c97b9 : zMI := (yJ5_append_c97b9, prog_15_method_32_code, 4, (Option.some (Jvm.ClassFile.FieldType.object "java/lang/AbstractStringBuilder")), [])
theorem kJ5_append_c97b9 : Cond.code yJ5_append_c97b9 prog_15_method_32_code 4 (Option.some (Jvm.ClassFile.FieldType.object "java/lang/AbstractStringBuilder")) ∈ lw_good := zin 1263 (by decide +kernel) (by decide +kernel)
def yJ6_stringSize_0f7a4 : MethodName := ⟨RJ6, "stringSize", "(I)I"⟩
abbrev mJ6_stringSize_0f7a4 : zMI := (yJ6_stringSize_0f7a4, prog_26_method_13_code, 4, (Option.some Jvm.ClassFile.FieldType.int), [])
theorem kJ6_stringSize_0f7a4 : Cond.code yJ6_stringSize_0f7a4 prog_26_method_13_code 4 (Option.some Jvm.ClassFile.FieldType.int) ∈ lw_good := zin 1266 (by decide +kernel) (by decide +kernel)
def yJ6_getChars_ba4f3 : MethodName := ⟨RJ6, "getChars", "(II[B)I"⟩
abbrev mJ6_getChars_ba4f3 : zMI := (yJ6_getChars_ba4f3, prog_26_method_12_code, 7, (Option.some Jvm.ClassFile.FieldType.int), [])
theorem kJ6_getChars_ba4f3 : Cond.code yJ6_getChars_ba4f3 prog_26_method_12_code 7 (Option.some Jvm.ClassFile.FieldType.int) ∈ lw_good := zin 1269 (by decide +kernel) (by decide +kernel)
def yJ4_toString_0e30d : MethodName := ⟨RJ4, "toString", "()Ljava/lang/String;"⟩
abbrev mJ4_toString_0e30d : zMI := (yJ4_toString_0e30d, prog_31_method_42_code, 1, (Option.some (Jvm.ClassFile.FieldType.object "java/lang/String")), [])
theorem kJ4_toString_0e30d : Cond.code yJ4_toString_0e30d prog_31_method_42_code 1 (Option.some (Jvm.ClassFile.FieldType.object "java/lang/String")) ∈ lw_good := zin 1285 (by decide +kernel) (by decide +kernel)
def yJ0_init_81219 : MethodName := ⟨RJ0, "<init>", "(Ljava/lang/StringBuilder;)V"⟩
abbrev mJ0_init_81219 : zMI := (yJ0_init_81219, prog_30_method_53_code, 2, (Option.none : Option Jvm.ClassFile.FieldType), [])
theorem kJ0_init_81219 : Cond.code yJ0_init_81219 prog_30_method_53_code 2 (Option.none : Option Jvm.ClassFile.FieldType) ∈ lw_good := zin 1289 (by decide +kernel) (by decide +kernel)
def yJ0_init_db425 : MethodName := ⟨RJ0, "<init>", "(Ljava/lang/AbstractStringBuilder;Ljava/lang/Void;)V"⟩
abbrev mJ0_init_db425 : zMI := (yJ0_init_db425, prog_30_method_150_code, 5, (Option.none : Option Jvm.ClassFile.FieldType), [])
theorem kJ0_init_db425 : Cond.code yJ0_init_db425 prog_30_method_150_code 5 (Option.none : Option Jvm.ClassFile.FieldType) ∈ lw_good := zin 1292 (by decide +kernel) (by decide +kernel)
def yJ5_getValue_6d5f1 : MethodName := ⟨RJ5, "getValue", "()[B"⟩
abbrev mJ5_getValue_6d5f1 : zMI := (yJ5_getValue_6d5f1, prog_15_method_64_code, 1, (Option.some (Jvm.ClassFile.FieldType.array Jvm.ClassFile.FieldType.byte)), [])
theorem kJ5_getValue_6d5f1 : Cond.code yJ5_getValue_6d5f1 prog_15_method_64_code 1 (Option.some (Jvm.ClassFile.FieldType.array Jvm.ClassFile.FieldType.byte)) ∈ lw_good := zin 1298 (by decide +kernel) (by decide +kernel)
def yJ4_length_8abf5 : MethodName := ⟨RJ4, "length", "()I"⟩
abbrev mJ4_length_8abf5 : zMI := (yJ4_length_8abf5, prog_31_method_93_code, 1, (Option.some Jvm.ClassFile.FieldType.int), [])
theorem kJ4_length_8abf5 : Cond.code yJ4_length_8abf5 prog_31_method_93_code 1 (Option.some Jvm.ClassFile.FieldType.int) ∈ lw_good := zin 1304 (by decide +kernel) (by decide +kernel)
def yJ5_length_8abf5 : MethodName := ⟨RJ5, "length", "()I"⟩
abbrev mJ5_length_8abf5 : zMI := (yJ5_length_8abf5, prog_15_method_6_code, 1, (Option.some Jvm.ClassFile.FieldType.int), [])
theorem kJ5_length_8abf5 : Cond.code yJ5_length_8abf5 prog_15_method_6_code 1 (Option.some Jvm.ClassFile.FieldType.int) ∈ lw_good := zin 1306 (by decide +kernel) (by decide +kernel)
def yJ7_copyOfRange_39247 : MethodName := ⟨RJ7, "copyOfRange", "([BII)[B"⟩
abbrev mJ7_copyOfRange_39247 : zMI := (yJ7_copyOfRange_39247, prog_40_method_132_code, 3, (Option.some (Jvm.ClassFile.FieldType.array Jvm.ClassFile.FieldType.byte)), [])
theorem kJ7_copyOfRange_39247 : Cond.code yJ7_copyOfRange_39247 prog_40_method_132_code 3 (Option.some (Jvm.ClassFile.FieldType.array Jvm.ClassFile.FieldType.byte)) ∈ lw_good := zin 1310 (by decide +kernel) (by decide +kernel)
def yJ7_copyOfRangeByte_39247 : MethodName := ⟨RJ7, "copyOfRangeByte", "([BII)[B"⟩
abbrev mJ7_copyOfRangeByte_39247 : zMI := (yJ7_copyOfRangeByte_39247, prog_40_method_133_code, 5, (Option.some (Jvm.ClassFile.FieldType.array Jvm.ClassFile.FieldType.byte)), [])
theorem kJ7_copyOfRangeByte_39247 : Cond.code yJ7_copyOfRangeByte_39247 prog_40_method_133_code 5 (Option.some (Jvm.ClassFile.FieldType.array Jvm.ClassFile.FieldType.byte)) ∈ lw_good := zin 1313 (by decide +kernel) (by decide +kernel)
def yJ7_checkLength_df160 : MethodName := ⟨RJ7, "checkLength", "(II)V"⟩
abbrev mJ7_checkLength_df160 : zMI := (yJ7_checkLength_df160, prog_40_method_131_code, 2, (Option.none : Option Jvm.ClassFile.FieldType), [])
theorem kJ7_checkLength_df160 : Cond.code yJ7_checkLength_df160 prog_40_method_131_code 2 (Option.none : Option Jvm.ClassFile.FieldType) ∈ lw_good := zin 1316 (by decide +kernel) (by decide +kernel)
def yJ1_fillNull_b72d1 : MethodName := ⟨RJ1, "fillNull", "([BII)V"⟩
abbrev mJ1_fillNull_b72d1 : zMI := (yJ1_fillNull_b72d1, prog_33_method_48_code, 3, (Option.none : Option Jvm.ClassFile.FieldType), [])
theorem kJ1_fillNull_b72d1 : Cond.code yJ1_fillNull_b72d1 prog_33_method_48_code 3 (Option.none : Option Jvm.ClassFile.FieldType) ∈ lw_good := zin 1352 (by decide +kernel) (by decide +kernel)
def yJ7_fill_eb02e : MethodName := ⟨RJ7, "fill", "([BIIB)V"⟩
abbrev mJ7_fill_eb02e : zMI := (yJ7_fill_eb02e, prog_40_method_110_code, 5, (Option.none : Option Jvm.ClassFile.FieldType), [])
theorem kJ7_fill_eb02e : Cond.code yJ7_fill_eb02e prog_40_method_110_code 5 (Option.none : Option Jvm.ClassFile.FieldType) ∈ lw_good := zin 1355 (by decide +kernel) (by decide +kernel)
def yJ7_rangeCheck_23922 : MethodName := ⟨RJ7, "rangeCheck", "(III)V"⟩
abbrev mJ7_rangeCheck_23922 : zMI := (yJ7_rangeCheck_23922, prog_40_method_30_code, 3, (Option.none : Option Jvm.ClassFile.FieldType), [])
theorem kJ7_rangeCheck_23922 : Cond.code yJ7_rangeCheck_23922 prog_40_method_30_code 3 (Option.none : Option Jvm.ClassFile.FieldType) ∈ lw_good := zin 1358 (by decide +kernel) (by decide +kernel)
def yJ4_append_cf468 : MethodName := ⟨RJ4, "append", "(C)Ljava/lang/StringBuilder;"⟩
abbrev mJ4_append_cf468 : zMI := (yJ4_append_cf468, prog_31_method_14_code, 2, (Option.some (Jvm.ClassFile.FieldType.object "java/lang/StringBuilder")), [])
theorem kJ4_append_cf468 : Cond.code yJ4_append_cf468 prog_31_method_14_code 2 (Option.some (Jvm.ClassFile.FieldType.object "java/lang/StringBuilder")) ∈ lw_good := zin 1380 (by decide +kernel) (by decide +kernel)
def yJ5_append_3fe6f : MethodName := ⟨RJ5, "append", "(C)Ljava/lang/AbstractStringBuilder;"⟩
abbrev mJ5_append_3fe6f : zMI := (yJ5_append_3fe6f, prog_15_method_31_code, 2, (Option.some (Jvm.ClassFile.FieldType.object "java/lang/AbstractStringBuilder")), [])
theorem kJ5_append_3fe6f : Cond.code yJ5_append_3fe6f prog_15_method_31_code 2 (Option.some (Jvm.ClassFile.FieldType.object "java/lang/AbstractStringBuilder")) ∈ lw_good := zin 1383 (by decide +kernel) (by decide +kernel)
def yJ1_canEncode_fc78d : MethodName := ⟨RJ1, "canEncode", "(C)Z"⟩
abbrev mJ1_canEncode_fc78d : zMI := (yJ1_canEncode_fc78d, prog_33_method_3_code, 1, (Option.some Jvm.ClassFile.FieldType.boolean), [])
theorem kJ1_canEncode_fc78d : Cond.code yJ1_canEncode_fc78d prog_33_method_3_code 1 (Option.some Jvm.ClassFile.FieldType.boolean) ∈ lw_good := zin 1386 (by decide +kernel) (by decide +kernel)
def yL_character : MethodName := ⟨RL, "character", "(LFloodStones;I[J)I"⟩
abbrev mL_character : zMI := (yL_character, method_30_code, 4, (Option.some Jvm.ClassFile.FieldType.int), [((0 : Nat), (9 : Nat), (12 : Nat), (48 : Nat))])
theorem kL_character : Cond.codeWith yL_character method_30_code 4 (Option.some Jvm.ClassFile.FieldType.int) [((0 : Nat), (9 : Nat), (12 : Nat), (48 : Nat))] ∈ tables_1 := List.mem_of_getElem? (i := 1393) (by decide +kernel)
def yX10_character : MethodName := ⟨RX10, "character", "(I)C"⟩
abbrev mX10_character : zMI := (yX10_character, prog_1_method_34_code, 2, (Option.some Jvm.ClassFile.FieldType.char), [])
theorem kX10_character : Cond.code yX10_character prog_1_method_34_code 2 (Option.some Jvm.ClassFile.FieldType.char) ∈ lw_good := zin 1397 (by decide +kernel) (by decide +kernel)
def yJ4_charAt_5068e : MethodName := ⟨RJ4, "charAt", "(I)C"⟩
abbrev mJ4_charAt_5068e : zMI := (yJ4_charAt_5068e, prog_31_method_88_code, 2, (Option.some Jvm.ClassFile.FieldType.char), [])
theorem kJ4_charAt_5068e : Cond.code yJ4_charAt_5068e prog_31_method_88_code 2 (Option.some Jvm.ClassFile.FieldType.char) ∈ lw_good := zin 1402 (by decide +kernel) (by decide +kernel)
def yJ5_charAt_5068e : MethodName := ⟨RJ5, "charAt", "(I)C"⟩
abbrev mJ5_charAt_5068e : zMI := (yJ5_charAt_5068e, prog_15_method_14_code, 5, (Option.some Jvm.ClassFile.FieldType.char), [])
theorem kJ5_charAt_5068e : Cond.code yJ5_charAt_5068e prog_15_method_14_code 5 (Option.some Jvm.ClassFile.FieldType.char) ∈ lw_good := zin 1405 (by decide +kernel) (by decide +kernel)
def yL_estimate : MethodName := ⟨RL, "estimate", "(LFloodStones;I[D)I"⟩
abbrev mL_estimate : zMI := (yL_estimate, method_31_code, 4, (Option.some Jvm.ClassFile.FieldType.int), [((0 : Nat), (8 : Nat), (11 : Nat), (48 : Nat)), ((0 : Nat), (8 : Nat), (14 : Nat), (114 : Nat))])
theorem kL_estimate : Cond.codeWith yL_estimate method_31_code 4 (Option.some Jvm.ClassFile.FieldType.int) [((0 : Nat), (8 : Nat), (11 : Nat), (48 : Nat)), ((0 : Nat), (8 : Nat), (14 : Nat), (114 : Nat))] ∈ tables_1 := List.mem_of_getElem? (i := 1411) (by decide +kernel)
def yX10_estimate : MethodName := ⟨RX10, "estimate", "(I)D"⟩
abbrev mX10_estimate : zMI := (yX10_estimate, prog_1_method_35_code, 3, (Option.some Jvm.ClassFile.FieldType.double), [])
theorem kX10_estimate : Cond.code yX10_estimate prog_1_method_35_code 3 (Option.some Jvm.ClassFile.FieldType.double) ∈ lw_good := zin 1429 (by decide +kernel) (by decide +kernel)
def yX6_crestsTold : MethodName := ⟨RX6, "crestsTold", "(I)I"⟩
abbrev mX6_crestsTold : zMI := (yX6_crestsTold, prog_8_method_30_code, 4, (Option.some Jvm.ClassFile.FieldType.int), [])
theorem kX6_crestsTold : Cond.code yX6_crestsTold prog_8_method_30_code 4 (Option.some Jvm.ClassFile.FieldType.int) ∈ lw_good := zin 1436 (by decide +kernel) (by decide +kernel)
def yL_meanEdge : MethodName := ⟨RL, "meanEdge", "(LFloodStones;[D)I"⟩
abbrev mL_meanEdge : zMI := (yL_meanEdge, method_32_code, 3, (Option.some Jvm.ClassFile.FieldType.int), [((0 : Nat), (8 : Nat), (11 : Nat), (114 : Nat))])
theorem kL_meanEdge : Cond.codeWith yL_meanEdge method_32_code 3 (Option.some Jvm.ClassFile.FieldType.int) [((0 : Nat), (8 : Nat), (11 : Nat), (114 : Nat))] ∈ tables_1 := List.mem_of_getElem? (i := 1439) (by decide +kernel)
def yX10_meanEdge : MethodName := ⟨RX10, "meanEdge", "()F"⟩
abbrev mX10_meanEdge : zMI := (yX10_meanEdge, prog_1_method_36_code, 2, (Option.some Jvm.ClassFile.FieldType.float), [])
theorem kX10_meanEdge : Cond.code yX10_meanEdge prog_1_method_36_code 2 (Option.some Jvm.ClassFile.FieldType.float) ∈ lw_good := zin 1443 (by decide +kernel) (by decide +kernel)
def yX0_sum : MethodName := ⟨RX0, "sum", "()I"⟩
abbrev mX0_sum : zMI := (yX0_sum, prog_2_method_7_code, 3, (Option.some Jvm.ClassFile.FieldType.int), [])
theorem kX0_sum : Cond.code yX0_sum prog_2_method_7_code 3 (Option.some Jvm.ClassFile.FieldType.int) ∈ lw_good := zin 1448 (by decide +kernel) (by decide +kernel)
def yL_account : MethodName := ⟨RL, "account", "(LFloodStones;I[J)I"⟩
abbrev mL_account : zMI := (yL_account, method_33_code, 4, (Option.some Jvm.ClassFile.FieldType.int), [((0 : Nat), (9 : Nat), (12 : Nat), (50 : Nat))])
theorem kL_account : Cond.codeWith yL_account method_33_code 4 (Option.some Jvm.ClassFile.FieldType.int) [((0 : Nat), (9 : Nat), (12 : Nat), (50 : Nat))] ∈ tables_1 := List.mem_of_getElem? (i := 1451) (by decide +kernel)
def yX10_account : MethodName := ⟨RX10, "account", "(I)I"⟩
abbrev mX10_account : zMI := (yX10_account, prog_1_method_37_code, 2, (Option.some Jvm.ClassFile.FieldType.int), [])
theorem kX10_account : Cond.code yX10_account prog_1_method_37_code 2 (Option.some Jvm.ClassFile.FieldType.int) ∈ lw_good := zin 1455 (by decide +kernel) (by decide +kernel)
def yX4_countAll : MethodName := ⟨RX4, "countAll", "()I"⟩
abbrev mX4_countAll : zMI := (yX4_countAll, prog_6_method_13_code, 3, (Option.some Jvm.ClassFile.FieldType.int), [])
theorem kX4_countAll : Cond.code yX4_countAll prog_6_method_13_code 3 (Option.some Jvm.ClassFile.FieldType.int) ∈ lw_good := zin 1459 (by decide +kernel) (by decide +kernel)
def yX6_stonesInDoubt : MethodName := ⟨RX6, "stonesInDoubt", "()I"⟩
abbrev mX6_stonesInDoubt : zMI := (yX6_stonesInDoubt, prog_8_method_26_code, 3, (Option.some Jvm.ClassFile.FieldType.int), [])
theorem kX6_stonesInDoubt : Cond.code yX6_stonesInDoubt prog_8_method_26_code 3 (Option.some Jvm.ClassFile.FieldType.int) ∈ lw_good := zin 1464 (by decide +kernel) (by decide +kernel)
def yL_undo : MethodName := ⟨RL, "undo", "(LFloodStones;[J)I"⟩
abbrev mL_undo : zMI := (yL_undo, method_34_code, 3, (Option.some Jvm.ClassFile.FieldType.int), [((0 : Nat), (8 : Nat), (11 : Nat), (95 : Nat))])
theorem kL_undo : Cond.codeWith yL_undo method_34_code 3 (Option.some Jvm.ClassFile.FieldType.int) [((0 : Nat), (8 : Nat), (11 : Nat), (95 : Nat))] ∈ tables_1 := List.mem_of_getElem? (i := 1468) (by decide +kernel)
def yX10_undo : MethodName := ⟨RX10, "undo", "()I"⟩
abbrev mX10_undo : zMI := (yX10_undo, prog_1_method_38_code, 1, (Option.some Jvm.ClassFile.FieldType.int), [])
theorem kX10_undo : Cond.code yX10_undo prog_1_method_38_code 1 (Option.some Jvm.ClassFile.FieldType.int) ∈ lw_good := zin 1472 (by decide +kernel) (by decide +kernel)
def yX3_takeBack : MethodName := ⟨RX3, "takeBack", "(LFloodStones$River;)V"⟩
abbrev mX3_takeBack : zMI := (yX3_takeBack, prog_5_method_4_code, 4, (Option.none : Option Jvm.ClassFile.FieldType), [])
theorem kX3_takeBack : Cond.code yX3_takeBack prog_5_method_4_code 4 (Option.none : Option Jvm.ClassFile.FieldType) ∈ lw_good := zin 1477 (by decide +kernel) (by decide +kernel)
def yL_restore : MethodName := ⟨RL, "restore", "(LFloodStones;[J)I"⟩
abbrev mL_restore : zMI := (yL_restore, method_35_code, 3, (Option.some Jvm.ClassFile.FieldType.int), [((0 : Nat), (8 : Nat), (11 : Nat), (95 : Nat))])
theorem kL_restore : Cond.codeWith yL_restore method_35_code 3 (Option.some Jvm.ClassFile.FieldType.int) [((0 : Nat), (8 : Nat), (11 : Nat), (95 : Nat))] ∈ tables_1 := List.mem_of_getElem? (i := 1480) (by decide +kernel)
def yX10_restore : MethodName := ⟨RX10, "restore", "()I"⟩
abbrev mX10_restore : zMI := (yX10_restore, prog_1_method_40_code, 1, (Option.some Jvm.ClassFile.FieldType.int), [])
theorem kX10_restore : Cond.code yX10_restore prog_1_method_40_code 1 (Option.some Jvm.ClassFile.FieldType.int) ∈ lw_good := zin 1484 (by decide +kernel) (by decide +kernel)
def yX3_forget : MethodName := ⟨RX3, "forget", "()V"⟩
abbrev mX3_forget : zMI := (yX3_forget, prog_5_method_5_code, 1, (Option.none : Option Jvm.ClassFile.FieldType), [])
theorem kX3_forget : Cond.code yX3_forget prog_5_method_5_code 1 (Option.none : Option Jvm.ClassFile.FieldType) ∈ lw_good := zin 1489 (by decide +kernel) (by decide +kernel)
def yX11_init : MethodName := ⟨RX11, "<init>", "()V"⟩
abbrev mX11_init : zMI := (yX11_init, prog_13_method_1_code, 1, (Option.none : Option Jvm.ClassFile.FieldType), [])
theorem kX11_init : Cond.code yX11_init prog_13_method_1_code 1 (Option.none : Option Jvm.ClassFile.FieldType) ∈ lw_good := zin 1494 (by decide +kernel) (by decide +kernel)
def yX11_thrown : MethodName := ⟨RX11, "thrown", "()I"⟩
abbrev mX11_thrown : zMI := (yX11_thrown, prog_13_method_2_code, 1, (Option.some Jvm.ClassFile.FieldType.int), [])
theorem kX11_thrown : Cond.code yX11_thrown prog_13_method_2_code 1 (Option.some Jvm.ClassFile.FieldType.int) ∈ lw_good := zin 1560 (by decide +kernel) (by decide +kernel)
def yX11_stone : MethodName := ⟨RX11, "stone", "(III)I"⟩
abbrev mX11_stone : zMI := (yX11_stone, prog_13_method_23_code, 5, (Option.some Jvm.ClassFile.FieldType.int), [])
theorem kX11_stone : Cond.code yX11_stone prog_13_method_23_code 5 (Option.some Jvm.ClassFile.FieldType.int) ∈ lw_good := zin 1564 (by decide +kernel) (by decide +kernel)
def yX11_in : MethodName := ⟨RX11, "in", "(III)Z"⟩
abbrev mX11_in : zMI := (yX11_in, prog_13_method_5_code, 3, (Option.some Jvm.ClassFile.FieldType.boolean), [])
theorem kX11_in : Cond.code yX11_in prog_13_method_5_code 3 (Option.some Jvm.ClassFile.FieldType.boolean) ∈ lw_good := zin 1567 (by decide +kernel) (by decide +kernel)
def yX11_refuses : MethodName := ⟨RX11, "refuses", "(II)I"⟩
abbrev mX11_refuses : zMI := (yX11_refuses, prog_13_method_4_code, 3, (Option.some Jvm.ClassFile.FieldType.int), [])
theorem kX11_refuses : Cond.code yX11_refuses prog_13_method_4_code 3 (Option.some Jvm.ClassFile.FieldType.int) ∈ lw_good := zin 1571 (by decide +kernel) (by decide +kernel)
def yX11_keeps : MethodName := ⟨RX11, "keeps", "([I)V"⟩
abbrev mX11_keeps : zMI := (yX11_keeps, prog_13_method_9_code, 3, (Option.none : Option Jvm.ClassFile.FieldType), [])
theorem kX11_keeps : Cond.code yX11_keeps prog_13_method_9_code 3 (Option.none : Option Jvm.ClassFile.FieldType) ∈ lw_good := zin 1575 (by decide +kernel) (by decide +kernel)
def yX11_copies : MethodName := ⟨RX11, "copies", "([II[II)V"⟩
abbrev mX11_copies : zMI := (yX11_copies, prog_13_method_8_code, 5, (Option.none : Option Jvm.ClassFile.FieldType), [])
theorem kX11_copies : Cond.code yX11_copies prog_13_method_8_code 5 (Option.none : Option Jvm.ClassFile.FieldType) ∈ lw_good := zin 1578 (by decide +kernel) (by decide +kernel)
def yX11_lays : MethodName := ⟨RX11, "lays", "(III)V"⟩
abbrev mX11_lays : zMI := (yX11_lays, prog_13_method_14_code, 4, (Option.none : Option Jvm.ClassFile.FieldType), [])
theorem kX11_lays : Cond.code yX11_lays prog_13_method_14_code 4 (Option.none : Option Jvm.ClassFile.FieldType) ∈ lw_good := zin 1582 (by decide +kernel) (by decide +kernel)
def yX11_flood : MethodName := ⟨RX11, "flood", "(III)I"⟩
abbrev mX11_flood : zMI := (yX11_flood, prog_13_method_25_code, 5, (Option.some Jvm.ClassFile.FieldType.int), [])
theorem kX11_flood : Cond.code yX11_flood prog_13_method_25_code 5 (Option.some Jvm.ClassFile.FieldType.int) ∈ lw_good := zin 1586 (by decide +kernel) (by decide +kernel)
def yX11_ofYear : MethodName := ⟨RX11, "ofYear", "(I)I"⟩
abbrev mX11_ofYear : zMI := (yX11_ofYear, prog_13_method_24_code, 3, (Option.some Jvm.ClassFile.FieldType.int), [])
theorem kX11_ofYear : Cond.code yX11_ofYear prog_13_method_24_code 3 (Option.some Jvm.ClassFile.FieldType.int) ∈ lw_good := zin 1590 (by decide +kernel) (by decide +kernel)
def yX11_ofFlood : MethodName := ⟨RX11, "ofFlood", "(II)I"⟩
abbrev mX11_ofFlood : zMI := (yX11_ofFlood, prog_13_method_16_code, 3, (Option.some Jvm.ClassFile.FieldType.int), [])
theorem kX11_ofFlood : Cond.code yX11_ofFlood prog_13_method_16_code 3 (Option.some Jvm.ClassFile.FieldType.int) ∈ lw_good := zin 1594 (by decide +kernel) (by decide +kernel)
def yX11_epoch : MethodName := ⟨RX11, "epoch", "(II)I"⟩
abbrev mX11_epoch : zMI := (yX11_epoch, prog_13_method_26_code, 4, (Option.some Jvm.ClassFile.FieldType.int), [])
theorem kX11_epoch : Cond.code yX11_epoch prog_13_method_26_code 4 (Option.some Jvm.ClassFile.FieldType.int) ∈ lw_good := zin 1598 (by decide +kernel) (by decide +kernel)
def yX11_more : MethodName := ⟨RX11, "more", "(II)I"⟩
abbrev mX11_more : zMI := (yX11_more, prog_13_method_7_code, 2, (Option.some Jvm.ClassFile.FieldType.int), [])
theorem kX11_more : Cond.code yX11_more prog_13_method_7_code 2 (Option.some Jvm.ClassFile.FieldType.int) ∈ lw_good := zin 1601 (by decide +kernel) (by decide +kernel)
def yX11_chisel : MethodName := ⟨RX11, "chisel", "()I"⟩
abbrev mX11_chisel : zMI := (yX11_chisel, prog_13_method_27_code, 1, (Option.some Jvm.ClassFile.FieldType.int), [])
theorem kX11_chisel : Cond.code yX11_chisel prog_13_method_27_code 1 (Option.some Jvm.ClassFile.FieldType.int) ∈ lw_good := zin 1605 (by decide +kernel) (by decide +kernel)
def yX11_cut : MethodName := ⟨RX11, "cut", "(III)I"⟩
abbrev mX11_cut : zMI := (yX11_cut, prog_13_method_28_code, 8, (Option.some Jvm.ClassFile.FieldType.int), [])
theorem kX11_cut : Cond.code yX11_cut prog_13_method_28_code 8 (Option.some Jvm.ClassFile.FieldType.int) ∈ lw_good := zin 1609 (by decide +kernel) (by decide +kernel)
def yX11_isStone : MethodName := ⟨RX11, "isStone", "(I)Z"⟩
abbrev mX11_isStone : zMI := (yX11_isStone, prog_13_method_10_code, 2, (Option.some Jvm.ClassFile.FieldType.boolean), [])
theorem kX11_isStone : Cond.code yX11_isStone prog_13_method_10_code 2 (Option.some Jvm.ClassFile.FieldType.boolean) ∈ lw_good := zin 1613 (by decide +kernel) (by decide +kernel)
def yX11_isFlood : MethodName := ⟨RX11, "isFlood", "(I)Z"⟩
abbrev mX11_isFlood : zMI := (yX11_isFlood, prog_13_method_11_code, 2, (Option.some Jvm.ClassFile.FieldType.boolean), [])
theorem kX11_isFlood : Cond.code yX11_isFlood prog_13_method_11_code 2 (Option.some Jvm.ClassFile.FieldType.boolean) ∈ lw_good := zin 1617 (by decide +kernel) (by decide +kernel)
def yX11_isChisel : MethodName := ⟨RX11, "isChisel", "(I)Z"⟩
abbrev mX11_isChisel : zMI := (yX11_isChisel, prog_13_method_12_code, 2, (Option.some Jvm.ClassFile.FieldType.boolean), [])
theorem kX11_isChisel : Cond.code yX11_isChisel prog_13_method_12_code 2 (Option.some Jvm.ClassFile.FieldType.boolean) ∈ lw_good := zin 1621 (by decide +kernel) (by decide +kernel)
def yX11_placeOf : MethodName := ⟨RX11, "placeOf", "(II)I"⟩
abbrev mX11_placeOf : zMI := (yX11_placeOf, prog_13_method_21_code, 4, (Option.some Jvm.ClassFile.FieldType.int), [])
theorem kX11_placeOf : Cond.code yX11_placeOf prog_13_method_21_code 4 (Option.some Jvm.ClassFile.FieldType.int) ∈ lw_good := zin 1625 (by decide +kernel) (by decide +kernel)
def yX11_of : MethodName := ⟨RX11, "of", "(II)I"⟩
abbrev mX11_of : zMI := (yX11_of, prog_13_method_13_code, 3, (Option.some Jvm.ClassFile.FieldType.int), [])
theorem kX11_of : Cond.code yX11_of prog_13_method_13_code 3 (Option.some Jvm.ClassFile.FieldType.int) ∈ lw_good := zin 1629 (by decide +kernel) (by decide +kernel)
def yX11_ofMark : MethodName := ⟨RX11, "ofMark", "(III)I"⟩
abbrev mX11_ofMark : zMI := (yX11_ofMark, prog_13_method_15_code, 4, (Option.some Jvm.ClassFile.FieldType.int), [])
theorem kX11_ofMark : Cond.code yX11_ofMark prog_13_method_15_code 4 (Option.some Jvm.ClassFile.FieldType.int) ∈ lw_good := zin 1633 (by decide +kernel) (by decide +kernel)
def yX11_heightNow : MethodName := ⟨RX11, "heightNow", "(II)I"⟩
abbrev mX11_heightNow : zMI := (yX11_heightNow, prog_13_method_19_code, 3, (Option.some Jvm.ClassFile.FieldType.int), [])
theorem kX11_heightNow : Cond.code yX11_heightNow prog_13_method_19_code 3 (Option.some Jvm.ClassFile.FieldType.int) ∈ lw_good := zin 1637 (by decide +kernel) (by decide +kernel)
def yX11_levelOf : MethodName := ⟨RX11, "levelOf", "(II)I"⟩
abbrev mX11_levelOf : zMI := (yX11_levelOf, prog_13_method_18_code, 3, (Option.some Jvm.ClassFile.FieldType.int), [])
theorem kX11_levelOf : Cond.code yX11_levelOf prog_13_method_18_code 3 (Option.some Jvm.ClassFile.FieldType.int) ∈ lw_good := zin 1641 (by decide +kernel) (by decide +kernel)
def yX11_shiftOf : MethodName := ⟨RX11, "shiftOf", "(I)I"⟩
abbrev mX11_shiftOf : zMI := (yX11_shiftOf, prog_13_method_17_code, 4, (Option.some Jvm.ClassFile.FieldType.int), [])
theorem kX11_shiftOf : Cond.code yX11_shiftOf prog_13_method_17_code 4 (Option.some Jvm.ClassFile.FieldType.int) ∈ lw_good := zin 1645 (by decide +kernel) (by decide +kernel)
def yX11_placeAt : MethodName := ⟨RX11, "placeAt", "(II)I"⟩
abbrev mX11_placeAt : zMI := (yX11_placeAt, prog_13_method_22_code, 4, (Option.some Jvm.ClassFile.FieldType.int), [])
theorem kX11_placeAt : Cond.code yX11_placeAt prog_13_method_22_code 4 (Option.some Jvm.ClassFile.FieldType.int) ∈ lw_good := zin 1649 (by decide +kernel) (by decide +kernel)
def yX11_efface : MethodName := ⟨RX11, "efface", "(II)I"⟩
abbrev mX11_efface : zMI := (yX11_efface, prog_13_method_30_code, 5, (Option.some Jvm.ClassFile.FieldType.int), [])
theorem kX11_efface : Cond.code yX11_efface prog_13_method_30_code 5 (Option.some Jvm.ClassFile.FieldType.int) ∈ lw_good := zin 1653 (by decide +kernel) (by decide +kernel)
def yX11_drops : MethodName := ⟨RX11, "drops", "(II)V"⟩
abbrev mX11_drops : zMI := (yX11_drops, prog_13_method_29_code, 5, (Option.none : Option Jvm.ClassFile.FieldType), [])
theorem kX11_drops : Cond.code yX11_drops prog_13_method_29_code 5 (Option.none : Option Jvm.ClassFile.FieldType) ∈ lw_good := zin 1657 (by decide +kernel) (by decide +kernel)
def yX11_sharpen : MethodName := ⟨RX11, "sharpen", "(I)I"⟩
abbrev mX11_sharpen : zMI := (yX11_sharpen, prog_13_method_31_code, 3, (Option.some Jvm.ClassFile.FieldType.int), [])
theorem kX11_sharpen : Cond.code yX11_sharpen prog_13_method_31_code 3 (Option.some Jvm.ClassFile.FieldType.int) ∈ lw_good := zin 1661 (by decide +kernel) (by decide +kernel)
def yX11_check : MethodName := ⟨RX11, "check", "(I)I"⟩
abbrev mX11_check : zMI := (yX11_check, prog_13_method_32_code, 3, (Option.some Jvm.ClassFile.FieldType.int), [])
theorem kX11_check : Cond.code yX11_check prog_13_method_32_code 3 (Option.some Jvm.ClassFile.FieldType.int) ∈ lw_good := zin 1665 (by decide +kernel) (by decide +kernel)
def yX11_witness : MethodName := ⟨RX11, "witness", "(II)I"⟩
abbrev mX11_witness : zMI := (yX11_witness, prog_13_method_33_code, 3, (Option.some Jvm.ClassFile.FieldType.int), [])
theorem kX11_witness : Cond.code yX11_witness prog_13_method_33_code 3 (Option.some Jvm.ClassFile.FieldType.int) ∈ lw_good := zin 1669 (by decide +kernel) (by decide +kernel)
def yX11_years : MethodName := ⟨RX11, "years", "(I)I"⟩
abbrev mX11_years : zMI := (yX11_years, prog_13_method_37_code, 4, (Option.some Jvm.ClassFile.FieldType.int), [])
theorem kX11_years : Cond.code yX11_years prog_13_method_37_code 4 (Option.some Jvm.ClassFile.FieldType.int) ∈ lw_good := zin 1673 (by decide +kernel) (by decide +kernel)
def yX11_yearGoes : MethodName := ⟨RX11, "yearGoes", "()I"⟩
abbrev mX11_yearGoes : zMI := (yX11_yearGoes, prog_13_method_36_code, 3, (Option.some Jvm.ClassFile.FieldType.int), [])
theorem kX11_yearGoes : Cond.code yX11_yearGoes prog_13_method_36_code 3 (Option.some Jvm.ClassFile.FieldType.int) ∈ lw_good := zin 1677 (by decide +kernel) (by decide +kernel)
def yX11_errs : MethodName := ⟨RX11, "errs", "(I)I"⟩
abbrev mX11_errs : zMI := (yX11_errs, prog_13_method_34_code, 1, (Option.some Jvm.ClassFile.FieldType.int), [])
theorem kX11_errs : Cond.code yX11_errs prog_13_method_34_code 1 (Option.some Jvm.ClassFile.FieldType.int) ∈ lw_good := zin 1680 (by decide +kernel) (by decide +kernel)
def yX11_less : MethodName := ⟨RX11, "less", "(II)I"⟩
abbrev mX11_less : zMI := (yX11_less, prog_13_method_6_code, 2, (Option.some Jvm.ClassFile.FieldType.int), [])
theorem kX11_less : Cond.code yX11_less prog_13_method_6_code 2 (Option.some Jvm.ClassFile.FieldType.int) ∈ lw_good := zin 1683 (by decide +kernel) (by decide +kernel)
def yX11_weathers : MethodName := ⟨RX11, "weathers", "(I)I"⟩
abbrev mX11_weathers : zMI := (yX11_weathers, prog_13_method_35_code, 4, (Option.some Jvm.ClassFile.FieldType.int), [])
theorem kX11_weathers : Cond.code yX11_weathers prog_13_method_35_code 4 (Option.some Jvm.ClassFile.FieldType.int) ∈ lw_good := zin 1687 (by decide +kernel) (by decide +kernel)
def yX11_stoneOf : MethodName := ⟨RX11, "stoneOf", "(II)I"⟩
abbrev mX11_stoneOf : zMI := (yX11_stoneOf, prog_13_method_44_code, 3, (Option.some Jvm.ClassFile.FieldType.int), [])
theorem kX11_stoneOf : Cond.code yX11_stoneOf prog_13_method_44_code 3 (Option.some Jvm.ClassFile.FieldType.int) ∈ lw_good := zin 1691 (by decide +kernel) (by decide +kernel)
def yX11_fails : MethodName := ⟨RX11, "fails", "(I)Z"⟩
abbrev mX11_fails : zMI := (yX11_fails, prog_13_method_3_code, 2, (Option.some Jvm.ClassFile.FieldType.boolean), [])
theorem kX11_fails : Cond.code yX11_fails prog_13_method_3_code 2 (Option.some Jvm.ClassFile.FieldType.boolean) ∈ lw_good := zin 1695 (by decide +kernel) (by decide +kernel)
def yX11_doubtsOn : MethodName := ⟨RX11, "doubtsOn", "(I)I"⟩
abbrev mX11_doubtsOn : zMI := (yX11_doubtsOn, prog_13_method_40_code, 4, (Option.some Jvm.ClassFile.FieldType.int), [])
theorem kX11_doubtsOn : Cond.code yX11_doubtsOn prog_13_method_40_code 4 (Option.some Jvm.ClassFile.FieldType.int) ∈ lw_good := zin 1699 (by decide +kernel) (by decide +kernel)
def yX11_doubtsOf : MethodName := ⟨RX11, "doubtsOf", "(II)I"⟩
abbrev mX11_doubtsOf : zMI := (yX11_doubtsOf, prog_13_method_39_code, 5, (Option.some Jvm.ClassFile.FieldType.int), [])
theorem kX11_doubtsOf : Cond.code yX11_doubtsOf prog_13_method_39_code 5 (Option.some Jvm.ClassFile.FieldType.int) ∈ lw_good := zin 1703 (by decide +kernel) (by decide +kernel)
def yX11_areInDoubt : MethodName := ⟨RX11, "areInDoubt", "(III)Z"⟩
abbrev mX11_areInDoubt : zMI := (yX11_areInDoubt, prog_13_method_38_code, 6, (Option.some Jvm.ClassFile.FieldType.boolean), [])
theorem kX11_areInDoubt : Cond.code yX11_areInDoubt prog_13_method_38_code 6 (Option.some Jvm.ClassFile.FieldType.boolean) ∈ lw_good := zin 1707 (by decide +kernel) (by decide +kernel)
def yX11_trueOf : MethodName := ⟨RX11, "trueOf", "(II)I"⟩
abbrev mX11_trueOf : zMI := (yX11_trueOf, prog_13_method_20_code, 3, (Option.some Jvm.ClassFile.FieldType.int), [])
theorem kX11_trueOf : Cond.code yX11_trueOf prog_13_method_20_code 3 (Option.some Jvm.ClassFile.FieldType.int) ∈ lw_good := zin 1711 (by decide +kernel) (by decide +kernel)
def yX11_floodOf : MethodName := ⟨RX11, "floodOf", "(II)I"⟩
abbrev mX11_floodOf : zMI := (yX11_floodOf, prog_13_method_45_code, 3, (Option.some Jvm.ClassFile.FieldType.int), [])
theorem kX11_floodOf : Cond.code yX11_floodOf prog_13_method_45_code 3 (Option.some Jvm.ClassFile.FieldType.int) ∈ lw_good := zin 1715 (by decide +kernel) (by decide +kernel)
def yX11_marksFor : MethodName := ⟨RX11, "marksFor", "(I)I"⟩
abbrev mX11_marksFor : zMI := (yX11_marksFor, prog_13_method_42_code, 4, (Option.some Jvm.ClassFile.FieldType.int), [])
theorem kX11_marksFor : Cond.code yX11_marksFor prog_13_method_42_code 4 (Option.some Jvm.ClassFile.FieldType.int) ∈ lw_good := zin 1719 (by decide +kernel) (by decide +kernel)
def yX11_doubtsFor : MethodName := ⟨RX11, "doubtsFor", "(I)I"⟩
abbrev mX11_doubtsFor : zMI := (yX11_doubtsFor, prog_13_method_41_code, 4, (Option.some Jvm.ClassFile.FieldType.int), [])
theorem kX11_doubtsFor : Cond.code yX11_doubtsFor prog_13_method_41_code 4 (Option.some Jvm.ClassFile.FieldType.int) ∈ lw_good := zin 1723 (by decide +kernel) (by decide +kernel)
def yX11_credit : MethodName := ⟨RX11, "credit", "(I)I"⟩
abbrev mX11_credit : zMI := (yX11_credit, prog_13_method_43_code, 2, (Option.some Jvm.ClassFile.FieldType.int), [])
theorem kX11_credit : Cond.code yX11_credit prog_13_method_43_code 2 (Option.some Jvm.ClassFile.FieldType.int) ∈ lw_good := zin 1727 (by decide +kernel) (by decide +kernel)
def yX11_floodIn : MethodName := ⟨RX11, "floodIn", "(I)I"⟩
abbrev mX11_floodIn : zMI := (yX11_floodIn, prog_13_method_46_code, 2, (Option.some Jvm.ClassFile.FieldType.int), [])
theorem kX11_floodIn : Cond.code yX11_floodIn prog_13_method_46_code 2 (Option.some Jvm.ClassFile.FieldType.int) ∈ lw_good := zin 1731 (by decide +kernel) (by decide +kernel)
def yX11_before : MethodName := ⟨RX11, "before", "(I)I"⟩
abbrev mX11_before : zMI := (yX11_before, prog_13_method_47_code, 4, (Option.some Jvm.ClassFile.FieldType.int), [])
theorem kX11_before : Cond.code yX11_before prog_13_method_47_code 4 (Option.some Jvm.ClassFile.FieldType.int) ∈ lw_good := zin 1735 (by decide +kernel) (by decide +kernel)
def yX11_edge : MethodName := ⟨RX11, "edge", "(I)I"⟩
abbrev mX11_edge : zMI := (yX11_edge, prog_13_method_48_code, 2, (Option.some Jvm.ClassFile.FieldType.int), [])
theorem kX11_edge : Cond.code yX11_edge prog_13_method_48_code 2 (Option.some Jvm.ClassFile.FieldType.int) ∈ lw_good := zin 1739 (by decide +kernel) (by decide +kernel)
def yX11_markOf : MethodName := ⟨RX11, "markOf", "(III)I"⟩
abbrev mX11_markOf : zMI := (yX11_markOf, prog_13_method_50_code, 5, (Option.some Jvm.ClassFile.FieldType.int), [])
theorem kX11_markOf : Cond.code yX11_markOf prog_13_method_50_code 5 (Option.some Jvm.ClassFile.FieldType.int) ∈ lw_good := zin 1743 (by decide +kernel) (by decide +kernel)
def yX11_goneIn : MethodName := ⟨RX11, "goneIn", "(I)I"⟩
abbrev mX11_goneIn : zMI := (yX11_goneIn, prog_13_method_49_code, 2, (Option.some Jvm.ClassFile.FieldType.int), [])
theorem kX11_goneIn : Cond.code yX11_goneIn prog_13_method_49_code 2 (Option.some Jvm.ClassFile.FieldType.int) ∈ lw_good := zin 1747 (by decide +kernel) (by decide +kernel)
def yX11_mark : MethodName := ⟨RX11, "mark", "(II)I"⟩
abbrev mX11_mark : zMI := (yX11_mark, prog_13_method_53_code, 3, (Option.some Jvm.ClassFile.FieldType.int), [])
theorem kX11_mark : Cond.code yX11_mark prog_13_method_53_code 3 (Option.some Jvm.ClassFile.FieldType.int) ∈ lw_good := zin 1751 (by decide +kernel) (by decide +kernel)
def yX11_nth : MethodName := ⟨RX11, "nth", "(II)I"⟩
abbrev mX11_nth : zMI := (yX11_nth, prog_13_method_52_code, 4, (Option.some Jvm.ClassFile.FieldType.int), [])
theorem kX11_nth : Cond.code yX11_nth prog_13_method_52_code 4 (Option.some Jvm.ClassFile.FieldType.int) ∈ lw_good := zin 1755 (by decide +kernel) (by decide +kernel)
def yX11_below : MethodName := ⟨RX11, "below", "(II)I"⟩
abbrev mX11_below : zMI := (yX11_below, prog_13_method_51_code, 5, (Option.some Jvm.ClassFile.FieldType.int), [])
theorem kX11_below : Cond.code yX11_below prog_13_method_51_code 5 (Option.some Jvm.ClassFile.FieldType.int) ∈ lw_good := zin 1759 (by decide +kernel) (by decide +kernel)
def yX11_level : MethodName := ⟨RX11, "level", "(II)I"⟩
abbrev mX11_level : zMI := (yX11_level, prog_13_method_54_code, 3, (Option.some Jvm.ClassFile.FieldType.int), [])
theorem kX11_level : Cond.code yX11_level prog_13_method_54_code 3 (Option.some Jvm.ClassFile.FieldType.int) ∈ lw_good := zin 1763 (by decide +kernel) (by decide +kernel)
def yX11_reads : MethodName := ⟨RX11, "reads", "(II)I"⟩
abbrev mX11_reads : zMI := (yX11_reads, prog_13_method_55_code, 3, (Option.some Jvm.ClassFile.FieldType.int), [])
theorem kX11_reads : Cond.code yX11_reads prog_13_method_55_code 3 (Option.some Jvm.ClassFile.FieldType.int) ∈ lw_good := zin 1767 (by decide +kernel) (by decide +kernel)
def yX11_shift : MethodName := ⟨RX11, "shift", "(I)I"⟩
abbrev mX11_shift : zMI := (yX11_shift, prog_13_method_56_code, 2, (Option.some Jvm.ClassFile.FieldType.int), [])
theorem kX11_shift : Cond.code yX11_shift prog_13_method_56_code 2 (Option.some Jvm.ClassFile.FieldType.int) ∈ lw_good := zin 1771 (by decide +kernel) (by decide +kernel)
def yX11_errorIn : MethodName := ⟨RX11, "errorIn", "(II)I"⟩
abbrev mX11_errorIn : zMI := (yX11_errorIn, prog_13_method_57_code, 5, (Option.some Jvm.ClassFile.FieldType.int), [])
theorem kX11_errorIn : Cond.code yX11_errorIn prog_13_method_57_code 5 (Option.some Jvm.ClassFile.FieldType.int) ∈ lw_good := zin 1775 (by decide +kernel) (by decide +kernel)
def yX11_rises : MethodName := ⟨RX11, "rises", "(I)Z"⟩
abbrev mX11_rises : zMI := (yX11_rises, prog_13_method_58_code, 2, (Option.some Jvm.ClassFile.FieldType.boolean), [])
theorem kX11_rises : Cond.code yX11_rises prog_13_method_58_code 2 (Option.some Jvm.ClassFile.FieldType.boolean) ∈ lw_good := zin 1779 (by decide +kernel) (by decide +kernel)
def yX11_ranked : MethodName := ⟨RX11, "ranked", "(I)I"⟩
abbrev mX11_ranked : zMI := (yX11_ranked, prog_13_method_61_code, 3, (Option.some Jvm.ClassFile.FieldType.int), [])
theorem kX11_ranked : Cond.code yX11_ranked prog_13_method_61_code 3 (Option.some Jvm.ClassFile.FieldType.int) ∈ lw_good := zin 1783 (by decide +kernel) (by decide +kernel)
def yX11_rankOf : MethodName := ⟨RX11, "rankOf", "(I)I"⟩
abbrev mX11_rankOf : zMI := (yX11_rankOf, prog_13_method_60_code, 4, (Option.some Jvm.ClassFile.FieldType.int), [])
theorem kX11_rankOf : Cond.code yX11_rankOf prog_13_method_60_code 4 (Option.some Jvm.ClassFile.FieldType.int) ∈ lw_good := zin 1787 (by decide +kernel) (by decide +kernel)
def yX11_isAhead : MethodName := ⟨RX11, "isAhead", "(II)Z"⟩
abbrev mX11_isAhead : zMI := (yX11_isAhead, prog_13_method_59_code, 3, (Option.some Jvm.ClassFile.FieldType.boolean), [])
theorem kX11_isAhead : Cond.code yX11_isAhead prog_13_method_59_code 3 (Option.some Jvm.ClassFile.FieldType.boolean) ∈ lw_good := zin 1791 (by decide +kernel) (by decide +kernel)
def yX11_doubts : MethodName := ⟨RX11, "doubts", "()I"⟩
abbrev mX11_doubts : zMI := (yX11_doubts, prog_13_method_62_code, 3, (Option.some Jvm.ClassFile.FieldType.int), [])
theorem kX11_doubts : Cond.code yX11_doubts prog_13_method_62_code 3 (Option.some Jvm.ClassFile.FieldType.int) ∈ lw_good := zin 1795 (by decide +kernel) (by decide +kernel)
def yX11_doubtsAgain : MethodName := ⟨RX11, "doubtsAgain", "()I"⟩
abbrev mX11_doubtsAgain : zMI := (yX11_doubtsAgain, prog_13_method_63_code, 3, (Option.some Jvm.ClassFile.FieldType.int), [])
theorem kX11_doubtsAgain : Cond.code yX11_doubtsAgain prog_13_method_63_code 3 (Option.some Jvm.ClassFile.FieldType.int) ∈ lw_good := zin 1799 (by decide +kernel) (by decide +kernel)
def yX11_append : MethodName := ⟨RX11, "append", "(C)I"⟩
abbrev mX11_append : zMI := (yX11_append, prog_13_method_64_code, 2, (Option.some Jvm.ClassFile.FieldType.int), [])
theorem kX11_append : Cond.code yX11_append prog_13_method_64_code 2 (Option.some Jvm.ClassFile.FieldType.int) ∈ lw_good := zin 1803 (by decide +kernel) (by decide +kernel)
def yX11_commands : MethodName := ⟨RX11, "commands", "()I"⟩
abbrev mX11_commands : zMI := (yX11_commands, prog_13_method_71_code, 3, (Option.some Jvm.ClassFile.FieldType.int), [])
theorem kX11_commands : Cond.code yX11_commands prog_13_method_71_code 3 (Option.some Jvm.ClassFile.FieldType.int) ∈ lw_good := zin 1807 (by decide +kernel) (by decide +kernel)
def yX11_isText : MethodName := ⟨RX11, "isText", "()Z"⟩
abbrev mX11_isText : zMI := (yX11_isText, prog_13_method_69_code, 1, (Option.some Jvm.ClassFile.FieldType.boolean), [])
theorem kX11_isText : Cond.code yX11_isText prog_13_method_69_code 1 (Option.some Jvm.ClassFile.FieldType.boolean) ∈ lw_good := zin 1811 (by decide +kernel) (by decide +kernel)
def yX11_commandHere : MethodName := ⟨RX11, "commandHere", "()Z"⟩
abbrev mX11_commandHere : zMI := (yX11_commandHere, prog_13_method_68_code, 2, (Option.some Jvm.ClassFile.FieldType.boolean), [])
theorem kX11_commandHere : Cond.code yX11_commandHere prog_13_method_68_code 2 (Option.some Jvm.ClassFile.FieldType.boolean) ∈ lw_good := zin 1815 (by decide +kernel) (by decide +kernel)
def yX11_here : MethodName := ⟨RX11, "here", "()I"⟩
abbrev mX11_here : zMI := (yX11_here, prog_13_method_65_code, 1, (Option.some Jvm.ClassFile.FieldType.int), [])
theorem kX11_here : Cond.code yX11_here prog_13_method_65_code 1 (Option.some Jvm.ClassFile.FieldType.int) ∈ lw_good := zin 1819 (by decide +kernel) (by decide +kernel)
def yX11_skips : MethodName := ⟨RX11, "skips", "(I)Z"⟩
abbrev mX11_skips : zMI := (yX11_skips, prog_13_method_66_code, 2, (Option.some Jvm.ClassFile.FieldType.boolean), [])
theorem kX11_skips : Cond.code yX11_skips prog_13_method_66_code 2 (Option.some Jvm.ClassFile.FieldType.boolean) ∈ lw_good := zin 1823 (by decide +kernel) (by decide +kernel)
def yX11_number : MethodName := ⟨RX11, "number", "(II)Z"⟩
abbrev mX11_number : zMI := (yX11_number, prog_13_method_67_code, 4, (Option.some Jvm.ClassFile.FieldType.boolean), [])
theorem kX11_number : Cond.code yX11_number prog_13_method_67_code 4 (Option.some Jvm.ClassFile.FieldType.boolean) ∈ lw_good := zin 1827 (by decide +kernel) (by decide +kernel)
def yX11_carries : MethodName := ⟨RX11, "carries", "(I)I"⟩
abbrev mX11_carries : zMI := (yX11_carries, prog_13_method_70_code, 2, (Option.some Jvm.ClassFile.FieldType.int), [])
theorem kX11_carries : Cond.code yX11_carries prog_13_method_70_code 2 (Option.some Jvm.ClassFile.FieldType.int) ∈ lw_good := zin 1831 (by decide +kernel) (by decide +kernel)
def yX11_faultPosition : MethodName := ⟨RX11, "faultPosition", "()I"⟩
abbrev mX11_faultPosition : zMI := (yX11_faultPosition, prog_13_method_72_code, 1, (Option.some Jvm.ClassFile.FieldType.int), [])
theorem kX11_faultPosition : Cond.code yX11_faultPosition prog_13_method_72_code 1 (Option.some Jvm.ClassFile.FieldType.int) ∈ lw_good := zin 1841 (by decide +kernel) (by decide +kernel)
def yX11_reason : MethodName := ⟨RX11, "reason", "(I)I"⟩
abbrev mX11_reason : zMI := (yX11_reason, prog_13_method_73_code, 2, (Option.some Jvm.ClassFile.FieldType.int), [])
theorem kX11_reason : Cond.code yX11_reason prog_13_method_73_code 2 (Option.some Jvm.ClassFile.FieldType.int) ∈ lw_good := zin 1845 (by decide +kernel) (by decide +kernel)
def yX11_line : MethodName := ⟨RX11, "line", "(I)I"⟩
abbrev mX11_line : zMI := (yX11_line, prog_13_method_76_code, 4, (Option.some Jvm.ClassFile.FieldType.int), [])
theorem kX11_line : Cond.code yX11_line prog_13_method_76_code 4 (Option.some Jvm.ClassFile.FieldType.int) ∈ lw_good := zin 1849 (by decide +kernel) (by decide +kernel)
def yX11_writesNumber : MethodName := ⟨RX11, "writesNumber", "(I)V"⟩
abbrev mX11_writesNumber : zMI := (yX11_writesNumber, prog_13_method_75_code, 2, (Option.none : Option Jvm.ClassFile.FieldType), [])
theorem kX11_writesNumber : Cond.code yX11_writesNumber prog_13_method_75_code 2 (Option.none : Option Jvm.ClassFile.FieldType) ∈ lw_good := zin 1853 (by decide +kernel) (by decide +kernel)
def yX11_writes : MethodName := ⟨RX11, "writes", "(I)V"⟩
abbrev mX11_writes : zMI := (yX11_writes, prog_13_method_74_code, 2, (Option.none : Option Jvm.ClassFile.FieldType), [])
theorem kX11_writes : Cond.code yX11_writes prog_13_method_74_code 2 (Option.none : Option Jvm.ClassFile.FieldType) ∈ lw_good := zin 1857 (by decide +kernel) (by decide +kernel)
def yX11_character : MethodName := ⟨RX11, "character", "(I)C"⟩
abbrev mX11_character : zMI := (yX11_character, prog_13_method_77_code, 2, (Option.some Jvm.ClassFile.FieldType.char), [])
theorem kX11_character : Cond.code yX11_character prog_13_method_77_code 2 (Option.some Jvm.ClassFile.FieldType.char) ∈ lw_good := zin 1861 (by decide +kernel) (by decide +kernel)
def yX11_estimate : MethodName := ⟨RX11, "estimate", "(I)D"⟩
abbrev mX11_estimate : zMI := (yX11_estimate, prog_13_method_78_code, 4, (Option.some Jvm.ClassFile.FieldType.double), [])
theorem kX11_estimate : Cond.code yX11_estimate prog_13_method_78_code 4 (Option.some Jvm.ClassFile.FieldType.double) ∈ lw_good := zin 1865 (by decide +kernel) (by decide +kernel)
def yX11_meanEdge : MethodName := ⟨RX11, "meanEdge", "()F"⟩
abbrev mX11_meanEdge : zMI := (yX11_meanEdge, prog_13_method_79_code, 3, (Option.some Jvm.ClassFile.FieldType.float), [])
theorem kX11_meanEdge : Cond.code yX11_meanEdge prog_13_method_79_code 3 (Option.some Jvm.ClassFile.FieldType.float) ∈ lw_good := zin 1869 (by decide +kernel) (by decide +kernel)
def yX11_account : MethodName := ⟨RX11, "account", "(I)I"⟩
abbrev mX11_account : zMI := (yX11_account, prog_13_method_82_code, 2, (Option.some Jvm.ClassFile.FieldType.int), [])
theorem kX11_account : Cond.code yX11_account prog_13_method_82_code 2 (Option.some Jvm.ClassFile.FieldType.int) ∈ lw_good := zin 1873 (by decide +kernel) (by decide +kernel)
def yX11_marks : MethodName := ⟨RX11, "marks", "()I"⟩
abbrev mX11_marks : zMI := (yX11_marks, prog_13_method_80_code, 3, (Option.some Jvm.ClassFile.FieldType.int), [])
theorem kX11_marks : Cond.code yX11_marks prog_13_method_80_code 3 (Option.some Jvm.ClassFile.FieldType.int) ∈ lw_good := zin 1877 (by decide +kernel) (by decide +kernel)
def yX11_doubtful : MethodName := ⟨RX11, "doubtful", "()I"⟩
abbrev mX11_doubtful : zMI := (yX11_doubtful, prog_13_method_81_code, 3, (Option.some Jvm.ClassFile.FieldType.int), [])
theorem kX11_doubtful : Cond.code yX11_doubtful prog_13_method_81_code 3 (Option.some Jvm.ClassFile.FieldType.int) ∈ lw_good := zin 1881 (by decide +kernel) (by decide +kernel)
def yX11_undo : MethodName := ⟨RX11, "undo", "()I"⟩
abbrev mX11_undo : zMI := (yX11_undo, prog_13_method_83_code, 1, (Option.some Jvm.ClassFile.FieldType.int), [])
theorem kX11_undo : Cond.code yX11_undo prog_13_method_83_code 1 (Option.some Jvm.ClassFile.FieldType.int) ∈ lw_good := zin 1885 (by decide +kernel) (by decide +kernel)
def yX11_save : MethodName := ⟨RX11, "save", "()I"⟩
abbrev mX11_save : zMI := (yX11_save, prog_13_method_84_code, 1, (Option.some Jvm.ClassFile.FieldType.int), [])
theorem kX11_save : Cond.code yX11_save prog_13_method_84_code 1 (Option.some Jvm.ClassFile.FieldType.int) ∈ lw_good := zin 1889 (by decide +kernel) (by decide +kernel)
def yX11_restore : MethodName := ⟨RX11, "restore", "()I"⟩
abbrev mX11_restore : zMI := (yX11_restore, prog_13_method_85_code, 1, (Option.some Jvm.ClassFile.FieldType.int), [])
theorem kX11_restore : Cond.code yX11_restore prog_13_method_85_code 1 (Option.some Jvm.ClassFile.FieldType.int) ∈ lw_good := zin 1893 (by decide +kernel) (by decide +kernel)
def zFL (own : String) (idx ci k : Nat) (fin : Bool) (fty : FieldType) : Prop := ∃ (C : String) (T : u_T) (N : Nat) (ty : Nat → FieldType), zCl ci C T N ty ∧ k < N ∧ Cond.fieldLink own idx (T k).1 (T k).2.1 (T k).2.2.1 ∈ lw_good ∧ (T k).2.2.2 = fin ∧ ty k = fty ∧ (T k).1 = (if fin then own else (T k).1)
def zFLr (own : String) (idx ci k : Nat) : Prop := ∃ (C : String) (T : u_T) (N : Nat) (ty : Nat → FieldType), zCl ci C T N ty ∧ k < N ∧ Cond.fieldLink own idx (T k).1 (T k).2.1 (T k).2.2.1 ∈ lw_good
theorem zFL.r {own : String} {idx ci k : Nat} {fin : Bool} {fty : FieldType} (h : zFL own idx ci k fin fty) : zFLr own idx ci k := by
  obtain ⟨C, T, N, ty, h1, h2, h3, -⟩ := h
  exact ⟨C, T, N, ty, h1, h2, h3⟩
theorem fX8_7 : zFL RX8 7 8 0 false (.int) := ⟨RX8, TX8, 5, tyX8, zc8, by decide, zin 56 (by decide +kernel) (by decide +kernel), by decide, rfl, by decide⟩
theorem fX6_74 : zFL RX6 74 8 0 false (.int) := ⟨RX8, TX8, 5, tyX8, zc8, by decide, zin 57 (by decide +kernel) (by decide +kernel), by decide, rfl, by decide⟩
theorem fX10_419 : zFL RX10 419 8 0 false (.int) := ⟨RX8, TX8, 5, tyX8, zc8, by decide, zin 58 (by decide +kernel) (by decide +kernel), by decide, rfl, by decide⟩
theorem fX8_13 : zFL RX8 13 8 1 true (.array .int) := ⟨RX8, TX8, 5, tyX8, zc8, by decide, zin 59 (by decide +kernel) (by decide +kernel), by decide, rfl, by decide⟩
theorem fX10_197 : zFLr RX10 197 8 1 := ⟨RX8, TX8, 5, tyX8, zc8, by decide, zin 60 (by decide +kernel) (by decide +kernel)⟩
theorem fX8_17 : zFL RX8 17 8 2 true (.array .int) := ⟨RX8, TX8, 5, tyX8, zc8, by decide, zin 61 (by decide +kernel) (by decide +kernel), by decide, rfl, by decide⟩
theorem fX10_206 : zFLr RX10 206 8 2 := ⟨RX8, TX8, 5, tyX8, zc8, by decide, zin 62 (by decide +kernel) (by decide +kernel)⟩
theorem fX8_20 : zFL RX8 20 8 3 true (.array .int) := ⟨RX8, TX8, 5, tyX8, zc8, by decide, zin 63 (by decide +kernel) (by decide +kernel), by decide, rfl, by decide⟩
theorem fX6_115 : zFLr RX6 115 8 3 := ⟨RX8, TX8, 5, tyX8, zc8, by decide, zin 64 (by decide +kernel) (by decide +kernel)⟩
theorem fX10_209 : zFLr RX10 209 8 3 := ⟨RX8, TX8, 5, tyX8, zc8, by decide, zin 65 (by decide +kernel) (by decide +kernel)⟩
theorem fX8_23 : zFL RX8 23 8 4 true (.array .int) := ⟨RX8, TX8, 5, tyX8, zc8, by decide, zin 66 (by decide +kernel) (by decide +kernel), by decide, rfl, by decide⟩
theorem fX10_212 : zFLr RX10 212 8 4 := ⟨RX8, TX8, 5, tyX8, zc8, by decide, zin 67 (by decide +kernel) (by decide +kernel)⟩
theorem fX6_145 : zFLr RX6 145 8 4 := ⟨RX8, TX8, 5, tyX8, zc8, by decide, zin 68 (by decide +kernel) (by decide +kernel)⟩
theorem fX2_7 : zFL RX2 7 2 0 false (.int) := ⟨RX2, TX2, 4, tyX2, zc2, by decide, zin 87 (by decide +kernel) (by decide +kernel), by decide, rfl, by decide⟩
theorem fX6_81 : zFL RX6 81 2 0 false (.int) := ⟨RX2, TX2, 4, tyX2, zc2, by decide, zin 88 (by decide +kernel) (by decide +kernel), by decide, rfl, by decide⟩
theorem fX10_311 : zFL RX10 311 2 0 false (.int) := ⟨RX2, TX2, 4, tyX2, zc2, by decide, zin 89 (by decide +kernel) (by decide +kernel), by decide, rfl, by decide⟩
theorem fX2_13 : zFL RX2 13 2 1 true (.array .int) := ⟨RX2, TX2, 4, tyX2, zc2, by decide, zin 90 (by decide +kernel) (by decide +kernel), by decide, rfl, by decide⟩
theorem fX10_229 : zFLr RX10 229 2 1 := ⟨RX2, TX2, 4, tyX2, zc2, by decide, zin 91 (by decide +kernel) (by decide +kernel)⟩
theorem fX6_187 : zFLr RX6 187 2 1 := ⟨RX2, TX2, 4, tyX2, zc2, by decide, zin 92 (by decide +kernel) (by decide +kernel)⟩
theorem fX2_17 : zFL RX2 17 2 2 true (.array .int) := ⟨RX2, TX2, 4, tyX2, zc2, by decide, zin 93 (by decide +kernel) (by decide +kernel), by decide, rfl, by decide⟩
theorem fX10_232 : zFLr RX10 232 2 2 := ⟨RX2, TX2, 4, tyX2, zc2, by decide, zin 94 (by decide +kernel) (by decide +kernel)⟩
theorem fX6_154 : zFLr RX6 154 2 2 := ⟨RX2, TX2, 4, tyX2, zc2, by decide, zin 95 (by decide +kernel) (by decide +kernel)⟩
theorem fX2_20 : zFL RX2 20 2 3 true (.array .int) := ⟨RX2, TX2, 4, tyX2, zc2, by decide, zin 96 (by decide +kernel) (by decide +kernel), by decide, rfl, by decide⟩
theorem fX6_124 : zFLr RX6 124 2 3 := ⟨RX2, TX2, 4, tyX2, zc2, by decide, zin 97 (by decide +kernel) (by decide +kernel)⟩
theorem fX10_235 : zFLr RX10 235 2 3 := ⟨RX2, TX2, 4, tyX2, zc2, by decide, zin 98 (by decide +kernel) (by decide +kernel)⟩
theorem fX1_7 : zFL RX1 7 1 0 false (.int) := ⟨RX1, TX1, 3, tyX1, zc1, by decide, zin 114 (by decide +kernel) (by decide +kernel), by decide, rfl, by decide⟩
theorem fX6_82 : zFL RX6 82 1 0 false (.int) := ⟨RX1, TX1, 3, tyX1, zc1, by decide, zin 115 (by decide +kernel) (by decide +kernel), by decide, rfl, by decide⟩
theorem fX10_420 : zFL RX10 420 1 0 false (.int) := ⟨RX1, TX1, 3, tyX1, zc1, by decide, zin 116 (by decide +kernel) (by decide +kernel), by decide, rfl, by decide⟩
theorem fX1_13 : zFL RX1 13 1 1 true (.array .int) := ⟨RX1, TX1, 3, tyX1, zc1, by decide, zin 117 (by decide +kernel) (by decide +kernel), by decide, rfl, by decide⟩
theorem fX1_17 : zFL RX1 17 1 2 true (.array .int) := ⟨RX1, TX1, 3, tyX1, zc1, by decide, zin 118 (by decide +kernel) (by decide +kernel), by decide, rfl, by decide⟩
theorem fX0_7 : zFL RX0 7 0 0 false (.int) := ⟨RX0, TX0, 2, tyX0, zc0, by decide, zin 132 (by decide +kernel) (by decide +kernel), by decide, rfl, by decide⟩
theorem fX6_86 : zFL RX6 86 0 0 false (.int) := ⟨RX0, TX0, 2, tyX0, zc0, by decide, zin 133 (by decide +kernel) (by decide +kernel), by decide, rfl, by decide⟩
theorem fX10_411 : zFL RX10 411 0 0 false (.int) := ⟨RX0, TX0, 2, tyX0, zc0, by decide, zin 134 (by decide +kernel) (by decide +kernel), by decide, rfl, by decide⟩
theorem fX0_13 : zFL RX0 13 0 1 true (.array .int) := ⟨RX0, TX0, 2, tyX0, zc0, by decide, zin 135 (by decide +kernel) (by decide +kernel), by decide, rfl, by decide⟩
theorem fX6_105 : zFLr RX6 105 0 1 := ⟨RX0, TX0, 2, tyX0, zc0, by decide, zin 136 (by decide +kernel) (by decide +kernel)⟩
theorem fX10_263 : zFLr RX10 263 0 1 := ⟨RX0, TX0, 2, tyX0, zc0, by decide, zin 137 (by decide +kernel) (by decide +kernel)⟩
theorem fX4_13 : zFL RX4 13 4 0 true (.array .int) := ⟨RX4, TX4, 6, tyX4, zc4, by decide, zin 149 (by decide +kernel) (by decide +kernel), by decide, rfl, by decide⟩
theorem fX4_17 : zFL RX4 17 4 1 true (.array .int) := ⟨RX4, TX4, 6, tyX4, zc4, by decide, zin 150 (by decide +kernel) (by decide +kernel), by decide, rfl, by decide⟩
theorem fX4_20 : zFL RX4 20 4 2 true (.array .int) := ⟨RX4, TX4, 6, tyX4, zc4, by decide, zin 151 (by decide +kernel) (by decide +kernel), by decide, rfl, by decide⟩
theorem fX4_23 : zFL RX4 23 4 3 false (.int) := ⟨RX4, TX4, 6, tyX4, zc4, by decide, zin 152 (by decide +kernel) (by decide +kernel), by decide, rfl, by decide⟩
theorem fX10_424 : zFL RX10 424 4 3 false (.int) := ⟨RX4, TX4, 6, tyX4, zc4, by decide, zin 153 (by decide +kernel) (by decide +kernel), by decide, rfl, by decide⟩
theorem fX4_27 : zFL RX4 27 4 4 false (.int) := ⟨RX4, TX4, 6, tyX4, zc4, by decide, zin 154 (by decide +kernel) (by decide +kernel), by decide, rfl, by decide⟩
theorem fX10_427 : zFL RX10 427 4 4 false (.int) := ⟨RX4, TX4, 6, tyX4, zc4, by decide, zin 155 (by decide +kernel) (by decide +kernel), by decide, rfl, by decide⟩
theorem fX4_30 : zFL RX4 30 4 5 false (.int) := ⟨RX4, TX4, 6, tyX4, zc4, by decide, zin 156 (by decide +kernel) (by decide +kernel), by decide, rfl, by decide⟩
theorem fX10_430 : zFL RX10 430 4 5 false (.int) := ⟨RX4, TX4, 6, tyX4, zc4, by decide, zin 157 (by decide +kernel) (by decide +kernel), by decide, rfl, by decide⟩
theorem fX6_9 : zFL RX6 9 6 0 false (.int) := ⟨RX6, TX6, 6, tyX6, zc6, by decide, zin 171 (by decide +kernel) (by decide +kernel), by decide, rfl, by decide⟩
theorem fX10_417 : zFL RX10 417 6 0 false (.int) := ⟨RX6, TX6, 6, tyX6, zc6, by decide, zin 172 (by decide +kernel) (by decide +kernel), by decide, rfl, by decide⟩
theorem fX6_16 : zFL RX6 16 6 1 true (.object "FloodStones$Stones") := ⟨RX6, TX6, 6, tyX6, zc6, by decide, zin 173 (by decide +kernel) (by decide +kernel), by decide, rfl, by decide⟩
theorem fX10_81 : zFLr RX10 81 6 1 := ⟨RX6, TX6, 6, tyX6, zc6, by decide, zin 174 (by decide +kernel) (by decide +kernel)⟩
theorem fX6_23 : zFL RX6 23 6 2 true (.object "FloodStones$Floods") := ⟨RX6, TX6, 6, tyX6, zc6, by decide, zin 175 (by decide +kernel) (by decide +kernel), by decide, rfl, by decide⟩
theorem fX10_96 : zFLr RX10 96 6 2 := ⟨RX6, TX6, 6, tyX6, zc6, by decide, zin 176 (by decide +kernel) (by decide +kernel)⟩
theorem fX6_30 : zFL RX6 30 6 3 true (.object "FloodStones$Epochs") := ⟨RX6, TX6, 6, tyX6, zc6, by decide, zin 177 (by decide +kernel) (by decide +kernel), by decide, rfl, by decide⟩
theorem fX10_107 : zFLr RX10 107 6 3 := ⟨RX6, TX6, 6, tyX6, zc6, by decide, zin 178 (by decide +kernel) (by decide +kernel)⟩
theorem fX6_37 : zFL RX6 37 6 4 true (.object "FloodStones$Chisels") := ⟨RX6, TX6, 6, tyX6, zc6, by decide, zin 179 (by decide +kernel) (by decide +kernel), by decide, rfl, by decide⟩
theorem fX10_123 : zFLr RX10 123 6 4 := ⟨RX6, TX6, 6, tyX6, zc6, by decide, zin 180 (by decide +kernel) (by decide +kernel)⟩
theorem fX6_44 : zFL RX6 44 6 5 true (.object "FloodStones$Marks") := ⟨RX6, TX6, 6, tyX6, zc6, by decide, zin 181 (by decide +kernel) (by decide +kernel), by decide, rfl, by decide⟩
theorem fX10_145 : zFLr RX10 145 6 5 := ⟨RX6, TX6, 6, tyX6, zc6, by decide, zin 182 (by decide +kernel) (by decide +kernel)⟩
theorem fX3_18 : zFL RX3 18 3 0 true (.array (.object "FloodStones$River")) := ⟨RX3, TX3, 3, tyX3, zc3, by decide, zin 205 (by decide +kernel) (by decide +kernel), by decide, rfl, by decide⟩
theorem fX3_7 : zFL RX3 7 3 1 false (.int) := ⟨RX3, TX3, 3, tyX3, zc3, by decide, zin 206 (by decide +kernel) (by decide +kernel), by decide, rfl, by decide⟩
theorem fX3_13 : zFL RX3 13 3 2 false (.int) := ⟨RX3, TX3, 3, tyX3, zc3, by decide, zin 207 (by decide +kernel) (by decide +kernel), by decide, rfl, by decide⟩
theorem fX10_436 : zFL RX10 436 3 2 false (.int) := ⟨RX3, TX3, 3, tyX3, zc3, by decide, zin 208 (by decide +kernel) (by decide +kernel), by decide, rfl, by decide⟩
theorem fX5_7 : zFL RX5 7 5 0 false (.int) := ⟨RX5, TX5, 3, tyX5, zc5, by decide, zin 222 (by decide +kernel) (by decide +kernel), by decide, rfl, by decide⟩
theorem fX10_376 : zFL RX10 376 5 0 false (.int) := ⟨RX5, TX5, 3, tyX5, zc5, by decide, zin 223 (by decide +kernel) (by decide +kernel), by decide, rfl, by decide⟩
theorem fX5_13 : zFL RX5 13 5 1 false (.int) := ⟨RX5, TX5, 3, tyX5, zc5, by decide, zin 224 (by decide +kernel) (by decide +kernel), by decide, rfl, by decide⟩
theorem fX10_381 : zFL RX10 381 5 1 false (.int) := ⟨RX5, TX5, 3, tyX5, zc5, by decide, zin 225 (by decide +kernel) (by decide +kernel), by decide, rfl, by decide⟩
theorem fX5_16 : zFL RX5 16 5 2 false (.int) := ⟨RX5, TX5, 3, tyX5, zc5, by decide, zin 226 (by decide +kernel) (by decide +kernel), by decide, rfl, by decide⟩
theorem fX10_360 : zFL RX10 360 5 2 false (.int) := ⟨RX5, TX5, 3, tyX5, zc5, by decide, zin 227 (by decide +kernel) (by decide +kernel), by decide, rfl, by decide⟩
theorem fX9_9 : zFL RX9 9 9 0 true (.array .char) := ⟨RX9, TX9, 6, tyX9, zc9, by decide, zin 241 (by decide +kernel) (by decide +kernel), by decide, rfl, by decide⟩
theorem fX9_13 : zFL RX9 13 9 1 false (.int) := ⟨RX9, TX9, 6, tyX9, zc9, by decide, zin 242 (by decide +kernel) (by decide +kernel), by decide, rfl, by decide⟩
theorem fX10_437 : zFL RX10 437 9 1 false (.int) := ⟨RX9, TX9, 6, tyX9, zc9, by decide, zin 243 (by decide +kernel) (by decide +kernel), by decide, rfl, by decide⟩
theorem fX9_17 : zFL RX9 17 9 2 true (.array .int) := ⟨RX9, TX9, 6, tyX9, zc9, by decide, zin 244 (by decide +kernel) (by decide +kernel), by decide, rfl, by decide⟩
theorem fX9_21 : zFL RX9 21 9 3 true (.array .int) := ⟨RX9, TX9, 6, tyX9, zc9, by decide, zin 245 (by decide +kernel) (by decide +kernel), by decide, rfl, by decide⟩
theorem fX9_24 : zFL RX9 24 9 4 false (.int) := ⟨RX9, TX9, 6, tyX9, zc9, by decide, zin 246 (by decide +kernel) (by decide +kernel), by decide, rfl, by decide⟩
theorem fX10_354 : zFL RX10 354 9 4 false (.int) := ⟨RX9, TX9, 6, tyX9, zc9, by decide, zin 247 (by decide +kernel) (by decide +kernel), by decide, rfl, by decide⟩
theorem fX9_27 : zFL RX9 27 9 5 false (.int) := ⟨RX9, TX9, 6, tyX9, zc9, by decide, zin 248 (by decide +kernel) (by decide +kernel), by decide, rfl, by decide⟩
theorem fJ5_15 : zFL RJ5 15 7 0 false (.array .byte) := ⟨RJ4, TJ4, 4, tyJ4, zc7, by decide, zin 281 (by decide +kernel) (by decide +kernel), by decide, rfl, by decide⟩
theorem fJ5_22 : zFL RJ5 22 7 1 false (.byte) := ⟨RJ4, TJ4, 4, tyJ4, zc7, by decide, zin 282 (by decide +kernel) (by decide +kernel), by decide, rfl, by decide⟩
theorem fJ5_73 : zFL RJ5 73 7 2 false (.boolean) := ⟨RJ4, TJ4, 4, tyJ4, zc7, by decide, zin 283 (by decide +kernel) (by decide +kernel), by decide, rfl, by decide⟩
theorem fJ0_1048 : zFL RJ0 1048 7 2 false (.boolean) := ⟨RJ4, TJ4, 4, tyJ4, zc7, by decide, zin 284 (by decide +kernel) (by decide +kernel), by decide, rfl, by decide⟩
theorem fJ5_79 : zFL RJ5 79 7 3 false (.int) := ⟨RJ4, TJ4, 4, tyJ4, zc7, by decide, zin 285 (by decide +kernel) (by decide +kernel), by decide, rfl, by decide⟩
theorem fX10_10 : zFL RX10 10 10 0 true (.object "FloodStones$River") := ⟨RX10, TX10, 10, tyX10, zc10, by decide, zin 296 (by decide +kernel) (by decide +kernel), by decide, rfl, by decide⟩
theorem fX10_16 : zFL RX10 16 10 1 true (.object "FloodStones$River") := ⟨RX10, TX10, 10, tyX10, zc10, by decide, zin 297 (by decide +kernel) (by decide +kernel), by decide, rfl, by decide⟩
theorem fX10_19 : zFL RX10 19 10 2 true (.object "FloodStones$River") := ⟨RX10, TX10, 10, tyX10, zc10, by decide, zin 298 (by decide +kernel) (by decide +kernel), by decide, rfl, by decide⟩
theorem fX10_22 : zFL RX10 22 10 3 false (.boolean) := ⟨RX10, TX10, 10, tyX10, zc10, by decide, zin 299 (by decide +kernel) (by decide +kernel), by decide, rfl, by decide⟩
theorem fX10_31 : zFL RX10 31 10 4 true (.object "FloodStones$History") := ⟨RX10, TX10, 10, tyX10, zc10, by decide, zin 300 (by decide +kernel) (by decide +kernel), by decide, rfl, by decide⟩
theorem fX10_38 : zFL RX10 38 10 5 true (.object "FloodStones$Refusal") := ⟨RX10, TX10, 10, tyX10, zc10, by decide, zin 301 (by decide +kernel) (by decide +kernel), by decide, rfl, by decide⟩
theorem fX10_45 : zFL RX10 45 10 6 true (.object "FloodStones$Text") := ⟨RX10, TX10, 10, tyX10, zc10, by decide, zin 302 (by decide +kernel) (by decide +kernel), by decide, rfl, by decide⟩
theorem fX10_49 : zFL RX10 49 10 7 false (.int) := ⟨RX10, TX10, 10, tyX10, zc10, by decide, zin 303 (by decide +kernel) (by decide +kernel), by decide, rfl, by decide⟩
theorem fX10_56 : zFL RX10 56 10 8 true (.object "java/lang/StringBuilder") := ⟨RX10, TX10, 10, tyX10, zc10, by decide, zin 304 (by decide +kernel) (by decide +kernel), by decide, rfl, by decide⟩
theorem fX10_62 : zFL RX10 62 10 9 true (.array .int) := ⟨RX10, TX10, 10, tyX10, zc10, by decide, zin 305 (by decide +kernel) (by decide +kernel), by decide, rfl, by decide⟩
theorem fX11_7 : zFL RX11 7 11 0 true (.array .int) := ⟨RX11, TX11, 20, tyX11, zc11, by decide, zin 1496 (by decide +kernel) (by decide +kernel), by decide, rfl, by decide⟩
theorem fX11_13 : zFL RX11 13 11 1 true (.array .int) := ⟨RX11, TX11, 20, tyX11, zc11, by decide, zin 1497 (by decide +kernel) (by decide +kernel), by decide, rfl, by decide⟩
theorem fX11_16 : zFL RX11 16 11 2 true (.array .int) := ⟨RX11, TX11, 20, tyX11, zc11, by decide, zin 1498 (by decide +kernel) (by decide +kernel), by decide, rfl, by decide⟩
theorem fX11_19 : zFL RX11 19 11 3 true (.array .int) := ⟨RX11, TX11, 20, tyX11, zc11, by decide, zin 1499 (by decide +kernel) (by decide +kernel), by decide, rfl, by decide⟩
theorem fX11_239 : zFL RX11 239 11 4 false (.boolean) := ⟨RX11, TX11, 20, tyX11, zc11, by decide, zin 1500 (by decide +kernel) (by decide +kernel), by decide, rfl, by decide⟩
theorem fX11_55 : zFL RX11 55 11 5 false (.int) := ⟨RX11, TX11, 20, tyX11, zc11, by decide, zin 1501 (by decide +kernel) (by decide +kernel), by decide, rfl, by decide⟩
theorem fX11_45 : zFL RX11 45 11 6 false (.boolean) := ⟨RX11, TX11, 20, tyX11, zc11, by decide, zin 1502 (by decide +kernel) (by decide +kernel), by decide, rfl, by decide⟩
theorem fX11_36 : zFL RX11 36 11 7 false (.int) := ⟨RX11, TX11, 20, tyX11, zc11, by decide, zin 1503 (by decide +kernel) (by decide +kernel), by decide, rfl, by decide⟩
theorem fX11_39 : zFL RX11 39 11 8 false (.int) := ⟨RX11, TX11, 20, tyX11, zc11, by decide, zin 1504 (by decide +kernel) (by decide +kernel), by decide, rfl, by decide⟩
theorem fX11_42 : zFL RX11 42 11 9 false (.int) := ⟨RX11, TX11, 20, tyX11, zc11, by decide, zin 1505 (by decide +kernel) (by decide +kernel), by decide, rfl, by decide⟩
theorem fX11_52 : zFL RX11 52 11 10 false (.int) := ⟨RX11, TX11, 20, tyX11, zc11, by decide, zin 1506 (by decide +kernel) (by decide +kernel), by decide, rfl, by decide⟩
theorem fX11_49 : zFL RX11 49 11 11 false (.int) := ⟨RX11, TX11, 20, tyX11, zc11, by decide, zin 1507 (by decide +kernel) (by decide +kernel), by decide, rfl, by decide⟩
theorem fX11_22 : zFL RX11 22 11 12 true (.array .int) := ⟨RX11, TX11, 20, tyX11, zc11, by decide, zin 1508 (by decide +kernel) (by decide +kernel), by decide, rfl, by decide⟩
theorem fX11_177 : zFL RX11 177 11 13 false (.int) := ⟨RX11, TX11, 20, tyX11, zc11, by decide, zin 1509 (by decide +kernel) (by decide +kernel), by decide, rfl, by decide⟩
theorem fX11_25 : zFL RX11 25 11 14 false (.int) := ⟨RX11, TX11, 20, tyX11, zc11, by decide, zin 1510 (by decide +kernel) (by decide +kernel), by decide, rfl, by decide⟩
theorem fX11_29 : zFL RX11 29 11 15 true (.array .char) := ⟨RX11, TX11, 20, tyX11, zc11, by decide, zin 1511 (by decide +kernel) (by decide +kernel), by decide, rfl, by decide⟩
theorem fX11_223 : zFL RX11 223 11 16 false (.int) := ⟨RX11, TX11, 20, tyX11, zc11, by decide, zin 1512 (by decide +kernel) (by decide +kernel), by decide, rfl, by decide⟩
theorem fX11_180 : zFL RX11 180 11 17 false (.int) := ⟨RX11, TX11, 20, tyX11, zc11, by decide, zin 1513 (by decide +kernel) (by decide +kernel), by decide, rfl, by decide⟩
theorem fX11_33 : zFL RX11 33 11 18 true (.array .int) := ⟨RX11, TX11, 20, tyX11, zc11, by decide, zin 1514 (by decide +kernel) (by decide +kernel), by decide, rfl, by decide⟩
theorem fX11_186 : zFL RX11 186 11 19 false (.int) := ⟨RX11, TX11, 20, tyX11, zc11, by decide, zin 1515 (by decide +kernel) (by decide +kernel), by decide, rfl, by decide⟩
def zLS (own : String) (idx : Nat) (y : MethodName) : Prop := ∀ w ∈ ([.methodLink own idx y, .static y, .initialized y.cls] : List Cond), w ∈ lw_good
def zLV (own : String) (idx : Nat) (C : String) (y : MethodName) : Prop := ∀ w ∈ ([.methodLink own idx y, .instanceMethod y, .selects C y y, .initialized C] : List Cond), w ∈ lw_good
def zLI (own : String) (idx : Nat) (y : MethodName) : Prop := ∀ w ∈ ([.methodLink own idx y, .instanceMethod y, .initialized y.cls] : List Cond), w ∈ lw_good
theorem z3 {a b c : Cond} (ha : a ∈ lw_good) (hb : b ∈ lw_good) (hc : c ∈ lw_good) : ∀ w ∈ [a, b, c], w ∈ lw_good := by intro w h; simp only [List.mem_cons, List.not_mem_nil, or_false] at h; rcases h with rfl | rfl | rfl <;> assumption
theorem z4 {a b c d : Cond} (ha : a ∈ lw_good) (hb : b ∈ lw_good) (hc : c ∈ lw_good) (hd : d ∈ lw_good) : ∀ w ∈ [a, b, c, d], w ∈ lw_good := by intro w h; simp only [List.mem_cons, List.not_mem_nil, or_false] at h; rcases h with rfl | rfl | rfl | rfl <;> assumption
theorem lL_129 : zLI RL 129 yX10_init := z3 (zin 38 (by decide +kernel) (by decide +kernel)) (zin 39 (by decide +kernel) (by decide +kernel)) (zin 1 (by decide +kernel) (by decide +kernel))
theorem lX10_28 : zLI RX10 28 yX3_init := z3 (zin 198 (by decide +kernel) (by decide +kernel)) (zin 199 (by decide +kernel) (by decide +kernel)) (zin 8 (by decide +kernel) (by decide +kernel))
theorem lX10_55 : zLI RX10 55 yJ4_init_da8c8 := z3 (zin 265 (by decide +kernel) (by decide +kernel)) (zin 266 (by decide +kernel) (by decide +kernel)) (zin 12 (by decide +kernel) (by decide +kernel))
theorem lJ4_1 : zLI RJ4 1 yJ5_init_d00df := z3 (zin 268 (by decide +kernel) (by decide +kernel)) (zin 269 (by decide +kernel) (by decide +kernel)) (zin 11 (by decide +kernel) (by decide +kernel))
theorem lL_211 : zLV RL 211 RX10 yX10_doubts := z4 (zin 327 (by decide +kernel) (by decide +kernel)) (zin 328 (by decide +kernel) (by decide +kernel)) (zin 329 (by decide +kernel) (by decide +kernel)) (zin 1 (by decide +kernel) (by decide +kernel))
theorem lX10_324 : zLV RX10 324 RX6 yX6_doubtsByStones := z4 (zin 331 (by decide +kernel) (by decide +kernel)) (zin 332 (by decide +kernel) (by decide +kernel)) (zin 333 (by decide +kernel) (by decide +kernel)) (zin 2 (by decide +kernel) (by decide +kernel))
theorem lX6_172 : zLV RX6 172 RX6 yX6_doubtsOnStone := z4 (zin 335 (by decide +kernel) (by decide +kernel)) (zin 336 (by decide +kernel) (by decide +kernel)) (zin 337 (by decide +kernel) (by decide +kernel)) (zin 2 (by decide +kernel) (by decide +kernel))
theorem lX6_169 : zLV RX6 169 RX6 yX6_areInDoubt := z4 (zin 339 (by decide +kernel) (by decide +kernel)) (zin 340 (by decide +kernel) (by decide +kernel)) (zin 341 (by decide +kernel) (by decide +kernel)) (zin 2 (by decide +kernel) (by decide +kernel))
theorem lX6_93 : zLV RX6 93 RX4 yX4_has := z4 (zin 343 (by decide +kernel) (by decide +kernel)) (zin 344 (by decide +kernel) (by decide +kernel)) (zin 345 (by decide +kernel) (by decide +kernel)) (zin 7 (by decide +kernel) (by decide +kernel))
theorem lX4_39 : zLS RX4 39 yX4_cell := z3 (zin 347 (by decide +kernel) (by decide +kernel)) (zin 348 (by decide +kernel) (by decide +kernel)) (zin 7 (by decide +kernel) (by decide +kernel))
theorem lX4_43 : zLS RX4 43 yX7_at := z3 (zin 350 (by decide +kernel) (by decide +kernel)) (zin 351 (by decide +kernel) (by decide +kernel)) (zin 20 (by decide +kernel) (by decide +kernel))
theorem lX6_109 : zLS RX6 109 yX7_at := z3 (zin 353 (by decide +kernel) (by decide +kernel)) (zin 351 (by decide +kernel) (by decide +kernel)) (zin 20 (by decide +kernel) (by decide +kernel))
theorem lX6_166 : zLV RX6 166 RX6 yX6_trueHeight := z4 (zin 354 (by decide +kernel) (by decide +kernel)) (zin 355 (by decide +kernel) (by decide +kernel)) (zin 356 (by decide +kernel) (by decide +kernel)) (zin 2 (by decide +kernel) (by decide +kernel))
theorem lX6_95 : zLV RX6 95 RX4 yX4_heightAt := z4 (zin 358 (by decide +kernel) (by decide +kernel)) (zin 359 (by decide +kernel) (by decide +kernel)) (zin 360 (by decide +kernel) (by decide +kernel)) (zin 7 (by decide +kernel) (by decide +kernel))
theorem lX6_163 : zLV RX6 163 RX4 yX4_cutYearAt := z4 (zin 362 (by decide +kernel) (by decide +kernel)) (zin 363 (by decide +kernel) (by decide +kernel)) (zin 364 (by decide +kernel) (by decide +kernel)) (zin 7 (by decide +kernel) (by decide +kernel))
theorem lX6_160 : zLV RX6 160 RX1 yX1_shiftIn := z4 (zin 366 (by decide +kernel) (by decide +kernel)) (zin 367 (by decide +kernel) (by decide +kernel)) (zin 368 (by decide +kernel) (by decide +kernel)) (zin 5 (by decide +kernel) (by decide +kernel))
theorem lX1_26 : zLS RX1 26 yX7_at := z3 (zin 370 (by decide +kernel) (by decide +kernel)) (zin 351 (by decide +kernel) (by decide +kernel)) (zin 20 (by decide +kernel) (by decide +kernel))
theorem lL_215 : zLV RL 215 RX10 yX10_doubtsAgain := z4 (zin 371 (by decide +kernel) (by decide +kernel)) (zin 372 (by decide +kernel) (by decide +kernel)) (zin 373 (by decide +kernel) (by decide +kernel)) (zin 1 (by decide +kernel) (by decide +kernel))
theorem lX10_327 : zLV RX10 327 RX6 yX6_doubtsByFloods := z4 (zin 375 (by decide +kernel) (by decide +kernel)) (zin 376 (by decide +kernel) (by decide +kernel)) (zin 377 (by decide +kernel) (by decide +kernel)) (zin 2 (by decide +kernel) (by decide +kernel))
theorem lX6_175 : zLV RX6 175 RX6 yX6_doubtsOfFlood := z4 (zin 379 (by decide +kernel) (by decide +kernel)) (zin 380 (by decide +kernel) (by decide +kernel)) (zin 381 (by decide +kernel) (by decide +kernel)) (zin 2 (by decide +kernel) (by decide +kernel))
theorem lL_226 : zLV RL 226 RX10 yX10_faultPosition := z4 (zin 383 (by decide +kernel) (by decide +kernel)) (zin 384 (by decide +kernel) (by decide +kernel)) (zin 385 (by decide +kernel) (by decide +kernel)) (zin 1 (by decide +kernel) (by decide +kernel))
theorem lL_253 : zLV RL 253 RX10 yX10_save := z4 (zin 387 (by decide +kernel) (by decide +kernel)) (zin 388 (by decide +kernel) (by decide +kernel)) (zin 389 (by decide +kernel) (by decide +kernel)) (zin 1 (by decide +kernel) (by decide +kernel))
theorem lX10_351 : zLV RX10 351 RX6 yX6_copyFrom := z4 (zin 391 (by decide +kernel) (by decide +kernel)) (zin 392 (by decide +kernel) (by decide +kernel)) (zin 393 (by decide +kernel) (by decide +kernel)) (zin 2 (by decide +kernel) (by decide +kernel))
theorem lX6_48 : zLV RX6 48 RX8 yX8_copyFrom := z4 (zin 395 (by decide +kernel) (by decide +kernel)) (zin 396 (by decide +kernel) (by decide +kernel)) (zin 397 (by decide +kernel) (by decide +kernel)) (zin 3 (by decide +kernel) (by decide +kernel))
theorem lX8_26 : zLS RX8 26 yX7_copy := z3 (zin 399 (by decide +kernel) (by decide +kernel)) (zin 400 (by decide +kernel) (by decide +kernel)) (zin 20 (by decide +kernel) (by decide +kernel))
theorem lX7_7 : zLS RX7 7 yJ9_min_7cf53 := z3 (zin 402 (by decide +kernel) (by decide +kernel)) (zin 403 (by decide +kernel) (by decide +kernel)) (zin 21 (by decide +kernel) (by decide +kernel))
theorem lX6_52 : zLV RX6 52 RX2 yX2_copyFrom := z4 (zin 408 (by decide +kernel) (by decide +kernel)) (zin 409 (by decide +kernel) (by decide +kernel)) (zin 410 (by decide +kernel) (by decide +kernel)) (zin 4 (by decide +kernel) (by decide +kernel))
theorem lX2_23 : zLS RX2 23 yX7_copy := z3 (zin 412 (by decide +kernel) (by decide +kernel)) (zin 400 (by decide +kernel) (by decide +kernel)) (zin 20 (by decide +kernel) (by decide +kernel))
theorem lX6_55 : zLV RX6 55 RX1 yX1_copyFrom := z4 (zin 413 (by decide +kernel) (by decide +kernel)) (zin 414 (by decide +kernel) (by decide +kernel)) (zin 415 (by decide +kernel) (by decide +kernel)) (zin 5 (by decide +kernel) (by decide +kernel))
theorem lX1_20 : zLS RX1 20 yX7_copy := z3 (zin 417 (by decide +kernel) (by decide +kernel)) (zin 400 (by decide +kernel) (by decide +kernel)) (zin 20 (by decide +kernel) (by decide +kernel))
theorem lX6_58 : zLV RX6 58 RX0 yX0_copyFrom := z4 (zin 418 (by decide +kernel) (by decide +kernel)) (zin 419 (by decide +kernel) (by decide +kernel)) (zin 420 (by decide +kernel) (by decide +kernel)) (zin 6 (by decide +kernel) (by decide +kernel))
theorem lX0_17 : zLS RX0 17 yX7_copy := z3 (zin 422 (by decide +kernel) (by decide +kernel)) (zin 400 (by decide +kernel) (by decide +kernel)) (zin 20 (by decide +kernel) (by decide +kernel))
theorem lX6_61 : zLV RX6 61 RX4 yX4_copyFrom := z4 (zin 423 (by decide +kernel) (by decide +kernel)) (zin 424 (by decide +kernel) (by decide +kernel)) (zin 425 (by decide +kernel) (by decide +kernel)) (zin 7 (by decide +kernel) (by decide +kernel))
theorem lX4_33 : zLS RX4 33 yX7_copy := z3 (zin 427 (by decide +kernel) (by decide +kernel)) (zin 400 (by decide +kernel) (by decide +kernel)) (zin 20 (by decide +kernel) (by decide +kernel))
theorem lL_133 : zLS RL 133 yL_stone := z3 (zin 428 (by decide +kernel) (by decide +kernel)) (zin 429 (by decide +kernel) (by decide +kernel)) (zin 0 (by decide +kernel) (by decide +kernel))
theorem lL_7 : zLV RL 7 RX10 yX10_stone := z4 (zin 432 (by decide +kernel) (by decide +kernel)) (zin 433 (by decide +kernel) (by decide +kernel)) (zin 434 (by decide +kernel) (by decide +kernel)) (zin 1 (by decide +kernel) (by decide +kernel))
theorem lX10_66 : zLV RX10 66 RX6 yX6_refusesStone := z4 (zin 436 (by decide +kernel) (by decide +kernel)) (zin 437 (by decide +kernel) (by decide +kernel)) (zin 438 (by decide +kernel) (by decide +kernel)) (zin 2 (by decide +kernel) (by decide +kernel))
theorem lX6_64 : zLS RX6 64 yX6_isOutside := z3 (zin 440 (by decide +kernel) (by decide +kernel)) (zin 441 (by decide +kernel) (by decide +kernel)) (zin 2 (by decide +kernel) (by decide +kernel))
theorem lX6_70 : zLV RX6 70 RX5 yX5_give := z4 (zin 443 (by decide +kernel) (by decide +kernel)) (zin 444 (by decide +kernel) (by decide +kernel)) (zin 445 (by decide +kernel) (by decide +kernel)) (zin 9 (by decide +kernel) (by decide +kernel))
theorem lX10_77 : zLV RX10 77 RX3 yX3_keep := z4 (zin 519 (by decide +kernel) (by decide +kernel)) (zin 520 (by decide +kernel) (by decide +kernel)) (zin 521 (by decide +kernel) (by decide +kernel)) (zin 8 (by decide +kernel) (by decide +kernel))
theorem lX3_23 : zLV RX3 23 RX3 yX3_slotAt := z4 (zin 523 (by decide +kernel) (by decide +kernel)) (zin 525 (by decide +kernel) (by decide +kernel)) (zsel 1 (by decide +kernel) (by decide +kernel)) (zin 8 (by decide +kernel) (by decide +kernel))
theorem lX3_27 : zLV RX3 27 RX6 yX6_copyFrom := z4 (zin 527 (by decide +kernel) (by decide +kernel)) (zin 392 (by decide +kernel) (by decide +kernel)) (zin 393 (by decide +kernel) (by decide +kernel)) (zin 2 (by decide +kernel) (by decide +kernel))
theorem lX3_31 : zLS RX3 31 yJ9_min_7cf53 := z3 (zin 528 (by decide +kernel) (by decide +kernel)) (zin 403 (by decide +kernel) (by decide +kernel)) (zin 21 (by decide +kernel) (by decide +kernel))
theorem lX10_85 : zLV RX10 85 RX8 yX8_add := z4 (zin 529 (by decide +kernel) (by decide +kernel)) (zin 530 (by decide +kernel) (by decide +kernel)) (zin 531 (by decide +kernel) (by decide +kernel)) (zin 3 (by decide +kernel) (by decide +kernel))
theorem lX8_32 : zLS RX8 32 yX7_set := z3 (zin 533 (by decide +kernel) (by decide +kernel)) (zin 534 (by decide +kernel) (by decide +kernel)) (zin 20 (by decide +kernel) (by decide +kernel))
theorem lL_142 : zLS RL 142 yL_flood := z3 (zin 536 (by decide +kernel) (by decide +kernel)) (zin 537 (by decide +kernel) (by decide +kernel)) (zin 0 (by decide +kernel) (by decide +kernel))
theorem lL_15 : zLV RL 15 RX10 yX10_flood := z4 (zin 539 (by decide +kernel) (by decide +kernel)) (zin 540 (by decide +kernel) (by decide +kernel)) (zin 541 (by decide +kernel) (by decide +kernel)) (zin 1 (by decide +kernel) (by decide +kernel))
theorem lX10_91 : zLV RX10 91 RX6 yX6_refusesFlood := z4 (zin 543 (by decide +kernel) (by decide +kernel)) (zin 544 (by decide +kernel) (by decide +kernel)) (zin 545 (by decide +kernel) (by decide +kernel)) (zin 2 (by decide +kernel) (by decide +kernel))
theorem lX6_77 : zLV RX6 77 RX2 yX2_findYear := z4 (zin 547 (by decide +kernel) (by decide +kernel)) (zin 548 (by decide +kernel) (by decide +kernel)) (zin 549 (by decide +kernel) (by decide +kernel)) (zin 4 (by decide +kernel) (by decide +kernel))
theorem lX2_33 : zLS RX2 33 yX7_at := z3 (zin 551 (by decide +kernel) (by decide +kernel)) (zin 351 (by decide +kernel) (by decide +kernel)) (zin 20 (by decide +kernel) (by decide +kernel))
theorem lX10_100 : zLV RX10 100 RX2 yX2_add := z4 (zin 553 (by decide +kernel) (by decide +kernel)) (zin 554 (by decide +kernel) (by decide +kernel)) (zin 555 (by decide +kernel) (by decide +kernel)) (zin 4 (by decide +kernel) (by decide +kernel))
theorem lX2_29 : zLS RX2 29 yX7_set := z3 (zin 557 (by decide +kernel) (by decide +kernel)) (zin 534 (by decide +kernel) (by decide +kernel)) (zin 20 (by decide +kernel) (by decide +kernel))
theorem lL_145 : zLS RL 145 yL_epoch := z3 (zin 558 (by decide +kernel) (by decide +kernel)) (zin 559 (by decide +kernel) (by decide +kernel)) (zin 0 (by decide +kernel) (by decide +kernel))
theorem lL_18 : zLV RL 18 RX10 yX10_epoch := z4 (zin 561 (by decide +kernel) (by decide +kernel)) (zin 562 (by decide +kernel) (by decide +kernel)) (zin 563 (by decide +kernel) (by decide +kernel)) (zin 1 (by decide +kernel) (by decide +kernel))
theorem lX10_101 : zLV RX10 101 RX6 yX6_refusesEpoch := z4 (zin 565 (by decide +kernel) (by decide +kernel)) (zin 566 (by decide +kernel) (by decide +kernel)) (zin 567 (by decide +kernel) (by decide +kernel)) (zin 2 (by decide +kernel) (by decide +kernel))
theorem lX6_83 : zLV RX6 83 RX1 yX1_find := z4 (zin 569 (by decide +kernel) (by decide +kernel)) (zin 570 (by decide +kernel) (by decide +kernel)) (zin 571 (by decide +kernel) (by decide +kernel)) (zin 5 (by decide +kernel) (by decide +kernel))
theorem lX10_111 : zLV RX10 111 RX1 yX1_tell := z4 (zin 574 (by decide +kernel) (by decide +kernel)) (zin 575 (by decide +kernel) (by decide +kernel)) (zin 576 (by decide +kernel) (by decide +kernel)) (zin 5 (by decide +kernel) (by decide +kernel))
theorem lX1_30 : zLV RX1 30 RX1 yX1_find := z4 (zin 578 (by decide +kernel) (by decide +kernel)) (zin 570 (by decide +kernel) (by decide +kernel)) (zin 571 (by decide +kernel) (by decide +kernel)) (zin 5 (by decide +kernel) (by decide +kernel))
theorem lX1_34 : zLS RX1 34 yX7_set := z3 (zin 579 (by decide +kernel) (by decide +kernel)) (zin 534 (by decide +kernel) (by decide +kernel)) (zin 20 (by decide +kernel) (by decide +kernel))
theorem lL_149 : zLS RL 149 yL_chisel := z3 (zin 580 (by decide +kernel) (by decide +kernel)) (zin 581 (by decide +kernel) (by decide +kernel)) (zin 0 (by decide +kernel) (by decide +kernel))
theorem lL_22 : zLV RL 22 RX10 yX10_chisel := z4 (zin 583 (by decide +kernel) (by decide +kernel)) (zin 584 (by decide +kernel) (by decide +kernel)) (zin 585 (by decide +kernel) (by decide +kernel)) (zin 1 (by decide +kernel) (by decide +kernel))
theorem lX10_117 : zLV RX10 117 RX6 yX6_refusesChisel := z4 (zin 587 (by decide +kernel) (by decide +kernel)) (zin 588 (by decide +kernel) (by decide +kernel)) (zin 589 (by decide +kernel) (by decide +kernel)) (zin 2 (by decide +kernel) (by decide +kernel))
theorem lX10_127 : zLV RX10 127 RX0 yX0_add := z4 (zin 592 (by decide +kernel) (by decide +kernel)) (zin 593 (by decide +kernel) (by decide +kernel)) (zin 594 (by decide +kernel) (by decide +kernel)) (zin 6 (by decide +kernel) (by decide +kernel))
theorem lX0_23 : zLS RX0 23 yX7_set := z3 (zin 596 (by decide +kernel) (by decide +kernel)) (zin 534 (by decide +kernel) (by decide +kernel)) (zin 20 (by decide +kernel) (by decide +kernel))
theorem lL_153 : zLS RL 153 yL_cut := z3 (zin 597 (by decide +kernel) (by decide +kernel)) (zin 598 (by decide +kernel) (by decide +kernel)) (zin 0 (by decide +kernel) (by decide +kernel))
theorem lL_26 : zLV RL 26 RX10 yX10_cut := z4 (zin 600 (by decide +kernel) (by decide +kernel)) (zin 601 (by decide +kernel) (by decide +kernel)) (zin 602 (by decide +kernel) (by decide +kernel)) (zin 1 (by decide +kernel) (by decide +kernel))
theorem lX10_132 : zLV RX10 132 RX6 yX6_refusesCut := z4 (zin 604 (by decide +kernel) (by decide +kernel)) (zin 605 (by decide +kernel) (by decide +kernel)) (zin 606 (by decide +kernel) (by decide +kernel)) (zin 2 (by decide +kernel) (by decide +kernel))
theorem lX6_87 : zLV RX6 87 RX8 yX8_has := z4 (zin 608 (by decide +kernel) (by decide +kernel)) (zin 609 (by decide +kernel) (by decide +kernel)) (zin 610 (by decide +kernel) (by decide +kernel)) (zin 3 (by decide +kernel) (by decide +kernel))
theorem lX6_91 : zLV RX6 91 RX2 yX2_has := z4 (zin 612 (by decide +kernel) (by decide +kernel)) (zin 613 (by decide +kernel) (by decide +kernel)) (zin 614 (by decide +kernel) (by decide +kernel)) (zin 4 (by decide +kernel) (by decide +kernel))
theorem lX6_92 : zLV RX6 92 RX0 yX0_has := z4 (zin 616 (by decide +kernel) (by decide +kernel)) (zin 617 (by decide +kernel) (by decide +kernel)) (zin 618 (by decide +kernel) (by decide +kernel)) (zin 6 (by decide +kernel) (by decide +kernel))
theorem lX6_99 : zLV RX6 99 RX6 yX6_levelAt := z4 (zin 620 (by decide +kernel) (by decide +kernel)) (zin 621 (by decide +kernel) (by decide +kernel)) (zin 622 (by decide +kernel) (by decide +kernel)) (zin 2 (by decide +kernel) (by decide +kernel))
theorem lX6_157 : zLV RX6 157 RX8 yX8_loss := z4 (zin 624 (by decide +kernel) (by decide +kernel)) (zin 625 (by decide +kernel) (by decide +kernel)) (zin 626 (by decide +kernel) (by decide +kernel)) (zin 3 (by decide +kernel) (by decide +kernel))
theorem lX8_36 : zLS RX8 36 yX7_at := z3 (zin 628 (by decide +kernel) (by decide +kernel)) (zin 351 (by decide +kernel) (by decide +kernel)) (zin 20 (by decide +kernel) (by decide +kernel))
theorem lX6_102 : zLV RX6 102 RX6 yX6_readingAt := z4 (zin 629 (by decide +kernel) (by decide +kernel)) (zin 630 (by decide +kernel) (by decide +kernel)) (zin 631 (by decide +kernel) (by decide +kernel)) (zin 2 (by decide +kernel) (by decide +kernel))
theorem lX6_118 : zLV RX6 118 RX4 yX4_floodAtHeight := z4 (zin 633 (by decide +kernel) (by decide +kernel)) (zin 634 (by decide +kernel) (by decide +kernel)) (zin 635 (by decide +kernel) (by decide +kernel)) (zin 7 (by decide +kernel) (by decide +kernel))
theorem lX4_54 : zLV RX4 54 RX4 yX4_has := z4 (zin 637 (by decide +kernel) (by decide +kernel)) (zin 344 (by decide +kernel) (by decide +kernel)) (zin 345 (by decide +kernel) (by decide +kernel)) (zin 7 (by decide +kernel) (by decide +kernel))
theorem lX4_51 : zLV RX4 51 RX4 yX4_heightAt := z4 (zin 638 (by decide +kernel) (by decide +kernel)) (zin 359 (by decide +kernel) (by decide +kernel)) (zin 360 (by decide +kernel) (by decide +kernel)) (zin 7 (by decide +kernel) (by decide +kernel))
theorem lX6_121 : zLV RX6 121 RX4 yX4_countOn := z4 (zin 639 (by decide +kernel) (by decide +kernel)) (zin 640 (by decide +kernel) (by decide +kernel)) (zin 641 (by decide +kernel) (by decide +kernel)) (zin 7 (by decide +kernel) (by decide +kernel))
theorem lX10_137 : zLV RX10 137 RX6 yX6_cutMark := z4 (zin 644 (by decide +kernel) (by decide +kernel)) (zin 645 (by decide +kernel) (by decide +kernel)) (zin 646 (by decide +kernel) (by decide +kernel)) (zin 2 (by decide +kernel) (by decide +kernel))
theorem lX6_127 : zLS RX6 127 yX4_cell := z3 (zin 648 (by decide +kernel) (by decide +kernel)) (zin 348 (by decide +kernel) (by decide +kernel)) (zin 7 (by decide +kernel) (by decide +kernel))
theorem lX6_130 : zLV RX6 130 RX4 yX4_add := z4 (zin 649 (by decide +kernel) (by decide +kernel)) (zin 650 (by decide +kernel) (by decide +kernel)) (zin 651 (by decide +kernel) (by decide +kernel)) (zin 7 (by decide +kernel) (by decide +kernel))
theorem lX4_47 : zLS RX4 47 yX7_set := z3 (zin 653 (by decide +kernel) (by decide +kernel)) (zin 534 (by decide +kernel) (by decide +kernel)) (zin 20 (by decide +kernel) (by decide +kernel))
theorem lX6_134 : zLV RX6 134 RX0 yX0_blunt := z4 (zin 654 (by decide +kernel) (by decide +kernel)) (zin 655 (by decide +kernel) (by decide +kernel)) (zin 656 (by decide +kernel) (by decide +kernel)) (zin 6 (by decide +kernel) (by decide +kernel))
theorem lX0_27 : zLS RX0 27 yX7_at := z3 (zin 658 (by decide +kernel) (by decide +kernel)) (zin 351 (by decide +kernel) (by decide +kernel)) (zin 20 (by decide +kernel) (by decide +kernel))
theorem lL_156 : zLS RL 156 yL_efface := z3 (zin 659 (by decide +kernel) (by decide +kernel)) (zin 660 (by decide +kernel) (by decide +kernel)) (zin 0 (by decide +kernel) (by decide +kernel))
theorem lL_29 : zLV RL 29 RX10 yX10_efface := z4 (zin 662 (by decide +kernel) (by decide +kernel)) (zin 663 (by decide +kernel) (by decide +kernel)) (zin 664 (by decide +kernel) (by decide +kernel)) (zin 1 (by decide +kernel) (by decide +kernel))
theorem lX10_140 : zLV RX10 140 RX6 yX6_refusesEfface := z4 (zin 666 (by decide +kernel) (by decide +kernel)) (zin 667 (by decide +kernel) (by decide +kernel)) (zin 668 (by decide +kernel) (by decide +kernel)) (zin 2 (by decide +kernel) (by decide +kernel))
theorem lX10_149 : zLV RX10 149 RX4 yX4_takeOff := z4 (zin 671 (by decide +kernel) (by decide +kernel)) (zin 672 (by decide +kernel) (by decide +kernel)) (zin 673 (by decide +kernel) (by decide +kernel)) (zin 7 (by decide +kernel) (by decide +kernel))
theorem lL_159 : zLS RL 159 yL_sharpen := z3 (zin 675 (by decide +kernel) (by decide +kernel)) (zin 676 (by decide +kernel) (by decide +kernel)) (zin 0 (by decide +kernel) (by decide +kernel))
theorem lL_32 : zLV RL 32 RX10 yX10_sharpen := z4 (zin 678 (by decide +kernel) (by decide +kernel)) (zin 679 (by decide +kernel) (by decide +kernel)) (zin 680 (by decide +kernel) (by decide +kernel)) (zin 1 (by decide +kernel) (by decide +kernel))
theorem lX10_154 : zLV RX10 154 RX6 yX6_refusesSharpen := z4 (zin 682 (by decide +kernel) (by decide +kernel)) (zin 683 (by decide +kernel) (by decide +kernel)) (zin 684 (by decide +kernel) (by decide +kernel)) (zin 2 (by decide +kernel) (by decide +kernel))
theorem lX10_160 : zLV RX10 160 RX0 yX0_renew := z4 (zin 687 (by decide +kernel) (by decide +kernel)) (zin 688 (by decide +kernel) (by decide +kernel)) (zin 689 (by decide +kernel) (by decide +kernel)) (zin 6 (by decide +kernel) (by decide +kernel))
theorem lL_163 : zLS RL 163 yL_check := z3 (zin 691 (by decide +kernel) (by decide +kernel)) (zin 692 (by decide +kernel) (by decide +kernel)) (zin 0 (by decide +kernel) (by decide +kernel))
theorem lL_36 : zLV RL 36 RX10 yX10_check := z4 (zin 694 (by decide +kernel) (by decide +kernel)) (zin 695 (by decide +kernel) (by decide +kernel)) (zin 696 (by decide +kernel) (by decide +kernel)) (zin 1 (by decide +kernel) (by decide +kernel))
theorem lX10_164 : zLV RX10 164 RX6 yX6_refusesCheck := z4 (zin 698 (by decide +kernel) (by decide +kernel)) (zin 699 (by decide +kernel) (by decide +kernel)) (zin 700 (by decide +kernel) (by decide +kernel)) (zin 2 (by decide +kernel) (by decide +kernel))
theorem lX10_169 : zLV RX10 169 RX8 yX8_setRight := z4 (zin 703 (by decide +kernel) (by decide +kernel)) (zin 704 (by decide +kernel) (by decide +kernel)) (zin 705 (by decide +kernel) (by decide +kernel)) (zin 3 (by decide +kernel) (by decide +kernel))
theorem lL_166 : zLS RL 166 yL_witness := z3 (zin 707 (by decide +kernel) (by decide +kernel)) (zin 708 (by decide +kernel) (by decide +kernel)) (zin 0 (by decide +kernel) (by decide +kernel))
theorem lL_39 : zLV RL 39 RX10 yX10_witness := z4 (zin 710 (by decide +kernel) (by decide +kernel)) (zin 711 (by decide +kernel) (by decide +kernel)) (zin 712 (by decide +kernel) (by decide +kernel)) (zin 1 (by decide +kernel) (by decide +kernel))
theorem lX10_172 : zLV RX10 172 RX6 yX6_refusesWitness := z4 (zin 714 (by decide +kernel) (by decide +kernel)) (zin 715 (by decide +kernel) (by decide +kernel)) (zin 716 (by decide +kernel) (by decide +kernel)) (zin 2 (by decide +kernel) (by decide +kernel))
theorem lX10_177 : zLV RX10 177 RX2 yX2_addWitnesses := z4 (zin 719 (by decide +kernel) (by decide +kernel)) (zin 720 (by decide +kernel) (by decide +kernel)) (zin 721 (by decide +kernel) (by decide +kernel)) (zin 4 (by decide +kernel) (by decide +kernel))
theorem lL_169 : zLS RL 169 yL_years := z3 (zin 723 (by decide +kernel) (by decide +kernel)) (zin 724 (by decide +kernel) (by decide +kernel)) (zin 0 (by decide +kernel) (by decide +kernel))
theorem lL_42 : zLV RL 42 RX10 yX10_years := z4 (zin 726 (by decide +kernel) (by decide +kernel)) (zin 727 (by decide +kernel) (by decide +kernel)) (zin 728 (by decide +kernel) (by decide +kernel)) (zin 1 (by decide +kernel) (by decide +kernel))
theorem lX10_180 : zLV RX10 180 RX6 yX6_refusesYears := z4 (zin 730 (by decide +kernel) (by decide +kernel)) (zin 731 (by decide +kernel) (by decide +kernel)) (zin 732 (by decide +kernel) (by decide +kernel)) (zin 2 (by decide +kernel) (by decide +kernel))
theorem lX10_185 : zLV RX10 185 RX6 yX6_passYears := z4 (zin 735 (by decide +kernel) (by decide +kernel)) (zin 736 (by decide +kernel) (by decide +kernel)) (zin 737 (by decide +kernel) (by decide +kernel)) (zin 2 (by decide +kernel) (by decide +kernel))
theorem lX6_138 : zLV RX6 138 RX8 yX8_driftAll := z4 (zin 739 (by decide +kernel) (by decide +kernel)) (zin 740 (by decide +kernel) (by decide +kernel)) (zin 741 (by decide +kernel) (by decide +kernel)) (zin 3 (by decide +kernel) (by decide +kernel))
theorem lX8_40 : zLS RX8 40 yX8_drift := z3 (zin 743 (by decide +kernel) (by decide +kernel)) (zin 744 (by decide +kernel) (by decide +kernel)) (zin 3 (by decide +kernel) (by decide +kernel))
theorem lX8_44 : zLS RX8 44 yJ9_min_7cf53 := z3 (zin 746 (by decide +kernel) (by decide +kernel)) (zin 403 (by decide +kernel) (by decide +kernel)) (zin 21 (by decide +kernel) (by decide +kernel))
theorem lX8_50 : zLS RX8 50 yJ9_max_7cf53 := z3 (zin 747 (by decide +kernel) (by decide +kernel)) (zin 748 (by decide +kernel) (by decide +kernel)) (zin 21 (by decide +kernel) (by decide +kernel))
theorem lX6_141 : zLV RX6 141 RX4 yX4_weatherAll := z4 (zin 750 (by decide +kernel) (by decide +kernel)) (zin 751 (by decide +kernel) (by decide +kernel)) (zin 752 (by decide +kernel) (by decide +kernel)) (zin 7 (by decide +kernel) (by decide +kernel))
theorem lL_172 : zLS RL 172 yL_stoneOf := z3 (zin 754 (by decide +kernel) (by decide +kernel)) (zin 755 (by decide +kernel) (by decide +kernel)) (zin 0 (by decide +kernel) (by decide +kernel))
theorem lL_45 : zLV RL 45 RX10 yX10_stoneOf := z4 (zin 782 (by decide +kernel) (by decide +kernel)) (zin 783 (by decide +kernel) (by decide +kernel)) (zin 784 (by decide +kernel) (by decide +kernel)) (zin 1 (by decide +kernel) (by decide +kernel))
theorem lX10_188 : zLV RX10 188 RX8 yX8_has := z4 (zin 786 (by decide +kernel) (by decide +kernel)) (zin 609 (by decide +kernel) (by decide +kernel)) (zin 610 (by decide +kernel) (by decide +kernel)) (zin 3 (by decide +kernel) (by decide +kernel))
theorem lX10_200 : zLS RX10 200 yX7_at := z3 (zin 800 (by decide +kernel) (by decide +kernel)) (zin 351 (by decide +kernel) (by decide +kernel)) (zin 20 (by decide +kernel) (by decide +kernel))
theorem lX10_215 : zLV RX10 215 RX4 yX4_countOn := z4 (zin 801 (by decide +kernel) (by decide +kernel)) (zin 640 (by decide +kernel) (by decide +kernel)) (zin 641 (by decide +kernel) (by decide +kernel)) (zin 7 (by decide +kernel) (by decide +kernel))
theorem lX10_218 : zLV RX10 218 RX6 yX6_doubtsOnStone := z4 (zin 802 (by decide +kernel) (by decide +kernel)) (zin 336 (by decide +kernel) (by decide +kernel)) (zin 337 (by decide +kernel) (by decide +kernel)) (zin 2 (by decide +kernel) (by decide +kernel))
theorem lL_175 : zLS RL 175 yL_floodOf := z3 (zin 819 (by decide +kernel) (by decide +kernel)) (zin 820 (by decide +kernel) (by decide +kernel)) (zin 0 (by decide +kernel) (by decide +kernel))
theorem lL_52 : zLV RL 52 RX10 yX10_floodOf := z4 (zin 822 (by decide +kernel) (by decide +kernel)) (zin 823 (by decide +kernel) (by decide +kernel)) (zin 824 (by decide +kernel) (by decide +kernel)) (zin 1 (by decide +kernel) (by decide +kernel))
theorem lX10_226 : zLV RX10 226 RX2 yX2_has := z4 (zin 826 (by decide +kernel) (by decide +kernel)) (zin 613 (by decide +kernel) (by decide +kernel)) (zin 614 (by decide +kernel) (by decide +kernel)) (zin 4 (by decide +kernel) (by decide +kernel))
theorem lX10_238 : zLV RX10 238 RX4 yX4_countFor := z4 (zin 828 (by decide +kernel) (by decide +kernel)) (zin 829 (by decide +kernel) (by decide +kernel)) (zin 830 (by decide +kernel) (by decide +kernel)) (zin 7 (by decide +kernel) (by decide +kernel))
theorem lX10_241 : zLV RX10 241 RX6 yX6_doubtsOfFlood := z4 (zin 832 (by decide +kernel) (by decide +kernel)) (zin 380 (by decide +kernel) (by decide +kernel)) (zin 381 (by decide +kernel) (by decide +kernel)) (zin 2 (by decide +kernel) (by decide +kernel))
theorem lX10_244 : zLV RX10 244 RX6 yX6_creditOf := z4 (zin 833 (by decide +kernel) (by decide +kernel)) (zin 834 (by decide +kernel) (by decide +kernel)) (zin 835 (by decide +kernel) (by decide +kernel)) (zin 2 (by decide +kernel) (by decide +kernel))
theorem lX6_178 : zLS RX6 178 yJ9_max_7cf53 := z3 (zin 837 (by decide +kernel) (by decide +kernel)) (zin 748 (by decide +kernel) (by decide +kernel)) (zin 21 (by decide +kernel) (by decide +kernel))
theorem lL_178 : zLS RL 178 yL_floodIn := z3 (zin 838 (by decide +kernel) (by decide +kernel)) (zin 839 (by decide +kernel) (by decide +kernel)) (zin 0 (by decide +kernel) (by decide +kernel))
theorem lL_55 : zLV RL 55 RX10 yX10_floodIn := z4 (zin 842 (by decide +kernel) (by decide +kernel)) (zin 843 (by decide +kernel) (by decide +kernel)) (zin 844 (by decide +kernel) (by decide +kernel)) (zin 1 (by decide +kernel) (by decide +kernel))
theorem lX10_247 : zLV RX10 247 RX2 yX2_findYear := z4 (zin 846 (by decide +kernel) (by decide +kernel)) (zin 548 (by decide +kernel) (by decide +kernel)) (zin 549 (by decide +kernel) (by decide +kernel)) (zin 4 (by decide +kernel) (by decide +kernel))
theorem lL_181 : zLS RL 181 yL_before := z3 (zin 863 (by decide +kernel) (by decide +kernel)) (zin 864 (by decide +kernel) (by decide +kernel)) (zin 0 (by decide +kernel) (by decide +kernel))
theorem lL_60 : zLV RL 60 RX10 yX10_before := z4 (zin 866 (by decide +kernel) (by decide +kernel)) (zin 867 (by decide +kernel) (by decide +kernel)) (zin 868 (by decide +kernel) (by decide +kernel)) (zin 1 (by decide +kernel) (by decide +kernel))
theorem lX10_255 : zLV RX10 255 RX2 yX2_findLatestAhead := z4 (zin 870 (by decide +kernel) (by decide +kernel)) (zin 871 (by decide +kernel) (by decide +kernel)) (zin 872 (by decide +kernel) (by decide +kernel)) (zin 4 (by decide +kernel) (by decide +kernel))
theorem lL_184 : zLS RL 184 yL_edge := z3 (zin 875 (by decide +kernel) (by decide +kernel)) (zin 876 (by decide +kernel) (by decide +kernel)) (zin 0 (by decide +kernel) (by decide +kernel))
theorem lL_63 : zLV RL 63 RX10 yX10_edge := z4 (zin 878 (by decide +kernel) (by decide +kernel)) (zin 879 (by decide +kernel) (by decide +kernel)) (zin 880 (by decide +kernel) (by decide +kernel)) (zin 1 (by decide +kernel) (by decide +kernel))
theorem lX10_260 : zLV RX10 260 RX0 yX0_has := z4 (zin 882 (by decide +kernel) (by decide +kernel)) (zin 617 (by decide +kernel) (by decide +kernel)) (zin 618 (by decide +kernel) (by decide +kernel)) (zin 6 (by decide +kernel) (by decide +kernel))
theorem lL_187 : zLS RL 187 yL_markOf := z3 (zin 884 (by decide +kernel) (by decide +kernel)) (zin 885 (by decide +kernel) (by decide +kernel)) (zin 0 (by decide +kernel) (by decide +kernel))
theorem lL_66 : zLV RL 66 RX10 yX10_markOf := z4 (zin 887 (by decide +kernel) (by decide +kernel)) (zin 888 (by decide +kernel) (by decide +kernel)) (zin 889 (by decide +kernel) (by decide +kernel)) (zin 1 (by decide +kernel) (by decide +kernel))
theorem lX10_270 : zLV RX10 270 RX4 yX4_has := z4 (zin 893 (by decide +kernel) (by decide +kernel)) (zin 344 (by decide +kernel) (by decide +kernel)) (zin 345 (by decide +kernel) (by decide +kernel)) (zin 7 (by decide +kernel) (by decide +kernel))
theorem lX10_275 : zLV RX10 275 RX4 yX4_heightAt := z4 (zin 895 (by decide +kernel) (by decide +kernel)) (zin 359 (by decide +kernel) (by decide +kernel)) (zin 360 (by decide +kernel) (by decide +kernel)) (zin 7 (by decide +kernel) (by decide +kernel))
theorem lX10_278 : zLV RX10 278 RX4 yX4_depthAt := z4 (zin 896 (by decide +kernel) (by decide +kernel)) (zin 897 (by decide +kernel) (by decide +kernel)) (zin 898 (by decide +kernel) (by decide +kernel)) (zin 7 (by decide +kernel) (by decide +kernel))
theorem lX10_281 : zLV RX10 281 RX4 yX4_cutYearAt := z4 (zin 900 (by decide +kernel) (by decide +kernel)) (zin 363 (by decide +kernel) (by decide +kernel)) (zin 364 (by decide +kernel) (by decide +kernel)) (zin 7 (by decide +kernel) (by decide +kernel))
theorem lX10_284 : zLV RX10 284 RX6 yX6_trueHeight := z4 (zin 901 (by decide +kernel) (by decide +kernel)) (zin 355 (by decide +kernel) (by decide +kernel)) (zin 356 (by decide +kernel) (by decide +kernel)) (zin 2 (by decide +kernel) (by decide +kernel))
theorem lX10_287 : zLV RX10 287 RX6 yX6_yearsLeft := z4 (zin 902 (by decide +kernel) (by decide +kernel)) (zin 903 (by decide +kernel) (by decide +kernel)) (zin 904 (by decide +kernel) (by decide +kernel)) (zin 2 (by decide +kernel) (by decide +kernel))
theorem lX6_151 : zLV RX6 151 RX4 yX4_depthAt := z4 (zin 906 (by decide +kernel) (by decide +kernel)) (zin 897 (by decide +kernel) (by decide +kernel)) (zin 898 (by decide +kernel) (by decide +kernel)) (zin 7 (by decide +kernel) (by decide +kernel))
theorem lL_190 : zLS RL 190 yL_mark := z3 (zin 907 (by decide +kernel) (by decide +kernel)) (zin 908 (by decide +kernel) (by decide +kernel)) (zin 0 (by decide +kernel) (by decide +kernel))
theorem lL_69 : zLV RL 69 RX10 yX10_mark := z4 (zin 910 (by decide +kernel) (by decide +kernel)) (zin 911 (by decide +kernel) (by decide +kernel)) (zin 912 (by decide +kernel) (by decide +kernel)) (zin 1 (by decide +kernel) (by decide +kernel))
theorem lX10_290 : zLV RX10 290 RX4 yX4_floodAtPlace := z4 (zin 914 (by decide +kernel) (by decide +kernel)) (zin 915 (by decide +kernel) (by decide +kernel)) (zin 916 (by decide +kernel) (by decide +kernel)) (zin 7 (by decide +kernel) (by decide +kernel))
theorem lX4_62 : zLV RX4 62 RX4 yX4_countLower := z4 (zin 918 (by decide +kernel) (by decide +kernel)) (zin 920 (by decide +kernel) (by decide +kernel)) (zsel 2 (by decide +kernel) (by decide +kernel)) (zin 7 (by decide +kernel) (by decide +kernel))
theorem lL_193 : zLS RL 193 yL_level := z3 (zin 923 (by decide +kernel) (by decide +kernel)) (zin 924 (by decide +kernel) (by decide +kernel)) (zin 0 (by decide +kernel) (by decide +kernel))
theorem lL_72 : zLV RL 72 RX10 yX10_level := z4 (zin 926 (by decide +kernel) (by decide +kernel)) (zin 927 (by decide +kernel) (by decide +kernel)) (zin 928 (by decide +kernel) (by decide +kernel)) (zin 1 (by decide +kernel) (by decide +kernel))
theorem lX10_295 : zLV RX10 295 RX6 yX6_levelAt := z4 (zin 930 (by decide +kernel) (by decide +kernel)) (zin 621 (by decide +kernel) (by decide +kernel)) (zin 622 (by decide +kernel) (by decide +kernel)) (zin 2 (by decide +kernel) (by decide +kernel))
theorem lL_196 : zLS RL 196 yL_reads := z3 (zin 931 (by decide +kernel) (by decide +kernel)) (zin 932 (by decide +kernel) (by decide +kernel)) (zin 0 (by decide +kernel) (by decide +kernel))
theorem lL_75 : zLV RL 75 RX10 yX10_reads := z4 (zin 934 (by decide +kernel) (by decide +kernel)) (zin 935 (by decide +kernel) (by decide +kernel)) (zin 936 (by decide +kernel) (by decide +kernel)) (zin 1 (by decide +kernel) (by decide +kernel))
theorem lX10_298 : zLV RX10 298 RX6 yX6_readingAt := z4 (zin 938 (by decide +kernel) (by decide +kernel)) (zin 630 (by decide +kernel) (by decide +kernel)) (zin 631 (by decide +kernel) (by decide +kernel)) (zin 2 (by decide +kernel) (by decide +kernel))
theorem lL_199 : zLS RL 199 yL_shift := z3 (zin 939 (by decide +kernel) (by decide +kernel)) (zin 940 (by decide +kernel) (by decide +kernel)) (zin 0 (by decide +kernel) (by decide +kernel))
theorem lL_78 : zLV RL 78 RX10 yX10_shift := z4 (zin 942 (by decide +kernel) (by decide +kernel)) (zin 943 (by decide +kernel) (by decide +kernel)) (zin 944 (by decide +kernel) (by decide +kernel)) (zin 1 (by decide +kernel) (by decide +kernel))
theorem lX10_303 : zLV RX10 303 RX1 yX1_shiftIn := z4 (zin 947 (by decide +kernel) (by decide +kernel)) (zin 367 (by decide +kernel) (by decide +kernel)) (zin 368 (by decide +kernel) (by decide +kernel)) (zin 5 (by decide +kernel) (by decide +kernel))
theorem lL_202 : zLS RL 202 yL_errorIn := z3 (zin 948 (by decide +kernel) (by decide +kernel)) (zin 949 (by decide +kernel) (by decide +kernel)) (zin 0 (by decide +kernel) (by decide +kernel))
theorem lL_81 : zLV RL 81 RX10 yX10_errorIn := z4 (zin 951 (by decide +kernel) (by decide +kernel)) (zin 952 (by decide +kernel) (by decide +kernel)) (zin 953 (by decide +kernel) (by decide +kernel)) (zin 1 (by decide +kernel) (by decide +kernel))
theorem lX10_308 : zLV RX10 308 RX6 yX6_errorAfter := z4 (zin 956 (by decide +kernel) (by decide +kernel)) (zin 957 (by decide +kernel) (by decide +kernel)) (zin 958 (by decide +kernel) (by decide +kernel)) (zin 2 (by decide +kernel) (by decide +kernel))
theorem lX6_148 : zLS RX6 148 yX8_drift := z3 (zin 960 (by decide +kernel) (by decide +kernel)) (zin 744 (by decide +kernel) (by decide +kernel)) (zin 3 (by decide +kernel) (by decide +kernel))
theorem lL_205 : zLS RL 205 yL_rises := z3 (zin 961 (by decide +kernel) (by decide +kernel)) (zin 962 (by decide +kernel) (by decide +kernel)) (zin 0 (by decide +kernel) (by decide +kernel))
theorem lL_84 : zLV RL 84 RX10 yX10_rises := z4 (zin 964 (by decide +kernel) (by decide +kernel)) (zin 965 (by decide +kernel) (by decide +kernel)) (zin 966 (by decide +kernel) (by decide +kernel)) (zin 1 (by decide +kernel) (by decide +kernel))
theorem lL_208 : zLS RL 208 yL_ranked := z3 (zin 968 (by decide +kernel) (by decide +kernel)) (zin 969 (by decide +kernel) (by decide +kernel)) (zin 0 (by decide +kernel) (by decide +kernel))
theorem lL_88 : zLV RL 88 RX10 yX10_ranked := z4 (zin 971 (by decide +kernel) (by decide +kernel)) (zin 972 (by decide +kernel) (by decide +kernel)) (zin 973 (by decide +kernel) (by decide +kernel)) (zin 1 (by decide +kernel) (by decide +kernel))
theorem lX10_314 : zLS RX10 314 yX7_set := z3 (zin 975 (by decide +kernel) (by decide +kernel)) (zin 534 (by decide +kernel) (by decide +kernel)) (zin 20 (by decide +kernel) (by decide +kernel))
theorem lX10_318 : zLV RX10 318 RX6 yX6_floodAtRank := z4 (zin 976 (by decide +kernel) (by decide +kernel)) (zin 977 (by decide +kernel) (by decide +kernel)) (zin 978 (by decide +kernel) (by decide +kernel)) (zin 2 (by decide +kernel) (by decide +kernel))
theorem lX6_183 : zLV RX6 183 RX6 yX6_isAhead := z4 (zin 980 (by decide +kernel) (by decide +kernel)) (zin 982 (by decide +kernel) (by decide +kernel)) (zsel 3 (by decide +kernel) (by decide +kernel)) (zin 2 (by decide +kernel) (by decide +kernel))
theorem lL_219 : zLS RL 219 yL_append := z3 (zin 985 (by decide +kernel) (by decide +kernel)) (zin 986 (by decide +kernel) (by decide +kernel)) (zin 0 (by decide +kernel) (by decide +kernel))
theorem lL_91 : zLV RL 91 RX10 yX10_append := z4 (zin 989 (by decide +kernel) (by decide +kernel)) (zin 990 (by decide +kernel) (by decide +kernel)) (zin 991 (by decide +kernel) (by decide +kernel)) (zin 1 (by decide +kernel) (by decide +kernel))
theorem lX10_330 : zLV RX10 330 RX9 yX9_isFull := z4 (zin 993 (by decide +kernel) (by decide +kernel)) (zin 994 (by decide +kernel) (by decide +kernel)) (zin 995 (by decide +kernel) (by decide +kernel)) (zin 10 (by decide +kernel) (by decide +kernel))
theorem lX10_339 : zLV RX10 339 RX9 yX9_put := z4 (zin 1013 (by decide +kernel) (by decide +kernel)) (zin 1014 (by decide +kernel) (by decide +kernel)) (zin 1015 (by decide +kernel) (by decide +kernel)) (zin 10 (by decide +kernel) (by decide +kernel))
theorem lL_223 : zLS RL 223 yL_commands := z3 (zin 1017 (by decide +kernel) (by decide +kernel)) (zin 1018 (by decide +kernel) (by decide +kernel)) (zin 0 (by decide +kernel) (by decide +kernel))
theorem lL_97 : zLV RL 97 RX10 yX10_commands := z4 (zin 1020 (by decide +kernel) (by decide +kernel)) (zin 1021 (by decide +kernel) (by decide +kernel)) (zin 1022 (by decide +kernel) (by decide +kernel)) (zin 1 (by decide +kernel) (by decide +kernel))
theorem lX10_343 : zLV RX10 343 RX9 yX9_scan := z4 (zin 1024 (by decide +kernel) (by decide +kernel)) (zin 1025 (by decide +kernel) (by decide +kernel)) (zin 1026 (by decide +kernel) (by decide +kernel)) (zin 10 (by decide +kernel) (by decide +kernel))
theorem lX9_36 : zLV RX9 36 RX9 yX9_readCommand := z4 (zin 1028 (by decide +kernel) (by decide +kernel)) (zin 1030 (by decide +kernel) (by decide +kernel)) (zsel 4 (by decide +kernel) (by decide +kernel)) (zin 10 (by decide +kernel) (by decide +kernel))
theorem lX9_40 : zLV RX9 40 RX9 yX9_signHere := z4 (zin 1032 (by decide +kernel) (by decide +kernel)) (zin 1034 (by decide +kernel) (by decide +kernel)) (zsel 5 (by decide +kernel) (by decide +kernel)) (zin 10 (by decide +kernel) (by decide +kernel))
theorem lX9_56 : zLS RX9 56 yX9_formOf := z3 (zin 1036 (by decide +kernel) (by decide +kernel)) (zin 1037 (by decide +kernel) (by decide +kernel)) (zin 10 (by decide +kernel) (by decide +kernel))
theorem lX9_60 : zLV RX9 60 RJ0 yJ0_isEmpty_aae02 := z4 (zin 1045 (by decide +kernel) (by decide +kernel)) (zin 1046 (by decide +kernel) (by decide +kernel)) (zin 1047 (by decide +kernel) (by decide +kernel)) (zin 13 (by decide +kernel) (by decide +kernel))
theorem lX9_66 : zLS RX9 66 yX7_set := z3 (zin 1049 (by decide +kernel) (by decide +kernel)) (zin 534 (by decide +kernel) (by decide +kernel)) (zin 20 (by decide +kernel) (by decide +kernel))
theorem lX9_70 : zLV RX9 70 RJ0 yJ0_length_8abf5 := z4 (zin 1050 (by decide +kernel) (by decide +kernel)) (zin 1051 (by decide +kernel) (by decide +kernel)) (zin 1052 (by decide +kernel) (by decide +kernel)) (zin 13 (by decide +kernel) (by decide +kernel))
theorem lJ0_335 : zLV RJ0 335 RJ0 yJ0_coder_7d493 := z4 (zin 1054 (by decide +kernel) (by decide +kernel)) (zin 1055 (by decide +kernel) (by decide +kernel)) (zin 1056 (by decide +kernel) (by decide +kernel)) (zin 13 (by decide +kernel) (by decide +kernel))
theorem lX9_73 : zLV RX9 73 RJ0 yJ0_charAt_5068e := z4 (zin 1059 (by decide +kernel) (by decide +kernel)) (zin 1060 (by decide +kernel) (by decide +kernel)) (zin 1061 (by decide +kernel) (by decide +kernel)) (zin 13 (by decide +kernel) (by decide +kernel))
theorem lJ0_492 : zLV RJ0 492 RJ0 yJ0_isLatin1_aae02 := z4 (zin 1063 (by decide +kernel) (by decide +kernel)) (zin 1064 (by decide +kernel) (by decide +kernel)) (zin 1065 (by decide +kernel) (by decide +kernel)) (zin 13 (by decide +kernel) (by decide +kernel))
theorem lJ0_495 : zLS RJ0 495 yJ1_charAt_3b067 := z3 (zin 1067 (by decide +kernel) (by decide +kernel)) (zin 1068 (by decide +kernel) (by decide +kernel)) (zin 28 (by decide +kernel) (by decide +kernel))
theorem lJ1_9 : zLS RJ1 9 yJ0_checkIndex_df160 := z3 (zin 1070 (by decide +kernel) (by decide +kernel)) (zin 1071 (by decide +kernel) (by decide +kernel)) (zin 13 (by decide +kernel) (by decide +kernel))
theorem lX9_77 : zLS RX9 77 yX9_isDigit := z3 (zin 1097 (by decide +kernel) (by decide +kernel)) (zin 1098 (by decide +kernel) (by decide +kernel)) (zin 10 (by decide +kernel) (by decide +kernel))
theorem lX9_81 : zLV RX9 81 RX9 yX9_readNumber := z4 (zin 1100 (by decide +kernel) (by decide +kernel)) (zin 1102 (by decide +kernel) (by decide +kernel)) (zsel 6 (by decide +kernel) (by decide +kernel)) (zin 10 (by decide +kernel) (by decide +kernel))
theorem lX9_85 : zLV RX9 85 RX9 yX9_readDigit := z4 (zin 1104 (by decide +kernel) (by decide +kernel)) (zin 1106 (by decide +kernel) (by decide +kernel)) (zsel 7 (by decide +kernel) (by decide +kernel)) (zin 10 (by decide +kernel) (by decide +kernel))
theorem lX10_346 : zLV RX10 346 RX9 yX9_empty := z4 (zin 1108 (by decide +kernel) (by decide +kernel)) (zin 1109 (by decide +kernel) (by decide +kernel)) (zin 1110 (by decide +kernel) (by decide +kernel)) (zin 10 (by decide +kernel) (by decide +kernel))
theorem lX10_357 : zLV RX10 357 RX10 yX10_isRefused := z4 (zin 1113 (by decide +kernel) (by decide +kernel)) (zin 1115 (by decide +kernel) (by decide +kernel)) (zsel 8 (by decide +kernel) (by decide +kernel)) (zin 1 (by decide +kernel) (by decide +kernel))
theorem lX10_368 : zLV RX10 368 RX9 yX9_numberOf := z4 (zin 1117 (by decide +kernel) (by decide +kernel)) (zin 1118 (by decide +kernel) (by decide +kernel)) (zin 1119 (by decide +kernel) (by decide +kernel)) (zin 10 (by decide +kernel) (by decide +kernel))
theorem lX9_30 : zLS RX9 30 yX7_at := z3 (zin 1121 (by decide +kernel) (by decide +kernel)) (zin 351 (by decide +kernel) (by decide +kernel)) (zin 20 (by decide +kernel) (by decide +kernel))
theorem lX10_371 : zLV RX10 371 RX9 yX9_kindOf := z4 (zin 1122 (by decide +kernel) (by decide +kernel)) (zin 1123 (by decide +kernel) (by decide +kernel)) (zin 1124 (by decide +kernel) (by decide +kernel)) (zin 10 (by decide +kernel) (by decide +kernel))
theorem lX10_365 : zLV RX10 365 RX10 yX10_carryOut := z4 (zin 1127 (by decide +kernel) (by decide +kernel)) (zin 1129 (by decide +kernel) (by decide +kernel)) (zsel 9 (by decide +kernel) (by decide +kernel)) (zin 1 (by decide +kernel) (by decide +kernel))
theorem lL_230 : zLS RL 230 yL_reason := z3 (zin 1131 (by decide +kernel) (by decide +kernel)) (zin 1132 (by decide +kernel) (by decide +kernel)) (zin 0 (by decide +kernel) (by decide +kernel))
theorem lL_100 : zLV RL 100 RX10 yX10_reason := z4 (zin 1134 (by decide +kernel) (by decide +kernel)) (zin 1135 (by decide +kernel) (by decide +kernel)) (zin 1136 (by decide +kernel) (by decide +kernel)) (zin 1 (by decide +kernel) (by decide +kernel))
theorem lL_233 : zLS RL 233 yL_line := z3 (zin 1140 (by decide +kernel) (by decide +kernel)) (zin 1141 (by decide +kernel) (by decide +kernel)) (zin 0 (by decide +kernel) (by decide +kernel))
theorem lL_103 : zLV RL 103 RX10 yX10_line := z4 (zin 1143 (by decide +kernel) (by decide +kernel)) (zin 1144 (by decide +kernel) (by decide +kernel)) (zin 1145 (by decide +kernel) (by decide +kernel)) (zin 1 (by decide +kernel) (by decide +kernel))
theorem lX10_384 : zLV RX10 384 RJ4 yJ4_setLength_d00df := z4 (zin 1147 (by decide +kernel) (by decide +kernel)) (zin 1148 (by decide +kernel) (by decide +kernel)) (zin 1149 (by decide +kernel) (by decide +kernel)) (zin 12 (by decide +kernel) (by decide +kernel))
theorem lJ5_114 : zLS RJ5 114 yJ8_newLength_cabcc := z3 (zin 1181 (by decide +kernel) (by decide +kernel)) (zin 1182 (by decide +kernel) (by decide +kernel)) (zin 31 (by decide +kernel) (by decide +kernel))
theorem lJ8_194 : zLS RJ8 194 yJ9_max_7cf53 := z3 (zin 1184 (by decide +kernel) (by decide +kernel)) (zin 748 (by decide +kernel) (by decide +kernel)) (zin 21 (by decide +kernel) (by decide +kernel))
theorem lJ8_201 : zLS RJ8 201 yJ8_hugeLength_7cf53 := z3 (zin 1186 (by decide +kernel) (by decide +kernel)) (zin 1187 (by decide +kernel) (by decide +kernel)) (zin 31 (by decide +kernel) (by decide +kernel))
theorem lJ5_108 : zLS RJ5 108 yJ7_copyOf_9075b := z3 (zin 1190 (by decide +kernel) (by decide +kernel)) (zin 1191 (by decide +kernel) (by decide +kernel)) (zin 32 (by decide +kernel) (by decide +kernel))
theorem lJ7_304 : zLS RJ7 304 yJ9_min_7cf53 := z3 (zin 1200 (by decide +kernel) (by decide +kernel)) (zin 403 (by decide +kernel) (by decide +kernel)) (zin 21 (by decide +kernel) (by decide +kernel))
theorem lJ5_32 : zLV RJ5 32 RJ0 yJ0_length_8abf5 := z4 (zin 1222 (by decide +kernel) (by decide +kernel)) (zin 1051 (by decide +kernel) (by decide +kernel)) (zin 1052 (by decide +kernel) (by decide +kernel)) (zin 13 (by decide +kernel) (by decide +kernel))
theorem lJ5_40 : zLV RJ5 40 RJ0 yJ0_coder_7d493 := z4 (zin 1231 (by decide +kernel) (by decide +kernel)) (zin 1055 (by decide +kernel) (by decide +kernel)) (zin 1056 (by decide +kernel) (by decide +kernel)) (zin 13 (by decide +kernel) (by decide +kernel))
theorem lJ5_125 : zLS RJ5 125 yJ1_inflate_0e8fd := z3 (zin 1236 (by decide +kernel) (by decide +kernel)) (zin 1237 (by decide +kernel) (by decide +kernel)) (zin 28 (by decide +kernel) (by decide +kernel))
theorem lJ5_399 : zLV RJ5 399 RJ0 yJ0_getBytes_840e7 := z4 (zin 1251 (by decide +kernel) (by decide +kernel)) (zin 1252 (by decide +kernel) (by decide +kernel)) (zin 1253 (by decide +kernel) (by decide +kernel)) (zin 13 (by decide +kernel) (by decide +kernel))
theorem lJ0_106 : zLS RJ0 106 yJ1_inflate_0e8fd := z3 (zin 1256 (by decide +kernel) (by decide +kernel)) (zin 1237 (by decide +kernel) (by decide +kernel)) (zin 28 (by decide +kernel) (by decide +kernel))
theorem lJ5_245 : zLS RJ5 245 yJ6_stringSize_0f7a4 := z3 (zin 1264 (by decide +kernel) (by decide +kernel)) (zin 1265 (by decide +kernel) (by decide +kernel)) (zin 34 (by decide +kernel) (by decide +kernel))
theorem lJ5_248 : zLS RJ5 248 yJ6_getChars_ba4f3 := z3 (zin 1267 (by decide +kernel) (by decide +kernel)) (zin 1268 (by decide +kernel) (by decide +kernel)) (zin 34 (by decide +kernel) (by decide +kernel))
theorem lJ4_137 : zLI RJ4 137 yJ0_init_81219 := z3 (zin 1287 (by decide +kernel) (by decide +kernel)) (zin 1288 (by decide +kernel) (by decide +kernel)) (zin 13 (by decide +kernel) (by decide +kernel))
theorem lJ0_489 : zLI RJ0 489 yJ0_init_db425 := z3 (zin 1290 (by decide +kernel) (by decide +kernel)) (zin 1291 (by decide +kernel) (by decide +kernel)) (zin 13 (by decide +kernel) (by decide +kernel))
theorem lJ0_54 : zLS RJ0 54 yJ7_copyOfRange_39247 := z3 (zin 1308 (by decide +kernel) (by decide +kernel)) (zin 1309 (by decide +kernel) (by decide +kernel)) (zin 32 (by decide +kernel) (by decide +kernel))
theorem lJ7_339 : zLS RJ7 339 yJ7_copyOfRangeByte_39247 := z3 (zin 1311 (by decide +kernel) (by decide +kernel)) (zin 1312 (by decide +kernel) (by decide +kernel)) (zin 32 (by decide +kernel) (by decide +kernel))
theorem lJ7_343 : zLS RJ7 343 yJ7_checkLength_df160 := z3 (zin 1314 (by decide +kernel) (by decide +kernel)) (zin 1315 (by decide +kernel) (by decide +kernel)) (zin 32 (by decide +kernel) (by decide +kernel))
theorem lJ7_47 : zLI RJ7 47 yJ4_init_da8c8 := z3 (zin 1319 (by decide +kernel) (by decide +kernel)) (zin 266 (by decide +kernel) (by decide +kernel)) (zin 12 (by decide +kernel) (by decide +kernel))
theorem lJ7_54 : zLV RJ7 54 RJ4 yJ4_append_bf812 := z4 (zin 1320 (by decide +kernel) (by decide +kernel)) (zin 1258 (by decide +kernel) (by decide +kernel)) (zin 1259 (by decide +kernel) (by decide +kernel)) (zin 12 (by decide +kernel) (by decide +kernel))
theorem lJ7_50 : zLV RJ7 50 RJ4 yJ4_append_15ec4 := z4 (zin 1322 (by decide +kernel) (by decide +kernel)) (zin 1163 (by decide +kernel) (by decide +kernel)) (zin 1164 (by decide +kernel) (by decide +kernel)) (zin 12 (by decide +kernel) (by decide +kernel))
theorem lJ7_61 : zLV RJ7 61 RJ4 yJ4_toString_0e30d := z4 (zin 1323 (by decide +kernel) (by decide +kernel)) (zin 1283 (by decide +kernel) (by decide +kernel)) (zin 1284 (by decide +kernel) (by decide +kernel)) (zin 12 (by decide +kernel) (by decide +kernel))
theorem lJ5_133 : zLS RJ5 133 yJ1_fillNull_b72d1 := z3 (zin 1350 (by decide +kernel) (by decide +kernel)) (zin 1351 (by decide +kernel) (by decide +kernel)) (zin 28 (by decide +kernel) (by decide +kernel))
theorem lJ1_236 : zLS RJ1 236 yJ7_fill_eb02e := z3 (zin 1353 (by decide +kernel) (by decide +kernel)) (zin 1354 (by decide +kernel) (by decide +kernel)) (zin 32 (by decide +kernel) (by decide +kernel))
theorem lJ7_13 : zLS RJ7 13 yJ7_rangeCheck_23922 := z3 (zin 1356 (by decide +kernel) (by decide +kernel)) (zin 1357 (by decide +kernel) (by decide +kernel)) (zin 32 (by decide +kernel) (by decide +kernel))
theorem lX10_387 : zLV RX10 387 RJ4 yJ4_append_bf812 := z4 (zin 1376 (by decide +kernel) (by decide +kernel)) (zin 1258 (by decide +kernel) (by decide +kernel)) (zin 1259 (by decide +kernel) (by decide +kernel)) (zin 12 (by decide +kernel) (by decide +kernel))
theorem lX10_391 : zLV RX10 391 RJ4 yJ4_append_cf468 := z4 (zin 1377 (by decide +kernel) (by decide +kernel)) (zin 1378 (by decide +kernel) (by decide +kernel)) (zin 1379 (by decide +kernel) (by decide +kernel)) (zin 12 (by decide +kernel) (by decide +kernel))
theorem lJ5_191 : zLS RJ5 191 yJ1_canEncode_fc78d := z3 (zin 1384 (by decide +kernel) (by decide +kernel)) (zin 1385 (by decide +kernel) (by decide +kernel)) (zin 28 (by decide +kernel) (by decide +kernel))
theorem lX10_394 : zLV RX10 394 RJ4 yJ4_length_8abf5 := z4 (zin 1390 (by decide +kernel) (by decide +kernel)) (zin 1303 (by decide +kernel) (by decide +kernel)) (zin 1907 (by decide +kernel) (by decide +kernel)) (zin 12 (by decide +kernel) (by decide +kernel))
theorem lL_236 : zLS RL 236 yL_character := z3 (zin 1391 (by decide +kernel) (by decide +kernel)) (zin 1392 (by decide +kernel) (by decide +kernel)) (zin 0 (by decide +kernel) (by decide +kernel))
theorem lL_106 : zLV RL 106 RX10 yX10_character := z4 (zin 1394 (by decide +kernel) (by decide +kernel)) (zin 1395 (by decide +kernel) (by decide +kernel)) (zin 1396 (by decide +kernel) (by decide +kernel)) (zin 1 (by decide +kernel) (by decide +kernel))
theorem lX10_399 : zLV RX10 399 RJ4 yJ4_charAt_5068e := z4 (zin 1399 (by decide +kernel) (by decide +kernel)) (zin 1400 (by decide +kernel) (by decide +kernel)) (zin 1401 (by decide +kernel) (by decide +kernel)) (zin 12 (by decide +kernel) (by decide +kernel))
theorem lJ5_138 : zLS RJ5 138 yJ9_min_7cf53 := z3 (zin 1406 (by decide +kernel) (by decide +kernel)) (zin 403 (by decide +kernel) (by decide +kernel)) (zin 21 (by decide +kernel) (by decide +kernel))
theorem lJ5_144 : zLS RJ5 144 yJ0_checkIndex_df160 := z3 (zin 1407 (by decide +kernel) (by decide +kernel)) (zin 1071 (by decide +kernel) (by decide +kernel)) (zin 13 (by decide +kernel) (by decide +kernel))
theorem lL_239 : zLS RL 239 yL_estimate := z3 (zin 1409 (by decide +kernel) (by decide +kernel)) (zin 1410 (by decide +kernel) (by decide +kernel)) (zin 0 (by decide +kernel) (by decide +kernel))
theorem lL_110 : zLV RL 110 RX10 yX10_estimate := z4 (zin 1426 (by decide +kernel) (by decide +kernel)) (zin 1427 (by decide +kernel) (by decide +kernel)) (zin 1428 (by decide +kernel) (by decide +kernel)) (zin 1 (by decide +kernel) (by decide +kernel))
theorem lX10_408 : zLV RX10 408 RX6 yX6_crestsTold := z4 (zin 1433 (by decide +kernel) (by decide +kernel)) (zin 1434 (by decide +kernel) (by decide +kernel)) (zin 1435 (by decide +kernel) (by decide +kernel)) (zin 2 (by decide +kernel) (by decide +kernel))
theorem lL_243 : zLS RL 243 yL_meanEdge := z3 (zin 1437 (by decide +kernel) (by decide +kernel)) (zin 1438 (by decide +kernel) (by decide +kernel)) (zin 0 (by decide +kernel) (by decide +kernel))
theorem lL_116 : zLV RL 116 RX10 yX10_meanEdge := z4 (zin 1440 (by decide +kernel) (by decide +kernel)) (zin 1441 (by decide +kernel) (by decide +kernel)) (zin 1442 (by decide +kernel) (by decide +kernel)) (zin 1 (by decide +kernel) (by decide +kernel))
theorem lX10_414 : zLV RX10 414 RX0 yX0_sum := z4 (zin 1445 (by decide +kernel) (by decide +kernel)) (zin 1446 (by decide +kernel) (by decide +kernel)) (zin 1447 (by decide +kernel) (by decide +kernel)) (zin 6 (by decide +kernel) (by decide +kernel))
theorem lL_247 : zLS RL 247 yL_account := z3 (zin 1449 (by decide +kernel) (by decide +kernel)) (zin 1450 (by decide +kernel) (by decide +kernel)) (zin 0 (by decide +kernel) (by decide +kernel))
theorem lL_120 : zLV RL 120 RX10 yX10_account := z4 (zin 1452 (by decide +kernel) (by decide +kernel)) (zin 1453 (by decide +kernel) (by decide +kernel)) (zin 1454 (by decide +kernel) (by decide +kernel)) (zin 1 (by decide +kernel) (by decide +kernel))
theorem lX10_421 : zLV RX10 421 RX4 yX4_countAll := z4 (zin 1456 (by decide +kernel) (by decide +kernel)) (zin 1457 (by decide +kernel) (by decide +kernel)) (zin 1458 (by decide +kernel) (by decide +kernel)) (zin 7 (by decide +kernel) (by decide +kernel))
theorem lX4_58 : zLV RX4 58 RX4 yX4_countOn := z4 (zin 1460 (by decide +kernel) (by decide +kernel)) (zin 640 (by decide +kernel) (by decide +kernel)) (zin 641 (by decide +kernel) (by decide +kernel)) (zin 7 (by decide +kernel) (by decide +kernel))
theorem lX10_433 : zLV RX10 433 RX6 yX6_stonesInDoubt := z4 (zin 1461 (by decide +kernel) (by decide +kernel)) (zin 1462 (by decide +kernel) (by decide +kernel)) (zin 1463 (by decide +kernel) (by decide +kernel)) (zin 2 (by decide +kernel) (by decide +kernel))
theorem lL_250 : zLS RL 250 yL_undo := z3 (zin 1466 (by decide +kernel) (by decide +kernel)) (zin 1467 (by decide +kernel) (by decide +kernel)) (zin 0 (by decide +kernel) (by decide +kernel))
theorem lL_123 : zLV RL 123 RX10 yX10_undo := z4 (zin 1469 (by decide +kernel) (by decide +kernel)) (zin 1470 (by decide +kernel) (by decide +kernel)) (zin 1471 (by decide +kernel) (by decide +kernel)) (zin 1 (by decide +kernel) (by decide +kernel))
theorem lX10_443 : zLV RX10 443 RX3 yX3_takeBack := z4 (zin 1474 (by decide +kernel) (by decide +kernel)) (zin 1475 (by decide +kernel) (by decide +kernel)) (zin 1476 (by decide +kernel) (by decide +kernel)) (zin 8 (by decide +kernel) (by decide +kernel))
theorem lL_257 : zLS RL 257 yL_restore := z3 (zin 1478 (by decide +kernel) (by decide +kernel)) (zin 1479 (by decide +kernel) (by decide +kernel)) (zin 0 (by decide +kernel) (by decide +kernel))
theorem lL_126 : zLV RL 126 RX10 yX10_restore := z4 (zin 1481 (by decide +kernel) (by decide +kernel)) (zin 1482 (by decide +kernel) (by decide +kernel)) (zin 1483 (by decide +kernel) (by decide +kernel)) (zin 1 (by decide +kernel) (by decide +kernel))
theorem lX10_448 : zLV RX10 448 RX3 yX3_forget := z4 (zin 1486 (by decide +kernel) (by decide +kernel)) (zin 1487 (by decide +kernel) (by decide +kernel)) (zin 1488 (by decide +kernel) (by decide +kernel)) (zin 8 (by decide +kernel) (by decide +kernel))
theorem lL_132 : zLI RL 132 yX11_init := z3 (zin 1492 (by decide +kernel) (by decide +kernel)) (zin 1493 (by decide +kernel) (by decide +kernel)) (zin 15 (by decide +kernel) (by decide +kernel))
theorem lL_139 : zLV RL 139 RX11 yX11_thrown := z4 (zin 1557 (by decide +kernel) (by decide +kernel)) (zin 1558 (by decide +kernel) (by decide +kernel)) (zin 1559 (by decide +kernel) (by decide +kernel)) (zin 15 (by decide +kernel) (by decide +kernel))
theorem lL_138 : zLV RL 138 RX11 yX11_stone := z4 (zin 1561 (by decide +kernel) (by decide +kernel)) (zin 1562 (by decide +kernel) (by decide +kernel)) (zin 1563 (by decide +kernel) (by decide +kernel)) (zin 15 (by decide +kernel) (by decide +kernel))
theorem lX11_62 : zLS RX11 62 yX11_in := z3 (zin 1565 (by decide +kernel) (by decide +kernel)) (zin 1566 (by decide +kernel) (by decide +kernel)) (zin 15 (by decide +kernel) (by decide +kernel))
theorem lX11_84 : zLV RX11 84 RX11 yX11_refuses := z4 (zin 1568 (by decide +kernel) (by decide +kernel)) (zin 1570 (by decide +kernel) (by decide +kernel)) (zsel 10 (by decide +kernel) (by decide +kernel)) (zin 15 (by decide +kernel) (by decide +kernel))
theorem lX11_87 : zLV RX11 87 RX11 yX11_keeps := z4 (zin 1572 (by decide +kernel) (by decide +kernel)) (zin 1574 (by decide +kernel) (by decide +kernel)) (zsel 11 (by decide +kernel) (by decide +kernel)) (zin 15 (by decide +kernel) (by decide +kernel))
theorem lX11_58 : zLS RX11 58 yX11_copies := z3 (zin 1576 (by decide +kernel) (by decide +kernel)) (zin 1577 (by decide +kernel) (by decide +kernel)) (zin 15 (by decide +kernel) (by decide +kernel))
theorem lX11_91 : zLV RX11 91 RX11 yX11_lays := z4 (zin 1579 (by decide +kernel) (by decide +kernel)) (zin 1581 (by decide +kernel) (by decide +kernel)) (zsel 12 (by decide +kernel) (by decide +kernel)) (zin 15 (by decide +kernel) (by decide +kernel))
theorem lL_144 : zLV RL 144 RX11 yX11_flood := z4 (zin 1583 (by decide +kernel) (by decide +kernel)) (zin 1584 (by decide +kernel) (by decide +kernel)) (zin 1585 (by decide +kernel) (by decide +kernel)) (zin 15 (by decide +kernel) (by decide +kernel))
theorem lX11_95 : zLV RX11 95 RX11 yX11_ofYear := z4 (zin 1587 (by decide +kernel) (by decide +kernel)) (zin 1589 (by decide +kernel) (by decide +kernel)) (zsel 13 (by decide +kernel) (by decide +kernel)) (zin 15 (by decide +kernel) (by decide +kernel))
theorem lX11_66 : zLV RX11 66 RX11 yX11_ofFlood := z4 (zin 1591 (by decide +kernel) (by decide +kernel)) (zin 1593 (by decide +kernel) (by decide +kernel)) (zsel 14 (by decide +kernel) (by decide +kernel)) (zin 15 (by decide +kernel) (by decide +kernel))
theorem lL_148 : zLV RL 148 RX11 yX11_epoch := z4 (zin 1595 (by decide +kernel) (by decide +kernel)) (zin 1596 (by decide +kernel) (by decide +kernel)) (zin 1597 (by decide +kernel) (by decide +kernel)) (zin 15 (by decide +kernel) (by decide +kernel))
theorem lX11_98 : zLS RX11 98 yX11_more := z3 (zin 1599 (by decide +kernel) (by decide +kernel)) (zin 1600 (by decide +kernel) (by decide +kernel)) (zin 15 (by decide +kernel) (by decide +kernel))
theorem lL_152 : zLV RL 152 RX11 yX11_chisel := z4 (zin 1602 (by decide +kernel) (by decide +kernel)) (zin 1603 (by decide +kernel) (by decide +kernel)) (zin 1604 (by decide +kernel) (by decide +kernel)) (zin 15 (by decide +kernel) (by decide +kernel))
theorem lL_155 : zLV RL 155 RX11 yX11_cut := z4 (zin 1606 (by decide +kernel) (by decide +kernel)) (zin 1607 (by decide +kernel) (by decide +kernel)) (zin 1608 (by decide +kernel) (by decide +kernel)) (zin 15 (by decide +kernel) (by decide +kernel))
theorem lX11_101 : zLV RX11 101 RX11 yX11_isStone := z4 (zin 1610 (by decide +kernel) (by decide +kernel)) (zin 1612 (by decide +kernel) (by decide +kernel)) (zsel 15 (by decide +kernel) (by decide +kernel)) (zin 15 (by decide +kernel) (by decide +kernel))
theorem lX11_105 : zLV RX11 105 RX11 yX11_isFlood := z4 (zin 1614 (by decide +kernel) (by decide +kernel)) (zin 1616 (by decide +kernel) (by decide +kernel)) (zsel 16 (by decide +kernel) (by decide +kernel)) (zin 15 (by decide +kernel) (by decide +kernel))
theorem lX11_108 : zLV RX11 108 RX11 yX11_isChisel := z4 (zin 1618 (by decide +kernel) (by decide +kernel)) (zin 1620 (by decide +kernel) (by decide +kernel)) (zsel 17 (by decide +kernel) (by decide +kernel)) (zin 15 (by decide +kernel) (by decide +kernel))
theorem lX11_111 : zLV RX11 111 RX11 yX11_placeOf := z4 (zin 1622 (by decide +kernel) (by decide +kernel)) (zin 1624 (by decide +kernel) (by decide +kernel)) (zsel 18 (by decide +kernel) (by decide +kernel)) (zin 15 (by decide +kernel) (by decide +kernel))
theorem lX11_70 : zLV RX11 70 RX11 yX11_of := z4 (zin 1626 (by decide +kernel) (by decide +kernel)) (zin 1628 (by decide +kernel) (by decide +kernel)) (zsel 19 (by decide +kernel) (by decide +kernel)) (zin 15 (by decide +kernel) (by decide +kernel))
theorem lX11_80 : zLV RX11 80 RX11 yX11_ofMark := z4 (zin 1630 (by decide +kernel) (by decide +kernel)) (zin 1632 (by decide +kernel) (by decide +kernel)) (zsel 20 (by decide +kernel) (by decide +kernel)) (zin 15 (by decide +kernel) (by decide +kernel))
theorem lX11_114 : zLV RX11 114 RX11 yX11_heightNow := z4 (zin 1634 (by decide +kernel) (by decide +kernel)) (zin 1636 (by decide +kernel) (by decide +kernel)) (zsel 21 (by decide +kernel) (by decide +kernel)) (zin 15 (by decide +kernel) (by decide +kernel))
theorem lX11_73 : zLV RX11 73 RX11 yX11_levelOf := z4 (zin 1638 (by decide +kernel) (by decide +kernel)) (zin 1640 (by decide +kernel) (by decide +kernel)) (zsel 22 (by decide +kernel) (by decide +kernel)) (zin 15 (by decide +kernel) (by decide +kernel))
theorem lX11_76 : zLV RX11 76 RX11 yX11_shiftOf := z4 (zin 1642 (by decide +kernel) (by decide +kernel)) (zin 1644 (by decide +kernel) (by decide +kernel)) (zsel 23 (by decide +kernel) (by decide +kernel)) (zin 15 (by decide +kernel) (by decide +kernel))
theorem lX11_117 : zLV RX11 117 RX11 yX11_placeAt := z4 (zin 1646 (by decide +kernel) (by decide +kernel)) (zin 1648 (by decide +kernel) (by decide +kernel)) (zsel 24 (by decide +kernel) (by decide +kernel)) (zin 15 (by decide +kernel) (by decide +kernel))
theorem lL_158 : zLV RL 158 RX11 yX11_efface := z4 (zin 1650 (by decide +kernel) (by decide +kernel)) (zin 1651 (by decide +kernel) (by decide +kernel)) (zin 1652 (by decide +kernel) (by decide +kernel)) (zin 15 (by decide +kernel) (by decide +kernel))
theorem lX11_120 : zLV RX11 120 RX11 yX11_drops := z4 (zin 1654 (by decide +kernel) (by decide +kernel)) (zin 1656 (by decide +kernel) (by decide +kernel)) (zsel 25 (by decide +kernel) (by decide +kernel)) (zin 15 (by decide +kernel) (by decide +kernel))
theorem lL_162 : zLV RL 162 RX11 yX11_sharpen := z4 (zin 1658 (by decide +kernel) (by decide +kernel)) (zin 1659 (by decide +kernel) (by decide +kernel)) (zin 1660 (by decide +kernel) (by decide +kernel)) (zin 15 (by decide +kernel) (by decide +kernel))
theorem lL_165 : zLV RL 165 RX11 yX11_check := z4 (zin 1662 (by decide +kernel) (by decide +kernel)) (zin 1663 (by decide +kernel) (by decide +kernel)) (zin 1664 (by decide +kernel) (by decide +kernel)) (zin 15 (by decide +kernel) (by decide +kernel))
theorem lL_168 : zLV RL 168 RX11 yX11_witness := z4 (zin 1666 (by decide +kernel) (by decide +kernel)) (zin 1667 (by decide +kernel) (by decide +kernel)) (zin 1668 (by decide +kernel) (by decide +kernel)) (zin 15 (by decide +kernel) (by decide +kernel))
theorem lL_171 : zLV RL 171 RX11 yX11_years := z4 (zin 1670 (by decide +kernel) (by decide +kernel)) (zin 1671 (by decide +kernel) (by decide +kernel)) (zin 1672 (by decide +kernel) (by decide +kernel)) (zin 15 (by decide +kernel) (by decide +kernel))
theorem lX11_133 : zLV RX11 133 RX11 yX11_yearGoes := z4 (zin 1674 (by decide +kernel) (by decide +kernel)) (zin 1676 (by decide +kernel) (by decide +kernel)) (zsel 26 (by decide +kernel) (by decide +kernel)) (zin 15 (by decide +kernel) (by decide +kernel))
theorem lX11_127 : zLS RX11 127 yX11_errs := z3 (zin 1678 (by decide +kernel) (by decide +kernel)) (zin 1679 (by decide +kernel) (by decide +kernel)) (zin 15 (by decide +kernel) (by decide +kernel))
theorem lX11_124 : zLS RX11 124 yX11_less := z3 (zin 1681 (by decide +kernel) (by decide +kernel)) (zin 1682 (by decide +kernel) (by decide +kernel)) (zin 15 (by decide +kernel) (by decide +kernel))
theorem lX11_130 : zLV RX11 130 RX11 yX11_weathers := z4 (zin 1684 (by decide +kernel) (by decide +kernel)) (zin 1686 (by decide +kernel) (by decide +kernel)) (zsel 27 (by decide +kernel) (by decide +kernel)) (zin 15 (by decide +kernel) (by decide +kernel))
theorem lL_174 : zLV RL 174 RX11 yX11_stoneOf := z4 (zin 1688 (by decide +kernel) (by decide +kernel)) (zin 1689 (by decide +kernel) (by decide +kernel)) (zin 1690 (by decide +kernel) (by decide +kernel)) (zin 15 (by decide +kernel) (by decide +kernel))
theorem lX11_149 : zLV RX11 149 RX11 yX11_fails := z4 (zin 1692 (by decide +kernel) (by decide +kernel)) (zin 1694 (by decide +kernel) (by decide +kernel)) (zsel 28 (by decide +kernel) (by decide +kernel)) (zin 15 (by decide +kernel) (by decide +kernel))
theorem lX11_152 : zLV RX11 152 RX11 yX11_doubtsOn := z4 (zin 1696 (by decide +kernel) (by decide +kernel)) (zin 1698 (by decide +kernel) (by decide +kernel)) (zsel 29 (by decide +kernel) (by decide +kernel)) (zin 15 (by decide +kernel) (by decide +kernel))
theorem lX11_143 : zLV RX11 143 RX11 yX11_doubtsOf := z4 (zin 1700 (by decide +kernel) (by decide +kernel)) (zin 1702 (by decide +kernel) (by decide +kernel)) (zsel 30 (by decide +kernel) (by decide +kernel)) (zin 15 (by decide +kernel) (by decide +kernel))
theorem lX11_140 : zLV RX11 140 RX11 yX11_areInDoubt := z4 (zin 1704 (by decide +kernel) (by decide +kernel)) (zin 1706 (by decide +kernel) (by decide +kernel)) (zsel 31 (by decide +kernel) (by decide +kernel)) (zin 15 (by decide +kernel) (by decide +kernel))
theorem lX11_137 : zLV RX11 137 RX11 yX11_trueOf := z4 (zin 1708 (by decide +kernel) (by decide +kernel)) (zin 1710 (by decide +kernel) (by decide +kernel)) (zsel 32 (by decide +kernel) (by decide +kernel)) (zin 15 (by decide +kernel) (by decide +kernel))
theorem lL_177 : zLV RL 177 RX11 yX11_floodOf := z4 (zin 1712 (by decide +kernel) (by decide +kernel)) (zin 1713 (by decide +kernel) (by decide +kernel)) (zin 1714 (by decide +kernel) (by decide +kernel)) (zin 15 (by decide +kernel) (by decide +kernel))
theorem lX11_155 : zLV RX11 155 RX11 yX11_marksFor := z4 (zin 1716 (by decide +kernel) (by decide +kernel)) (zin 1718 (by decide +kernel) (by decide +kernel)) (zsel 33 (by decide +kernel) (by decide +kernel)) (zin 15 (by decide +kernel) (by decide +kernel))
theorem lX11_146 : zLV RX11 146 RX11 yX11_doubtsFor := z4 (zin 1720 (by decide +kernel) (by decide +kernel)) (zin 1722 (by decide +kernel) (by decide +kernel)) (zsel 34 (by decide +kernel) (by decide +kernel)) (zin 15 (by decide +kernel) (by decide +kernel))
theorem lX11_158 : zLV RX11 158 RX11 yX11_credit := z4 (zin 1724 (by decide +kernel) (by decide +kernel)) (zin 1726 (by decide +kernel) (by decide +kernel)) (zsel 35 (by decide +kernel) (by decide +kernel)) (zin 15 (by decide +kernel) (by decide +kernel))
theorem lL_180 : zLV RL 180 RX11 yX11_floodIn := z4 (zin 1728 (by decide +kernel) (by decide +kernel)) (zin 1729 (by decide +kernel) (by decide +kernel)) (zin 1730 (by decide +kernel) (by decide +kernel)) (zin 15 (by decide +kernel) (by decide +kernel))
theorem lL_183 : zLV RL 183 RX11 yX11_before := z4 (zin 1732 (by decide +kernel) (by decide +kernel)) (zin 1733 (by decide +kernel) (by decide +kernel)) (zin 1734 (by decide +kernel) (by decide +kernel)) (zin 15 (by decide +kernel) (by decide +kernel))
theorem lL_186 : zLV RL 186 RX11 yX11_edge := z4 (zin 1736 (by decide +kernel) (by decide +kernel)) (zin 1737 (by decide +kernel) (by decide +kernel)) (zin 1738 (by decide +kernel) (by decide +kernel)) (zin 15 (by decide +kernel) (by decide +kernel))
theorem lL_189 : zLV RL 189 RX11 yX11_markOf := z4 (zin 1740 (by decide +kernel) (by decide +kernel)) (zin 1741 (by decide +kernel) (by decide +kernel)) (zin 1742 (by decide +kernel) (by decide +kernel)) (zin 15 (by decide +kernel) (by decide +kernel))
theorem lX11_161 : zLV RX11 161 RX11 yX11_goneIn := z4 (zin 1744 (by decide +kernel) (by decide +kernel)) (zin 1746 (by decide +kernel) (by decide +kernel)) (zsel 36 (by decide +kernel) (by decide +kernel)) (zin 15 (by decide +kernel) (by decide +kernel))
theorem lL_192 : zLV RL 192 RX11 yX11_mark := z4 (zin 1748 (by decide +kernel) (by decide +kernel)) (zin 1749 (by decide +kernel) (by decide +kernel)) (zin 1750 (by decide +kernel) (by decide +kernel)) (zin 15 (by decide +kernel) (by decide +kernel))
theorem lX11_167 : zLV RX11 167 RX11 yX11_nth := z4 (zin 1752 (by decide +kernel) (by decide +kernel)) (zin 1754 (by decide +kernel) (by decide +kernel)) (zsel 37 (by decide +kernel) (by decide +kernel)) (zin 15 (by decide +kernel) (by decide +kernel))
theorem lX11_164 : zLV RX11 164 RX11 yX11_below := z4 (zin 1756 (by decide +kernel) (by decide +kernel)) (zin 1758 (by decide +kernel) (by decide +kernel)) (zsel 38 (by decide +kernel) (by decide +kernel)) (zin 15 (by decide +kernel) (by decide +kernel))
theorem lL_195 : zLV RL 195 RX11 yX11_level := z4 (zin 1760 (by decide +kernel) (by decide +kernel)) (zin 1761 (by decide +kernel) (by decide +kernel)) (zin 1762 (by decide +kernel) (by decide +kernel)) (zin 15 (by decide +kernel) (by decide +kernel))
theorem lL_198 : zLV RL 198 RX11 yX11_reads := z4 (zin 1764 (by decide +kernel) (by decide +kernel)) (zin 1765 (by decide +kernel) (by decide +kernel)) (zin 1766 (by decide +kernel) (by decide +kernel)) (zin 15 (by decide +kernel) (by decide +kernel))
theorem lL_201 : zLV RL 201 RX11 yX11_shift := z4 (zin 1768 (by decide +kernel) (by decide +kernel)) (zin 1769 (by decide +kernel) (by decide +kernel)) (zin 1770 (by decide +kernel) (by decide +kernel)) (zin 15 (by decide +kernel) (by decide +kernel))
theorem lL_204 : zLV RL 204 RX11 yX11_errorIn := z4 (zin 1772 (by decide +kernel) (by decide +kernel)) (zin 1773 (by decide +kernel) (by decide +kernel)) (zin 1774 (by decide +kernel) (by decide +kernel)) (zin 15 (by decide +kernel) (by decide +kernel))
theorem lL_207 : zLV RL 207 RX11 yX11_rises := z4 (zin 1776 (by decide +kernel) (by decide +kernel)) (zin 1777 (by decide +kernel) (by decide +kernel)) (zin 1778 (by decide +kernel) (by decide +kernel)) (zin 15 (by decide +kernel) (by decide +kernel))
theorem lL_210 : zLV RL 210 RX11 yX11_ranked := z4 (zin 1780 (by decide +kernel) (by decide +kernel)) (zin 1781 (by decide +kernel) (by decide +kernel)) (zin 1782 (by decide +kernel) (by decide +kernel)) (zin 15 (by decide +kernel) (by decide +kernel))
theorem lX11_174 : zLV RX11 174 RX11 yX11_rankOf := z4 (zin 1784 (by decide +kernel) (by decide +kernel)) (zin 1786 (by decide +kernel) (by decide +kernel)) (zsel 39 (by decide +kernel) (by decide +kernel)) (zin 15 (by decide +kernel) (by decide +kernel))
theorem lX11_170 : zLV RX11 170 RX11 yX11_isAhead := z4 (zin 1788 (by decide +kernel) (by decide +kernel)) (zin 1790 (by decide +kernel) (by decide +kernel)) (zsel 40 (by decide +kernel) (by decide +kernel)) (zin 15 (by decide +kernel) (by decide +kernel))
theorem lL_214 : zLV RL 214 RX11 yX11_doubts := z4 (zin 1792 (by decide +kernel) (by decide +kernel)) (zin 1793 (by decide +kernel) (by decide +kernel)) (zin 1794 (by decide +kernel) (by decide +kernel)) (zin 15 (by decide +kernel) (by decide +kernel))
theorem lL_218 : zLV RL 218 RX11 yX11_doubtsAgain := z4 (zin 1796 (by decide +kernel) (by decide +kernel)) (zin 1797 (by decide +kernel) (by decide +kernel)) (zin 1798 (by decide +kernel) (by decide +kernel)) (zin 15 (by decide +kernel) (by decide +kernel))
theorem lL_222 : zLV RL 222 RX11 yX11_append := z4 (zin 1800 (by decide +kernel) (by decide +kernel)) (zin 1801 (by decide +kernel) (by decide +kernel)) (zin 1802 (by decide +kernel) (by decide +kernel)) (zin 15 (by decide +kernel) (by decide +kernel))
theorem lL_225 : zLV RL 225 RX11 yX11_commands := z4 (zin 1804 (by decide +kernel) (by decide +kernel)) (zin 1805 (by decide +kernel) (by decide +kernel)) (zin 1806 (by decide +kernel) (by decide +kernel)) (zin 15 (by decide +kernel) (by decide +kernel))
theorem lX11_217 : zLV RX11 217 RX11 yX11_isText := z4 (zin 1808 (by decide +kernel) (by decide +kernel)) (zin 1810 (by decide +kernel) (by decide +kernel)) (zsel 41 (by decide +kernel) (by decide +kernel)) (zin 15 (by decide +kernel) (by decide +kernel))
theorem lX11_195 : zLV RX11 195 RX11 yX11_commandHere := z4 (zin 1812 (by decide +kernel) (by decide +kernel)) (zin 1814 (by decide +kernel) (by decide +kernel)) (zsel 42 (by decide +kernel) (by decide +kernel)) (zin 15 (by decide +kernel) (by decide +kernel))
theorem lX11_183 : zLV RX11 183 RX11 yX11_here := z4 (zin 1816 (by decide +kernel) (by decide +kernel)) (zin 1818 (by decide +kernel) (by decide +kernel)) (zsel 43 (by decide +kernel) (by decide +kernel)) (zin 15 (by decide +kernel) (by decide +kernel))
theorem lX11_189 : zLV RX11 189 RX11 yX11_skips := z4 (zin 1820 (by decide +kernel) (by decide +kernel)) (zin 1822 (by decide +kernel) (by decide +kernel)) (zsel 44 (by decide +kernel) (by decide +kernel)) (zin 15 (by decide +kernel) (by decide +kernel))
theorem lX11_192 : zLV RX11 192 RX11 yX11_number := z4 (zin 1824 (by decide +kernel) (by decide +kernel)) (zin 1826 (by decide +kernel) (by decide +kernel)) (zsel 45 (by decide +kernel) (by decide +kernel)) (zin 15 (by decide +kernel) (by decide +kernel))
theorem lX11_220 : zLV RX11 220 RX11 yX11_carries := z4 (zin 1828 (by decide +kernel) (by decide +kernel)) (zin 1830 (by decide +kernel) (by decide +kernel)) (zsel 46 (by decide +kernel) (by decide +kernel)) (zin 15 (by decide +kernel) (by decide +kernel))
theorem lX11_199 : zLV RX11 199 RX11 yX11_cut := z4 (zin 1832 (by decide +kernel) (by decide +kernel)) (zin 1607 (by decide +kernel) (by decide +kernel)) (zin 1608 (by decide +kernel) (by decide +kernel)) (zin 15 (by decide +kernel) (by decide +kernel))
theorem lX11_202 : zLV RX11 202 RX11 yX11_efface := z4 (zin 1833 (by decide +kernel) (by decide +kernel)) (zin 1651 (by decide +kernel) (by decide +kernel)) (zin 1652 (by decide +kernel) (by decide +kernel)) (zin 15 (by decide +kernel) (by decide +kernel))
theorem lX11_205 : zLV RX11 205 RX11 yX11_check := z4 (zin 1834 (by decide +kernel) (by decide +kernel)) (zin 1663 (by decide +kernel) (by decide +kernel)) (zin 1664 (by decide +kernel) (by decide +kernel)) (zin 15 (by decide +kernel) (by decide +kernel))
theorem lX11_208 : zLV RX11 208 RX11 yX11_sharpen := z4 (zin 1835 (by decide +kernel) (by decide +kernel)) (zin 1659 (by decide +kernel) (by decide +kernel)) (zin 1660 (by decide +kernel) (by decide +kernel)) (zin 15 (by decide +kernel) (by decide +kernel))
theorem lX11_211 : zLV RX11 211 RX11 yX11_witness := z4 (zin 1836 (by decide +kernel) (by decide +kernel)) (zin 1667 (by decide +kernel) (by decide +kernel)) (zin 1668 (by decide +kernel) (by decide +kernel)) (zin 15 (by decide +kernel) (by decide +kernel))
theorem lX11_214 : zLV RX11 214 RX11 yX11_years := z4 (zin 1837 (by decide +kernel) (by decide +kernel)) (zin 1671 (by decide +kernel) (by decide +kernel)) (zin 1672 (by decide +kernel) (by decide +kernel)) (zin 15 (by decide +kernel) (by decide +kernel))
theorem lL_229 : zLV RL 229 RX11 yX11_faultPosition := z4 (zin 1838 (by decide +kernel) (by decide +kernel)) (zin 1839 (by decide +kernel) (by decide +kernel)) (zin 1840 (by decide +kernel) (by decide +kernel)) (zin 15 (by decide +kernel) (by decide +kernel))
theorem lL_232 : zLV RL 232 RX11 yX11_reason := z4 (zin 1842 (by decide +kernel) (by decide +kernel)) (zin 1843 (by decide +kernel) (by decide +kernel)) (zin 1844 (by decide +kernel) (by decide +kernel)) (zin 15 (by decide +kernel) (by decide +kernel))
theorem lL_235 : zLV RL 235 RX11 yX11_line := z4 (zin 1846 (by decide +kernel) (by decide +kernel)) (zin 1847 (by decide +kernel) (by decide +kernel)) (zin 1848 (by decide +kernel) (by decide +kernel)) (zin 15 (by decide +kernel) (by decide +kernel))
theorem lX11_226 : zLV RX11 226 RX11 yX11_writesNumber := z4 (zin 1850 (by decide +kernel) (by decide +kernel)) (zin 1852 (by decide +kernel) (by decide +kernel)) (zsel 47 (by decide +kernel) (by decide +kernel)) (zin 15 (by decide +kernel) (by decide +kernel))
theorem lX11_230 : zLV RX11 230 RX11 yX11_writes := z4 (zin 1854 (by decide +kernel) (by decide +kernel)) (zin 1856 (by decide +kernel) (by decide +kernel)) (zsel 48 (by decide +kernel) (by decide +kernel)) (zin 15 (by decide +kernel) (by decide +kernel))
theorem lL_238 : zLV RL 238 RX11 yX11_character := z4 (zin 1858 (by decide +kernel) (by decide +kernel)) (zin 1859 (by decide +kernel) (by decide +kernel)) (zin 1860 (by decide +kernel) (by decide +kernel)) (zin 15 (by decide +kernel) (by decide +kernel))
theorem lL_242 : zLV RL 242 RX11 yX11_estimate := z4 (zin 1862 (by decide +kernel) (by decide +kernel)) (zin 1863 (by decide +kernel) (by decide +kernel)) (zin 1864 (by decide +kernel) (by decide +kernel)) (zin 15 (by decide +kernel) (by decide +kernel))
theorem lL_246 : zLV RL 246 RX11 yX11_meanEdge := z4 (zin 1866 (by decide +kernel) (by decide +kernel)) (zin 1867 (by decide +kernel) (by decide +kernel)) (zin 1868 (by decide +kernel) (by decide +kernel)) (zin 15 (by decide +kernel) (by decide +kernel))
theorem lL_249 : zLV RL 249 RX11 yX11_account := z4 (zin 1870 (by decide +kernel) (by decide +kernel)) (zin 1871 (by decide +kernel) (by decide +kernel)) (zin 1872 (by decide +kernel) (by decide +kernel)) (zin 15 (by decide +kernel) (by decide +kernel))
theorem lX11_233 : zLV RX11 233 RX11 yX11_marks := z4 (zin 1874 (by decide +kernel) (by decide +kernel)) (zin 1876 (by decide +kernel) (by decide +kernel)) (zsel 49 (by decide +kernel) (by decide +kernel)) (zin 15 (by decide +kernel) (by decide +kernel))
theorem lX11_236 : zLV RX11 236 RX11 yX11_doubtful := z4 (zin 1878 (by decide +kernel) (by decide +kernel)) (zin 1880 (by decide +kernel) (by decide +kernel)) (zsel 50 (by decide +kernel) (by decide +kernel)) (zin 15 (by decide +kernel) (by decide +kernel))
theorem lL_252 : zLV RL 252 RX11 yX11_undo := z4 (zin 1882 (by decide +kernel) (by decide +kernel)) (zin 1883 (by decide +kernel) (by decide +kernel)) (zin 1884 (by decide +kernel) (by decide +kernel)) (zin 15 (by decide +kernel) (by decide +kernel))
theorem lL_256 : zLV RL 256 RX11 yX11_save := z4 (zin 1886 (by decide +kernel) (by decide +kernel)) (zin 1887 (by decide +kernel) (by decide +kernel)) (zin 1888 (by decide +kernel) (by decide +kernel)) (zin 15 (by decide +kernel) (by decide +kernel))
theorem lL_259 : zLV RL 259 RX11 yX11_restore := z4 (zin 1890 (by decide +kernel) (by decide +kernel)) (zin 1891 (by decide +kernel) (by decide +kernel)) (zin 1892 (by decide +kernel) (by decide +kernel)) (zin 15 (by decide +kernel) (by decide +kernel))
end
section
/-! ===== THE SMALL MACHINE: judgements zX (a body at a point), zM (a method's contract), over a heap as a partial function ===== -/
abbrev zE : Type := (FieldType × vp_A) ⊕ (Nat × List Value)
abbrev zH : Type := Nat → Option zE
abbrev zO : Type := Option Value ⊕ String
abbrev zP : Type := zO → zH → Prop
abbrev zV : Type := Option Value → zH → Prop
/-- the run's own: the launch, the classes' numbers and slots, the first new address, the String constants' addresses, other constants' addresses -/
abbrev zG : Type := Launch × va_G × Nat × (Nat → Nat) × (Nat → Nat)
def zA (Γ : zG) : Nat → Prop := fun q => Γ.2.2.1 ≤ q
def zMt (G : zH) (ws : va_W) (tys : List (ClassId × FieldType)) : Prop := ∀ a e, G a = some e → match e with
  | .inr o => (a, Sum.inr o) ∈ ws
  | .inl (ty, x) => ∃ cA : ClassId, (a, Sum.inl (cA, x)) ∈ ws ∧ (cA, ty) ∈ tys
def zHR (Γ : zG) (G : zH) (U : State) (H : Heap) : Prop := ∃ (ws : va_W) (tys : List (ClassId × FieldType)), va_P Γ.2.1 zcl ws H ∧ va_D (zA Γ) ws ∧ va_K Γ.2.1 zcl tys U ∧ zMt G ws tys
theorem zHR.moved {Γ : zG} {G : zH} {u U : State} {H : Heap} (hvm : u.vm.Alike U.vm) (h : zHR Γ G u H) : zHR Γ G U H := by
  obtain ⟨ws, tys, h1, h2, h3, h4⟩ := h
  exact ⟨ws, tys, h1, h2, h3.moved hvm, h4⟩
theorem zHR.kept {Γ : zG} {G : zH} {U : State} {H H1 : Heap} (h : zHR Γ G U H) (hq : ∀ q : Nat, q < H.size → H1[q]? = H[q]?) : zHR Γ G U H1 := by
  obtain ⟨ws, tys, h1, h2, h3, h4⟩ := h
  exact ⟨ws, tys, h1.kept (fun k x hx => hq x.1 ((h1 k x hx).lt)), h2, h3, h4⟩
/-- nest links and castings that hold in every state -/
def zNest : List Cond := [.methodLinkNest RX10 9 yX6_init RX10, .methodLinkNest RX6 15 yX8_init RX10, .methodLinkNest RX6 22 yX2_init RX10, .methodLinkNest RX6 29 yX1_init RX10, .methodLinkNest RX6 36 yX0_init RX10, .methodLinkNest RX6 43 yX4_init RX10, .methodLinkNest RX3 22 yX6_init RX10, .methodLinkNest RX10 37 yX5_init RX10, .methodLinkNest RX10 44 yX9_init RX10]
def zDecl : List MethodName := [⟨"java/lang/RuntimeException", "<init>", "()V"⟩, ⟨"java/lang/RuntimeException", "<init>", "(Ljava/lang/String;)V"⟩, ⟨"java/lang/Exception", "<init>", "()V"⟩, ⟨"java/lang/Exception", "<init>", "(Ljava/lang/String;)V"⟩, ⟨"java/lang/Throwable", "<init>", "()V"⟩, ⟨"java/lang/Throwable", "<init>", "(Ljava/lang/String;)V"⟩, ⟨"java/lang/IndexOutOfBoundsException", "<init>", "()V"⟩, ⟨"java/lang/IndexOutOfBoundsException", "<init>", "(Ljava/lang/String;)V"⟩]
def zCast : List (String × String) := ["java/lang/UnsupportedOperationException", "java/lang/IndexOutOfBoundsException", "java/lang/IllegalArgumentException", "java/util/NoSuchElementException", "java/lang/IllegalStateException", "java/lang/ArithmeticException"].map fun c => (c, c)
def zNoCast : List (String × String) := [("java/lang/IllegalArgumentException", "java/lang/IndexOutOfBoundsException"), ("java/util/NoSuchElementException", "java/lang/IndexOutOfBoundsException"), ("java/util/NoSuchElementException", "java/lang/IllegalArgumentException"), ("java/lang/UnsupportedOperationException", "java/lang/IllegalArgumentException"), ("java/lang/ArithmeticException", "java/lang/IndexOutOfBoundsException")]
/-- the String constants of the code: class, entry, text; the first six with their contents -/
def zStrs : List (String × Nat × String) := [(RX9, 44, "1:2/1"), (RX9, 46, "1:2"), (RX9, 48, "1"), (RX9, 50, "2+1"), (RX9, 52, "2"), (RX9, 54, ""),
  (RX10, 72, "the stone is refused"), (RX10, 94, "the flood is refused"), (RX10, 105, "the epoch is refused"), (RX10, 121, "the chisel is refused"), (RX10, 135, "the mark is refused"), (RX10, 143, "the effacing is refused"), (RX10, 158, "the sharpening is refused"), (RX10, 167, "the check is refused"), (RX10, 175, "the witnesses are refused"), (RX10, 183, "the years are refused"), (RX10, 194, "no such stone"), (RX10, 223, "what is not from 0 to 5"), (RX10, 227, "no such flood"), (RX10, 252, "no flood is told for the year"), (RX10, 258, "no flood is told for a lesser year"), (RX10, 261, "no such chisel"), (RX10, 266, "no such stone or flood"), (RX10, 268, "what is not from 0 to 4"), (RX10, 273, "no such mark"), (RX10, 293, "no such place"), (RX10, 301, "the year is not from 0 to 999"), (RX10, 306, "the years are not from 0 to 60"), (RX10, 322, "no such rank"), (RX10, 336, "the text buffer is full"), (RX10, 349, "the text has a fault"), (RX10, 363, "a command is refused"), (RX10, 374, "what is not from 0 to 2"), (RX10, 379, "nothing was refused"), (RX10, 397, "no such index"), (RX10, 405, "there are no marks for the flood"), (RX10, 412, "there are no chisels"), (RX10, 439, "what is not from 0 to 11"), (RX10, 441, "nothing can be undone"), (RX10, 446, "there is no snapshot")]
def zLen : List Nat := [5, 3, 1, 3, 1, 0]
def zByt : List (List Int32) := [[49, 58, 50, 47, 49], [49, 58, 50], [49], [50, 43, 49], [50], []]
def zStr (i : Nat) (Γ : zG) (U : State) (H : Heap) : Prop := va_O "java/lang/String" (Γ.2.2.2.1 i) (zA Γ) U H ∧ va_OF "java/lang/String" "coder" "B" (.int 0) (Γ.2.2.2.1 i) (zA Γ) U H ∧ va_OF "java/lang/String" "value" "[B" (.ref (Γ.2.2.2.2 i)) (Γ.2.2.2.1 i) (zA Γ) U H ∧ va_T .byte (Γ.2.2.2.2 i) (zLen.getD i 0) (fun j => .int ((zByt.getD i []).getD j 0)) (zA Γ) U H
def zOnes (j : Nat) : Int32 := nI (48 + j % 10)
def zTens (j : Nat) : Int32 := nI (48 + j / 10)
/-- what holds throughout a run beside the heap's own things: links, constants, statics -/
def zKs (Γ : zG) (U : State) : Prop := Γ.1.stackTraces = false ∧ (∀ w ∈ zNest, va_Nw w U) ∧ (∀ q ∈ zCast, va_Nw (.castable q.1 q.2) U) ∧ (∀ q ∈ zNoCast, va_Nc q.1 q.2 U) ∧ (∀ i q, zStrs[i]? = some q → vk_R q.1 q.2.1 q.2.2 (Γ.2.2.2.1 i) U) ∧ va_AO RX6 U ∧ (∀ y ∈ zDecl, va_Nw (.declares y) U)
def zKh (Γ : zG) (U : State) (H : Heap) : Prop := Γ.2.2.1 ≤ H.size ∧ (∀ i, i < 6 → zStr i Γ U H) ∧
  va_Z "java/lang/String" "COMPACT_STRINGS" "Z" (.int 1) (zA Γ) U H ∧ va_Z "java/lang/Integer" "DigitOnes" "[B" (.ref (Γ.2.2.2.2 100)) (zA Γ) U H ∧ va_Z "java/lang/Integer" "DigitTens" "[B" (.ref (Γ.2.2.2.2 101)) (zA Γ) U H ∧
  va_T .byte (Γ.2.2.2.2 100) 100 (fun j => .int (zOnes j)) (zA Γ) U H ∧ va_T .byte (Γ.2.2.2.2 101) 100 (fun j => .int (zTens j)) (zA Γ) U H ∧
  vx_Zq Bundle.tN "UNASSIGNED_STACK" Bundle.steD (zA Γ) U H ∧ vx_Zq Bundle.tN "SUPPRESSED_SENTINEL" Bundle.listD (zA Γ) U H ∧
  ((zA Γ) (Γ.2.2.2.2 102) → False) ∧ va_X (Γ.2.2.2.2 102) (Γ.2.2.2.2 103) (fun j => nI (Γ.2.2.2.2 (104 + j))) U H
theorem zX_lt {b L : Nat} {xs : Nat → Int32} {U : State} {H : Heap} (h : va_X b L xs U H) : b < H.size := by
  obtain ⟨scr, h1, -⟩ := h
  exact (Array.getElem?_eq_some_iff.mp h1).1
theorem zKs.warm {Γ : zG} {s U : State} (hW : s.WarmedH U.vm) (h : zKs Γ s) : zKs Γ U := by
  obtain ⟨h0, h1, h2, h3, h4, h5, h6⟩ := h
  refine ⟨h0, fun w hw => ?_, fun q hq => va_Nw.warmC hW (h2 q hq), fun q hq => va_Nc.moved hW.alike (h3 q hq), fun i q hq => (h4 i q hq).warm hW, va_AO.moved hW.alike h5, fun y hy => va_Nw.warmD hW (h6 y hy)⟩
  have hz := h1 w hw
  simp only [zNest, List.mem_cons, List.not_mem_nil, or_false] at hw
  rcases hw with rfl | rfl | rfl | rfl | rfl | rfl | rfl | rfl | rfl <;> exact va_Nw.warmM hW hz
theorem zKs.same {Γ : zG} {s U : State} (hv : s.vm = U.vm) (h : zKs Γ s) : zKs Γ U := by
  obtain ⟨h0, h1, h2, h3, h4, h5, h6⟩ := h
  refine ⟨h0, fun w hw => ?_, fun q hq => va_Nw.same rfl hv (h2 q hq), fun q hq => va_Nc.moved (by rw [hv]; exact Vm.Alike.refl _) (h3 q hq), fun i q hq => (h4 i q hq).same hv.symm, va_AO.moved (by rw [hv]; exact Vm.Alike.refl _) h5, fun y hy => va_Nw.same rfl hv (h6 y hy)⟩
  have hz := h1 w hw
  simp only [zNest, List.mem_cons, List.not_mem_nil, or_false] at hw
  rcases hw with rfl | rfl | rfl | rfl | rfl | rfl | rfl | rfl | rfl <;> exact va_Nw.same rfl hv hz
theorem zKh.moved {Γ : zG} {u U : State} {H : Heap} (hvm : u.vm.Alike U.vm) (h : zKh Γ u H) : zKh Γ U H := by
  obtain ⟨h0, h1, h2, h3, h4, h5, h6, h7, h8, h9, h10⟩ := h
  exact ⟨h0, fun i hi => ⟨va_O.moved hvm (h1 i hi).1, va_OF.moved hvm (h1 i hi).2.1, va_OF.moved hvm (h1 i hi).2.2.1, va_T.moved hvm (h1 i hi).2.2.2⟩, va_Z.moved hvm h2, va_Z.moved hvm h3, va_Z.moved hvm h4, va_T.moved hvm h5, va_T.moved hvm h6, vx_Zq.moved hvm h7, vx_Zq.moved hvm h8, h9, h10.moved hvm⟩
theorem zKh.kept {Γ : zG} {U : State} {H H1 : Heap} (h : zKh Γ U H) (hs : H.size ≤ H1.size) (hq : ∀ a : Nat, a < H.size → ¬ (zA Γ) a → H1[a]? = H[a]?) : zKh Γ U H1 := by
  obtain ⟨h0, h1, h2, h3, h4, h5, h6, h7, h8, h9, h10⟩ := h
  exact ⟨Nat.le_trans h0 hs, fun i hi => ⟨(h1 i hi).1.kept hq, (h1 i hi).2.1.kept hq, (h1 i hi).2.2.1.kept hq, (h1 i hi).2.2.2.kept hq⟩, h2.kept hq, h3.kept hq, h4.kept hq, h5.kept hq, h6.kept hq, h7.kept hq, h8.kept hq, h9, h10.kept (hq _ (zX_lt h10) h9)⟩
/-- the room at depth d -/
def zFr (d : Nat) : Nat := d + 8
def zLo (d : Nat) : Nat := 64 * d + 160
def zRm (d mc ms : Nat) : Room := { frames := zFr d, cells := mc, slots := ms, locals := zLo d }
def zQ (Γ : zG) (Post : zP) : Array Value → State → Outcome → State → Prop := fun _ st o t => (∃ (v : Option Value) (G : zH), o = .returned v ∧ Post (.inl v) G ∧ zHR Γ G t t.heap) ∧ va_F (zA Γ) st t
def zXC (Γ : zG) (Post : zP) : String → State → State → Prop := fun E st t => (∃ G : zH, Post (.inr E) G ∧ zHR Γ G t t.heap) ∧ va_F (zA Γ) st t
def zPre (Γ : zG) (G : zH) : State → Prop := fun U => zHR Γ G U U.heap ∧ zKs Γ U ∧ zKh Γ U U.heap
/-- a method's contract, that returns or throws -/
def zMX (Γ : zG) (d : Nat) (mi : zMI) (mc ms : Nat) (args : List Value) (G : zH) (Post : zP) : Prop :=
  vx_Met Γ.1 mi.1 (Cond.code mi.1 mi.2.1 mi.2.2.1 mi.2.2.2.1 :: lw_good) (zRm d mc ms) (va_Pc args (zPre Γ G)) (zQ Γ Post) (zXC Γ Post) mc ms (zA Γ)
/-- a method's contract, that returns -/
def zM (Γ : zG) (d : Nat) (mi : zMI) (mc ms : Nat) (args : List Value) (G : zH) (Post : zV) : Prop :=
  Met Γ.1 mi.1 (Cond.code mi.1 mi.2.1 mi.2.2.1 mi.2.2.2.1 :: lw_good) (zRm d mc ms) (va_Pc args (zPre Γ G)) (fun _ st o t => (∃ (v : Option Value) (G : zH), o = .returned v ∧ Post v G ∧ zHR Γ G t t.heap) ∧ va_F (zA Γ) st t) mc ms (zA Γ)
/-- what is known of the locals: by their places -/
def zlv (nL : Nat) (ls : Array Slot) (lv : List (Option Value)) : Prop := ls.size = nL ∧ lv_wf ls ∧ ∀ (i : Nat) (v : Value), lv[i]? = some (some v) → ls[i]? = some (.val v)
def zCtx (Γ : zG) (mi : zMI) (d mc ms : Nat) (p : Program) (R : Room) (s : State) (m : MethodId) (args : Array Value) (meth : Method) (c : Code) : Prop :=
  p.tables.exec = Jvm.exec ∧ c.code = mi.2.1 ∧ c.maxLocals = mi.2.2.1 ∧ s.vm.findClass mi.1.cls = some m.cls ∧ (∀ w ∈ lw_good, w.before args s = true) ∧ meth.sig.returnType = mi.2.2.2.1 ∧ meth.locks = false ∧ meth.name = mi.1.name ∧ c.exceptionTable.toList = tableOf mi.2.2.2.2 ∧ zKs Γ s ∧ zKh Γ s s.heap ∧ zFr d ≤ R.frames ∧ zLo d ≤ R.locals ∧ mc ≤ R.cells ∧ ms ≤ R.slots
/-- the body at pc: locals lv, operand stack st, heap G, k cells and n slots made so far: it comes to an end with Post -/
def zX (Γ : zG) (mi : zMI) (d mc ms pc : Nat) (lv : List (Option Value)) (st : List Value) (G : zH) (k n : Nat) (Post : zP) : Prop :=
  ∀ (p : Program) (e : Env) (R : Room) (s : State) (m : MethodId) (args : Array Value) (below : List Frame) (meth : Method) (c : Code) (H : Heap) (locs : List Loc) (ls : Array Slot),
    zCtx Γ mi d mc ms p R s m args meth c → zHR Γ G s H → va_S (zA Γ) s.heap H locs → zlv mi.2.2.1 ls lv →
    W p Γ.1 e R s m args below meth c H locs k n (vx_MQ below (zQ Γ Post) (zXC Γ Post) args s mc ms (zA Γ)) (F0 m pc ls st)
/-- .. and where q has been thrown there -/
def zT (Γ : zG) (mi : zMI) (d mc ms pc : Nat) (lv : List (Option Value)) (E : String) (G : zH) (k n : Nat) (Post : zP) : Prop :=
  ∀ (p : Program) (e : Env) (R : Room) (s : State) (m : MethodId) (args : Array Value) (below : List Frame) (meth : Method) (c : Code) (H : Heap) (locs : List Loc) (ls : Array Slot) (rest : List Value) (q : Addr) (ce : Cell),
    zCtx Γ mi d mc ms p R s m args meth c → zHR Γ G s H → va_S (zA Γ) s.heap H locs → zlv mi.2.2.1 ls lv → H[q]? = some ce → ce.vm = .none → s.vm.findClass E = some ce.cls →
    vx_W p Γ.1 e R s m args below meth c H locs k n (vx_MQ below (zQ Γ Post) (zXC Γ Post) args s mc ms (zA Γ)) (F0 m pc ls rest) q
def zlift (Post : zV) : zP := fun o G => match o with
  | .inl v => Post v G
  | .inr _ => False
def zlv0 (n : Nat) (args : List Value) : List (Option Value) := args.map some ++ List.replicate (n - args.length) none
theorem zsl1 : ∀ args : List Value, args.all (fun v => v.category == 1) = true → (lg_sl args).length = args.length
  | [], _ => rfl
  | v :: vs, h => by
    simp only [List.all_cons, Bool.and_eq_true, beq_iff_eq] at h
    have ih := zsl1 vs h.2
    have e : lg_sl (v :: vs) = .val v :: lg_sl vs := by simp [lg_sl, h.1]
    rw [e, List.length_cons, List.length_cons, ih]
theorem zargs1 : ∀ (args : List Value) (k : Nat), args.all (fun v => v.category == 1) = true → ∀ (i : Nat) (v : Value), args[i]? = some v → (k + i, v) ∈ lv_args k args
  | [], _, _, i, v, h2 => by simp at h2
  | w :: ws, k, h, i, v, h2 => by
    simp only [List.all_cons, Bool.and_eq_true, beq_iff_eq] at h
    have e : lv_args k (w :: ws) = (k, w) :: lv_args (k + 1) ws := by simp [lv_args, h.1]
    rw [e]
    cases i with
    | zero => simp at h2; subst h2; exact List.mem_cons_self
    | succ i =>
      refine List.mem_cons_of_mem _ ?_
      have := zargs1 ws (k + 1) h.2 i v (by simpa using h2)
      rwa [show k + (i + 1) = k + 1 + i by omega]
theorem zlv_entry {n : Nat} {args : List Value} (h1 : args.all (fun v => v.category == 1) = true) (hn : args.length ≤ n) : zlv n ((lg_sl args ++ List.replicate (n - (lg_sl args).length) Slot.unset).toArray) (zlv0 n args) := by
  obtain ⟨g1, g2, g3⟩ := lv_entry args (n := n) (by rw [zsl1 args h1]; exact hn)
  refine ⟨g1, g2, fun i v hv => g3 (i, v) ?_⟩
  have h0 : args[i]? = some v := by
    unfold zlv0 at hv
    by_cases hi : i < args.length
    · rw [List.getElem?_append_left (by simpa using hi), List.getElem?_map] at hv
      cases ha : args[i]? with
      | none => rw [ha] at hv; cases hv
      | some w => rw [ha] at hv; simpa using hv
    · rw [List.getElem?_append_right (by simpa using hi), List.getElem?_replicate] at hv
      split at hv <;> simp at hv
  have := zargs1 args 0 h1 i v h0
  rwa [Nat.zero_add] at this
set_option maxHeartbeats 1000000 in
/-- a method by its body -/
theorem zMX_of {Γ : zG} {mi : zMI} {d mc ms : Nat} {args : List Value} {G : zH} {Post : zP} (hy : plainName mi.1.cls = true) (h1 : args.all (fun v => v.category == 1) = true) (hn : args.length ≤ mi.2.2.1) (hh : mi.2.2.2.2 = [])
    (k : zX Γ mi d mc ms 0 (zlv0 mi.2.2.1 args) [] G 0 0 Post) : zMX Γ d mi mc ms args G Post := by
  refine vx_ofW (cc := mi.2.1) (maxL := mi.2.2.1) (ret := mi.2.2.2.1) hy rfl ?_
  intro p e s m args' below meth c s₁ B hml hnx hv
  obtain ⟨rfl, hH, hs, hh1⟩ := hv
  have hts := atoms_spec (ws := Cond.code mi.1 mi.2.1 mi.2.2.1 mi.2.2.2.1 :: lw_good) B.pre
  rw [lg_entry_eq]
  refine k p e _ s m _ below meth c s.heap [] _ ⟨B.exec, B.bytes, hml, findClass_of_methodNamed B.named, fun w hw => hts w (List.mem_cons_of_mem _ hw), B.returns, B.notSynchronized, (name_of_methodNamed B.named B.method).1, ?_, hs, hh1, Nat.le_refl _, Nat.le_refl _, Nat.le_refl _, Nat.le_refl _⟩ hH va_S.rf (zlv_entry h1 hn)
  rw [hh]
  cases he : c.exceptionTable.toList with
  | nil => rfl
  | cons x xs => exact absurd (by rw [he]; exact List.mem_cons_self) (fun z => hnx x z)
theorem zM_X {Γ : zG} {mi : zMI} {d mc ms : Nat} {args : List Value} {G : zH} {Post : zV} (h : zMX Γ d mi mc ms args G (zlift Post)) : zM Γ d mi mc ms args G Post := by
  intro p e h1 h2 h3 s m a below h4 h5 h6 h7
  obtain ⟨n, o, g1, g2, g3, g4⟩ := h p e h1 h2 h3 s m a below h4 h5 h6 h7
  refine ⟨n, o, g1, g2, g3, ?_⟩
  rcases g4 with g4 | ⟨q, -, E, ce, L, ⟨⟨G', hF, -⟩, -⟩, -⟩
  · exact g4
  · exact hF.elim
theorem zM_of {Γ : zG} {mi : zMI} {d mc ms : Nat} {args : List Value} {G : zH} {Post : zV} (hy : plainName mi.1.cls = true) (h1 : args.all (fun v => v.category == 1) = true) (hn : args.length ≤ mi.2.2.1) (hh : mi.2.2.2.2 = [])
    (k : zX Γ mi d mc ms 0 (zlv0 mi.2.2.1 args) [] G 0 0 (zlift Post)) : zM Γ d mi mc ms args G Post := zM_X (zMX_of hy h1 hn hh k)
/-- the heap's own facts -/
def zset (G : zH) (a : Nat) (e : zE) : zH := fun b => if b = a then some e else G b
theorem zset_s (G : zH) (a : Nat) (e : zE) : zset G a e a = some e := if_pos rfl
theorem zset_n {G : zH} {a b : Nat} {e : zE} (h : b ≠ a) : zset G a e b = G b := if_neg h
theorem zMt.obj {G : zH} {ws : va_W} {tys : List (ClassId × FieldType)} (h : zMt G ws tys) {a : Nat} {o : Nat × List Value} (ha : G a = some (.inr o)) : ∃ q0 : Nat, ws[q0]? = some (a, Sum.inr o) := List.getElem?_of_mem (h a _ ha)
theorem zMt.arr {G : zH} {ws : va_W} {tys : List (ClassId × FieldType)} (h : zMt G ws tys) {a : Nat} {ty : FieldType} {x : vp_A} (ha : G a = some (.inl (ty, x))) : ∃ (cA : ClassId) (q0 t0 : Nat), ws[q0]? = some (a, Sum.inl (cA, x)) ∧ tys[t0]? = some (cA, ty) := by
  obtain ⟨cA, h1, h2⟩ := h a _ ha
  obtain ⟨q0, h3⟩ := List.getElem?_of_mem h1
  obtain ⟨t0, h4⟩ := List.getElem?_of_mem h2
  exact ⟨cA, q0, t0, h3, h4⟩
theorem zset_mem {ws : va_W} {q0 a : Nat} {x y : va_E} (h0 : ws[q0]? = some (a, x)) {b : Nat} {z : va_E} (hb : b ≠ a) (hz : (b, z) ∈ ws) : (b, z) ∈ ws.set q0 (a, y) := by
  obtain ⟨j, hj⟩ := List.getElem?_of_mem hz
  refine List.mem_of_getElem? (i := j) ?_
  rw [List.getElem?_set_ne]
  · exact hj
  · intro e
    subst e
    rw [hj] at h0
    exact hb (congrArg Prod.fst (Option.some.inj h0))
theorem zset_mem0 {ws : va_W} {q0 a : Nat} {x y : va_E} (h0 : ws[q0]? = some (a, x)) : (a, y) ∈ ws.set q0 (a, y) := by
  refine List.mem_of_getElem? (i := q0) ?_
  rw [List.getElem?_set_self (List.getElem?_eq_some_iff.mp h0).1]
theorem zMt.setO {G : zH} {ws : va_W} {tys : List (ClassId × FieldType)} (h : zMt G ws tys) {a q0 : Nat} {x : va_E} (h0 : ws[q0]? = some (a, x)) (o : Nat × List Value) : zMt (zset G a (.inr o)) (ws.set q0 (a, Sum.inr o)) tys := by
  intro b e hb
  by_cases hba : b = a
  · subst hba
    rw [zset_s] at hb
    cases hb
    exact zset_mem0 h0
  · rw [zset_n hba] at hb
    have h1 := h b e hb
    rcases e with ⟨ty, y⟩ | o'
    · obtain ⟨cA, g1, g2⟩ := h1
      exact ⟨cA, zset_mem h0 hba g1, g2⟩
    · exact zset_mem h0 hba h1
theorem zMt.setA {G : zH} {ws : va_W} {tys : List (ClassId × FieldType)} (h : zMt G ws tys) {a q0 t0 : Nat} {x : va_E} {cA : ClassId} {ty : FieldType} (h0 : ws[q0]? = some (a, x)) (ht : tys[t0]? = some (cA, ty)) (y : vp_A) : zMt (zset G a (.inl (ty, y))) (ws.set q0 (a, Sum.inl (cA, y))) tys := by
  intro b e hb
  by_cases hba : b = a
  · subst hba
    rw [zset_s] at hb
    cases hb
    exact ⟨cA, zset_mem0 h0, List.mem_of_getElem? ht⟩
  · rw [zset_n hba] at hb
    have h1 := h b e hb
    rcases e with ⟨ty', y'⟩ | o'
    · obtain ⟨cA', g1, g2⟩ := h1
      exact ⟨cA', zset_mem h0 hba g1, g2⟩
    · exact zset_mem h0 hba h1
theorem zMt.none {G : zH} {ws : va_W} {tys : List (ClassId × FieldType)} (h : zMt G ws tys) {A : Nat → Prop} {q : Nat} {x : va_E} (hD : va_D A (ws ++ [(q, x)])) : G q = none := by
  cases hG : G q with
  | none => rfl
  | some e =>
    have h1 := h q e hG
    have h2 : ∃ y, (q, y) ∈ ws := by
      rcases e with ⟨ty, y⟩ | o
      · obtain ⟨cA, g1, -⟩ := h1
        exact ⟨_, g1⟩
      · exact ⟨_, h1⟩
    obtain ⟨y, hy⟩ := h2
    obtain ⟨j, hj⟩ := List.getElem?_of_mem hy
    have hl : j < ws.length := (List.getElem?_eq_some_iff.mp hj).1
    have e2 := hD.1 j ws.length (q, y) (q, x) (by rw [List.getElem?_append_left hl]; exact hj) (by rw [List.getElem?_append_right (Nat.le_refl _)]; simp) rfl
    omega
theorem zMt.pushO {G : zH} {ws : va_W} {tys : List (ClassId × FieldType)} (h : zMt G ws tys) (q : Nat) (o : Nat × List Value) : zMt (zset G q (.inr o)) (ws ++ [(q, Sum.inr o)]) tys := by
  intro b e hb
  by_cases hbq : b = q
  · subst hbq
    rw [zset_s] at hb
    cases hb
    exact List.mem_append_right _ List.mem_cons_self
  · rw [zset_n hbq] at hb
    have h1 := h b e hb
    rcases e with ⟨ty, y⟩ | o'
    · obtain ⟨cA, g1, g2⟩ := h1
      exact ⟨cA, List.mem_append_left _ g1, g2⟩
    · exact List.mem_append_left _ h1
theorem zMt.pushA {G : zH} {ws : va_W} {tys : List (ClassId × FieldType)} (h : zMt G ws tys) (q : Nat) (cA : ClassId) (ty : FieldType) (x : vp_A) : zMt (zset G q (.inl (ty, x))) (ws ++ [(q, Sum.inl (cA, x))]) (tys ++ [(cA, ty)]) := by
  intro b e hb
  by_cases hbq : b = q
  · subst hbq
    rw [zset_s] at hb
    cases hb
    exact ⟨cA, List.mem_append_right _ List.mem_cons_self, List.mem_append_right _ List.mem_cons_self⟩
  · rw [zset_n hbq] at hb
    have h1 := h b e hb
    rcases e with ⟨ty', y⟩ | o'
    · obtain ⟨cA', g1, g2⟩ := h1
      exact ⟨cA', List.mem_append_left _ g1, List.mem_append_left _ g2⟩
    · exact List.mem_append_left _ h1
end
section
theorem zarr_i : Cond.arrayClass .int ∈ lw_good := zin 80 (by decide +kernel) (by decide +kernel)
theorem zarr_c : Cond.arrayClass .char ∈ lw_good := zin 262 (by decide +kernel) (by decide +kernel)
theorem zarr_b : Cond.arrayClass .byte ∈ lw_good := zin 295 (by decide +kernel) (by decide +kernel)
theorem zarr_l : Cond.arrayClass .long ∈ lw_good := zin 1894 (by decide +kernel) (by decide +kernel)
theorem zarr_d : Cond.arrayClass .double ∈ lw_good := zin 1895 (by decide +kernel) (by decide +kernel)
theorem zobj1 : Cond.instanceMethod objectInit ∈ lw_good := zin 42 (by decide +kernel) (by decide +kernel)
theorem zobj2 : Cond.code objectInit ⟨#[0xb1]⟩ 1 none ∈ lw_good := zin 43 (by decide +kernel) (by decide +kernel)
theorem zmmax1 : Cond.static Lib.Math.max.name ∈ lw_good := zin 748 (by decide +kernel) (by decide +kernel)
theorem zmmax2 : Cond.initialized "java/lang/Math" ∈ lw_good := zin 21 (by decide +kernel) (by decide +kernel)
theorem zmmax3 : Cond.code Lib.Math.max.name Lib.Math.max.code 2 (some .int) ∈ lw_good := zin 749 (by decide +kernel) (by decide +kernel)
theorem zmmin1 : Cond.static Lib.Math.min.name ∈ lw_good := zin 403 (by decide +kernel) (by decide +kernel)
theorem zmmin2 : Cond.initialized "java/lang/Math" ∈ lw_good := zin 21 (by decide +kernel) (by decide +kernel)
theorem zmmin3 : Cond.code Lib.Math.min.name Lib.Math.min.code 2 (some .int) ∈ lw_good := zin 404 (by decide +kernel) (by decide +kernel)
/-! ===== a rule an instruction ===== -/
section ZR
variable {Γ : zG} {mi : zMI} {d mc ms pc k n : Nat} {lv : List (Option Value)} {st : List Value} {G : zH} {Post : zP}
theorem zlv.has {nL : Nat} {ls : Array Slot} {lv : List (Option Value)} (h : zlv nL ls lv) : lv_has ls nL (lv.zipIdx.filterMap (fun q => q.1.map fun v => (q.2, v))) := by
  refine ⟨h.1, h.2.1, fun q hq => ?_⟩
  obtain ⟨⟨w, i⟩, h1, h2⟩ := List.mem_filterMap.mp hq
  cases w with
  | none => cases h2
  | some v =>
    cases h2
    obtain ⟨hi, h3⟩ := List.mem_zipIdx' h1
    exact h.2.2 i v (by rw [List.getElem?_eq_getElem hi, ← h3])
theorem zkn_mem {lv : List (Option Value)} {i : Nat} {v : Value} (h : lv[i]? = some (some v)) : (i, v) ∈ lv.zipIdx.filterMap (fun q => q.1.map fun v => (q.2, v)) := by
  refine List.mem_filterMap.mpr ⟨(some v, i), ?_, rfl⟩
  exact List.mem_zipIdx_iff_getElem?.mpr h
def zok (lv : List (Option Value)) : Nat → Bool
  | 0 => true
  | i + 1 => match lv[i]? with
    | some (some w) => w.category != 2
    | _ => true
theorem zlv.st1 {nL i : Nat} {ls' : Array Slot} {lv : List (Option Value)} {v : Value} (hok : zok lv i = true) (h : lv_has ls' nL ((i, v) :: (lv.zipIdx.filterMap (fun q => q.1.map fun v => (q.2, v))).filter (fun q => !(q.1 == i) && !(q.1 + 1 == i && q.2.category == 2)))) : zlv nL ls' (lv.set i (some v)) := by
  refine ⟨h.1, h.2.1, fun j w hw => h.2.2 (j, w) ?_⟩
  by_cases hj : j = i
  · subst hj
    rw [List.getElem?_set_self'] at hw
    cases hl : lv[j]? with
    | none => rw [hl] at hw; cases hw
    | some y => rw [hl] at hw; cases hw; exact List.mem_cons_self
  · rw [List.getElem?_set_ne (Ne.symm hj)] at hw
    refine List.mem_cons_of_mem _ (List.mem_filter.mpr ⟨zkn_mem hw, ?_⟩)
    have h1 : (j == i) = false := beq_false_of_ne hj
    by_cases h2 : j + 1 = i
    · subst h2
      have h3 : (w.category != 2) = true := by simpa [zok, hw] using hok
      have h4 : (w.category == 2) = false := by simpa using h3
      simp [h1, h4]
    · have h5 : (j + 1 == i) = false := beq_false_of_ne h2
      simp [h1, h5]
theorem zlv.st2 {nL i : Nat} {ls' : Array Slot} {lv : List (Option Value)} {v : Value} (hok : zok lv i = true) (h : lv_has ls' nL ((i, v) :: (lv.zipIdx.filterMap (fun q => q.1.map fun v => (q.2, v))).filter (fun q => !(q.1 == i) && (!(q.1 == i + 1) && !(q.1 + 1 == i && q.2.category == 2))))) : zlv nL ls' ((lv.set (i + 1) none).set i (some v)) := by
  refine ⟨h.1, h.2.1, fun j w hw => h.2.2 (j, w) ?_⟩
  by_cases hj : j = i
  · subst hj
    rw [List.getElem?_set_self'] at hw
    cases hl : (lv.set (j + 1) none)[j]? with
    | none => rw [hl] at hw; cases hw
    | some y => rw [hl] at hw; cases hw; exact List.mem_cons_self
  · rw [List.getElem?_set_ne (Ne.symm hj)] at hw
    by_cases hj2 : j = i + 1
    · subst hj2
      rw [List.getElem?_set_self'] at hw
      cases hl : lv[i + 1]? with
      | none => rw [hl] at hw; cases hw
      | some y => rw [hl] at hw; cases hw
    · rw [List.getElem?_set_ne (Ne.symm hj2)] at hw
      refine List.mem_cons_of_mem _ (List.mem_filter.mpr ⟨zkn_mem hw, ?_⟩)
      have h1 : (j == i) = false := beq_false_of_ne hj
      have h1' : (j == i + 1) = false := beq_false_of_ne hj2
      by_cases h2 : j + 1 = i
      · subst h2
        have h3 : (w.category != 2) = true := by simpa [zok, hw] using hok
        have h4 : (w.category == 2) = false := by simpa using h3
        simp [h1, h1', h4]
      · have h5 : (j + 1 == i) = false := beq_false_of_ne h2
        simp [h1, h1', h5]
theorem zlv.sub {nL : Nat} {ls : Array Slot} {lv lv' : List (Option Value)} (h : zlv nL ls lv) (hs : ∀ (i : Nat) (v : Value), lv'[i]? = some (some v) → lv[i]? = some (some v)) : zlv nL ls lv' := ⟨h.1, h.2.1, fun i v hv => h.2.2 i v (hs i v hv)⟩
/-- fewer locals known -/
def zsubL : List (Option Value) → List (Option Value) → Prop
  | [], _ => True
  | none :: a, _ :: b => zsubL a b
  | none :: a, [] => zsubL a []
  | some v :: a, w :: b => w = some v ∧ zsubL a b
  | some _ :: _, [] => False
theorem zsubL.get : ∀ {a b : List (Option Value)}, zsubL a b → ∀ (i : Nat) (v : Value), a[i]? = some (some v) → b[i]? = some (some v)
  | [], _, _, i, v, hv => by simp at hv
  | none :: a, w :: b, h, 0, v, hv => by simp at hv
  | none :: a, w :: b, h, i + 1, v, hv => by simpa using zsubL.get (a := a) (b := b) h i v (by simpa using hv)
  | none :: a, [], h, 0, v, hv => by simp at hv
  | none :: a, [], h, i + 1, v, hv => by
    have := zsubL.get (a := a) (b := []) h i v (by simpa using hv)
    simp at this
  | some x :: a, w :: b, h, 0, v, hv => by
    obtain ⟨rfl, -⟩ := h
    simpa using hv
  | some x :: a, w :: b, h, i + 1, v, hv => by simpa using zsubL.get (a := a) (b := b) h.2 i v (by simpa using hv)
theorem z_sub {lv' : List (Option Value)} (hs : zsubL lv' lv) (kk : zX Γ mi d mc ms pc lv' st G k n Post) : zX Γ mi d mc ms pc lv st G k n Post := fun p e R s m args below meth c H locs ls C hH hS hl => kk p e R s m args below meth c H locs ls C hH hS (hl.sub hs.get)
theorem z_mono {Post' : zP} (hp : ∀ o G', Post' o G' → Post o G') (kk : zX Γ mi d mc ms pc lv st G k n Post') : zX Γ mi d mc ms pc lv st G k n Post := by
  intro p e R s m args below meth c H locs ls C hH hS hl T hT X
  obtain ⟨t, a, o, b1, b2, b3⟩ := kk p e R s m args below meth c H locs ls C hH hS hl T hT X
  refine ⟨t, a, o, b1, b2, ?_⟩
  rcases b3 with ⟨⟨⟨v, G', g1, g2, g3⟩, g4⟩, g5⟩ | ⟨q, g0, E, ce, L, ⟨⟨G', g1, g2⟩, g3⟩, g4⟩
  · exact Or.inl ⟨⟨⟨v, G', g1, hp _ _ g2, g3⟩, g4⟩, g5⟩
  · exact Or.inr ⟨q, g0, E, ce, L, ⟨⟨G', hp _ _ g1, g2⟩, g3⟩, g4⟩
theorem z_heap {G' : zH} (hg : ∀ a e, G' a = some e → G a = some e) (kk : zX Γ mi d mc ms pc lv st G' k n Post) : zX Γ mi d mc ms pc lv st G k n Post := by
  intro p e R s m args below meth c H locs ls C hH hS hl
  obtain ⟨ws, tys, h1, h2, h3, h4⟩ := hH
  exact kk p e R s m args below meth c H locs ls C ⟨ws, tys, h1, h2, h3, fun a x hx => h4 a x (hg a x hx)⟩ hS hl
theorem zM_mono {mi' : zMI} {args : List Value} {P Q : zV} (hp : ∀ v G', P v G' → Q v G') (h : zM Γ d mi' mc ms args G P) : zM Γ d mi' mc ms args G Q := by
  intro p e h1 h2 h3 s m a below h4 h5 h6 h7
  obtain ⟨n, o, g1, g2, g3, ⟨⟨v, G', z1, z2, z3⟩, g5⟩, g6⟩ := h p e h1 h2 h3 s m a below h4 h5 h6 h7
  exact ⟨n, o, g1, g2, g3, ⟨⟨v, G', z1, hp _ _ z2, z3⟩, g5⟩, g6⟩
theorem z_iconst {j : Int} {v : Int32} (hd : decode mi.2.1 pc = .ok (.iconst j, 1)) (hv : Int32.ofInt j = v) (kk : zX Γ mi d mc ms (pc + 1) (lv) (.int v :: st) G (k) (n) Post) : zX Γ mi d mc ms (pc) (lv) (st) G (k) (n) Post := fun p e R s m args below meth c H locs ls C hH hS hl => lv_iconst C.1 C.2.1 hd hv (kk p e R s m args below meth c H locs ls C hH hS hl)
theorem z_bipush {j : Int} {v : Int32} (hd : decode mi.2.1 pc = .ok (.bipush j, 2)) (hv : (Int8.ofInt j).toInt32 = v) (kk : zX Γ mi d mc ms (pc + 2) (lv) (.int v :: st) G (k) (n) Post) : zX Γ mi d mc ms (pc) (lv) (st) G (k) (n) Post := fun p e R s m args below meth c H locs ls C hH hS hl => lv_bipush C.1 C.2.1 hd hv (kk p e R s m args below meth c H locs ls C hH hS hl)
theorem z_sipush {j : Int} {v : Int32} (hd : decode mi.2.1 pc = .ok (.sipush j, 3)) (hv : (Int16.ofInt j).toInt32 = v) (kk : zX Γ mi d mc ms (pc + 3) (lv) (.int v :: st) G (k) (n) Post) : zX Γ mi d mc ms (pc) (lv) (st) G (k) (n) Post := fun p e R s m args below meth c H locs ls C hH hS hl => lv_sipush C.1 C.2.1 hd hv (kk p e R s m args below meth c H locs ls C hH hS hl)
theorem z_lconst {j : Fin 2} {v : Int64} (hd : decode mi.2.1 pc = .ok (.lconst j, 1)) (hv : Int64.ofNat (j : Nat) = v) (kk : zX Γ mi d mc ms (pc + 1) (lv) (.long v :: st) G (k) (n) Post) : zX Γ mi d mc ms (pc) (lv) (st) G (k) (n) Post := fun p e R s m args below meth c H locs ls C hH hS hl => lv_lconst C.1 C.2.1 hd hv (kk p e R s m args below meth c H locs ls C hH hS hl)
theorem z_null  (hd : decode mi.2.1 pc = .ok (.aconst_null, 1))  (kk : zX Γ mi d mc ms (pc + 1) (lv) (.null :: st) G (k) (n) Post) : zX Γ mi d mc ms (pc) (lv) (st) G (k) (n) Post := fun p e R s m args below meth c H locs ls C hH hS hl => lv_null C.1 C.2.1 hd (kk p e R s m args below meth c H locs ls C hH hS hl)
theorem z_dconst0  (hd : decode mi.2.1 pc = .ok (.dconst 0, 1))  (kk : zX Γ mi d mc ms (pc + 1) (lv) (.double 0 :: st) G (k) (n) Post) : zX Γ mi d mc ms (pc) (lv) (st) G (k) (n) Post := fun p e R s m args below meth c H locs ls C hH hS hl => lv_dconst0 C.1 C.2.1 hd (kk p e R s m args below meth c H locs ls C hH hS hl)
theorem z_fconst0  (hd : decode mi.2.1 pc = .ok (.fconst 0, 1))  (kk : zX Γ mi d mc ms (pc + 1) (lv) (.float 0 :: st) G (k) (n) Post) : zX Γ mi d mc ms (pc) (lv) (st) G (k) (n) Post := fun p e R s m args below meth c H locs ls C hH hS hl => lv_fconst0 C.1 C.2.1 hd (kk p e R s m args below meth c H locs ls C hH hS hl)
theorem z_iload_n {j : Fin 4} {x : Int32} (hd : decode mi.2.1 pc = .ok (.iload_n j, 1)) (hv : lv[(j : Nat)]? = some (some (.int x))) (kk : zX Γ mi d mc ms (pc + 1) (lv) (.int x :: st) G (k) (n) Post) : zX Γ mi d mc ms (pc) (lv) (st) G (k) (n) Post := fun p e R s m args below meth c H locs ls C hH hS hl => lv_iload_n C.1 C.2.1 hd rfl (hl.2.2 _ _ hv) (kk p e R s m args below meth c H locs ls C hH hS hl)
theorem z_iload {j : Nat} {x : Int32} (hd : decode mi.2.1 pc = .ok (.iload j, 2)) (hv : lv[j]? = some (some (.int x))) (kk : zX Γ mi d mc ms (pc + 2) (lv) (.int x :: st) G (k) (n) Post) : zX Γ mi d mc ms (pc) (lv) (st) G (k) (n) Post := fun p e R s m args below meth c H locs ls C hH hS hl => lv_iload C.1 C.2.1 hd (hl.2.2 _ _ hv) (kk p e R s m args below meth c H locs ls C hH hS hl)
theorem z_aload_n {j : Fin 4} {x : Nat} (hd : decode mi.2.1 pc = .ok (.aload_n j, 1)) (hv : lv[(j : Nat)]? = some (some (.ref x))) (kk : zX Γ mi d mc ms (pc + 1) (lv) (.ref x :: st) G (k) (n) Post) : zX Γ mi d mc ms (pc) (lv) (st) G (k) (n) Post := fun p e R s m args below meth c H locs ls C hH hS hl => lv_aload_n C.1 C.2.1 hd rfl (hl.2.2 _ _ hv) (kk p e R s m args below meth c H locs ls C hH hS hl)
theorem z_aload {j : Nat} {x : Nat} (hd : decode mi.2.1 pc = .ok (.aload j, 2)) (hv : lv[j]? = some (some (.ref x))) (kk : zX Γ mi d mc ms (pc + 2) (lv) (.ref x :: st) G (k) (n) Post) : zX Γ mi d mc ms (pc) (lv) (st) G (k) (n) Post := fun p e R s m args below meth c H locs ls C hH hS hl => lv_aload C.1 C.2.1 hd (hl.2.2 _ _ hv) (kk p e R s m args below meth c H locs ls C hH hS hl)
theorem z_fload_n {j : Fin 4} {x : UInt32} (hd : decode mi.2.1 pc = .ok (.fload_n j, 1)) (hv : lv[(j : Nat)]? = some (some (.float x))) (kk : zX Γ mi d mc ms (pc + 1) (lv) (.float x :: st) G (k) (n) Post) : zX Γ mi d mc ms (pc) (lv) (st) G (k) (n) Post := fun p e R s m args below meth c H locs ls C hH hS hl => lv_fload_n C.1 C.2.1 hd rfl (hl.2.2 _ _ hv) (kk p e R s m args below meth c H locs ls C hH hS hl)
theorem z_fload {j : Nat} {x : UInt32} (hd : decode mi.2.1 pc = .ok (.fload j, 2)) (hv : lv[j]? = some (some (.float x))) (kk : zX Γ mi d mc ms (pc + 2) (lv) (.float x :: st) G (k) (n) Post) : zX Γ mi d mc ms (pc) (lv) (st) G (k) (n) Post := fun p e R s m args below meth c H locs ls C hH hS hl => lv_fload C.1 C.2.1 hd (hl.2.2 _ _ hv) (kk p e R s m args below meth c H locs ls C hH hS hl)
theorem z_dload_n {j : Fin 4} {x : UInt64} (hd : decode mi.2.1 pc = .ok (.dload_n j, 1)) (hv : lv[(j : Nat)]? = some (some (.double x))) (kk : zX Γ mi d mc ms (pc + 1) (lv) (.double x :: st) G (k) (n) Post) : zX Γ mi d mc ms (pc) (lv) (st) G (k) (n) Post := fun p e R s m args below meth c H locs ls C hH hS hl => lv_dload_n C.1 C.2.1 hd rfl (hl.2.2 _ _ hv) (kk p e R s m args below meth c H locs ls C hH hS hl)
theorem z_dload {j : Nat} {x : UInt64} (hd : decode mi.2.1 pc = .ok (.dload j, 2)) (hv : lv[j]? = some (some (.double x))) (kk : zX Γ mi d mc ms (pc + 2) (lv) (.double x :: st) G (k) (n) Post) : zX Γ mi d mc ms (pc) (lv) (st) G (k) (n) Post := fun p e R s m args below meth c H locs ls C hH hS hl => lv_dload C.1 C.2.1 hd (hl.2.2 _ _ hv) (kk p e R s m args below meth c H locs ls C hH hS hl)
theorem z_lload_n {j : Fin 4} {x : Int64} (hd : decode mi.2.1 pc = .ok (.lload_n j, 1)) (hv : lv[(j : Nat)]? = some (some (.long x))) (kk : zX Γ mi d mc ms (pc + 1) (lv) (.long x :: st) G (k) (n) Post) : zX Γ mi d mc ms (pc) (lv) (st) G (k) (n) Post := fun p e R s m args below meth c H locs ls C hH hS hl => lv_lload_n C.1 C.2.1 hd rfl (hl.2.2 _ _ hv) (kk p e R s m args below meth c H locs ls C hH hS hl)
theorem z_lload {j : Nat} {x : Int64} (hd : decode mi.2.1 pc = .ok (.lload j, 2)) (hv : lv[j]? = some (some (.long x))) (kk : zX Γ mi d mc ms (pc + 2) (lv) (.long x :: st) G (k) (n) Post) : zX Γ mi d mc ms (pc) (lv) (st) G (k) (n) Post := fun p e R s m args below meth c H locs ls C hH hS hl => lv_lload C.1 C.2.1 hd (hl.2.2 _ _ hv) (kk p e R s m args below meth c H locs ls C hH hS hl)
theorem z_istore_n {j : Fin 4} {x : Int32} (hd : decode mi.2.1 pc = .ok (.istore_n j, 1)) (hn : (j : Nat) < mi.2.2.1) (hok : zok lv j = true) (kk : zX Γ mi d mc ms (pc + 1) (lv.set j (some (.int x))) (st) G (k) (n) Post) : zX Γ mi d mc ms (pc) (lv) (.int x :: st) G (k) (n) Post := fun p e R s m args below meth c H locs ls C hH hS hl => lv_istore_n C.1 C.2.1 hd rfl hl.has hn rfl (fun ls1 h1 => kk p e R s m args below meth c H locs ls1 C hH hS (zlv.st1 hok h1))
theorem z_istore {j : Nat} {x : Int32} (hd : decode mi.2.1 pc = .ok (.istore j, 2)) (hn : j < mi.2.2.1) (hok : zok lv j = true) (kk : zX Γ mi d mc ms (pc + 2) (lv.set j (some (.int x))) (st) G (k) (n) Post) : zX Γ mi d mc ms (pc) (lv) (.int x :: st) G (k) (n) Post := fun p e R s m args below meth c H locs ls C hH hS hl => lv_istore C.1 C.2.1 hd hl.has hn rfl (fun ls1 h1 => kk p e R s m args below meth c H locs ls1 C hH hS (zlv.st1 hok h1))
theorem z_astore_n {j : Fin 4} {x : Nat} (hd : decode mi.2.1 pc = .ok (.astore_n j, 1)) (hn : (j : Nat) < mi.2.2.1) (hok : zok lv j = true) (kk : zX Γ mi d mc ms (pc + 1) (lv.set j (some (.ref x))) (st) G (k) (n) Post) : zX Γ mi d mc ms (pc) (lv) (.ref x :: st) G (k) (n) Post := fun p e R s m args below meth c H locs ls C hH hS hl => lv_astore_n C.1 C.2.1 hd rfl hl.has hn rfl (fun ls1 h1 => kk p e R s m args below meth c H locs ls1 C hH hS (zlv.st1 hok h1))
theorem z_astore {j : Nat} {x : Nat} (hd : decode mi.2.1 pc = .ok (.astore j, 2)) (hn : j < mi.2.2.1) (hok : zok lv j = true) (kk : zX Γ mi d mc ms (pc + 2) (lv.set j (some (.ref x))) (st) G (k) (n) Post) : zX Γ mi d mc ms (pc) (lv) (.ref x :: st) G (k) (n) Post := fun p e R s m args below meth c H locs ls C hH hS hl => lv_astore C.1 C.2.1 hd hl.has hn rfl (fun ls1 h1 => kk p e R s m args below meth c H locs ls1 C hH hS (zlv.st1 hok h1))
theorem z_fstore_n {j : Fin 4} {x : UInt32} (hd : decode mi.2.1 pc = .ok (.fstore_n j, 1)) (hn : (j : Nat) < mi.2.2.1) (hok : zok lv j = true) (kk : zX Γ mi d mc ms (pc + 1) (lv.set j (some (.float x))) (st) G (k) (n) Post) : zX Γ mi d mc ms (pc) (lv) (.float x :: st) G (k) (n) Post := fun p e R s m args below meth c H locs ls C hH hS hl => lv_fstore_n C.1 C.2.1 hd rfl hl.has hn rfl (fun ls1 h1 => kk p e R s m args below meth c H locs ls1 C hH hS (zlv.st1 hok h1))
theorem z_fstore {j : Nat} {x : UInt32} (hd : decode mi.2.1 pc = .ok (.fstore j, 2)) (hn : j < mi.2.2.1) (hok : zok lv j = true) (kk : zX Γ mi d mc ms (pc + 2) (lv.set j (some (.float x))) (st) G (k) (n) Post) : zX Γ mi d mc ms (pc) (lv) (.float x :: st) G (k) (n) Post := fun p e R s m args below meth c H locs ls C hH hS hl => lv_fstore C.1 C.2.1 hd hl.has hn rfl (fun ls1 h1 => kk p e R s m args below meth c H locs ls1 C hH hS (zlv.st1 hok h1))
theorem z_dstore {j : Nat} {x : UInt64} (hd : decode mi.2.1 pc = .ok (.dstore j, 2)) (hn : j + 1 < mi.2.2.1) (hok : zok lv j = true) (kk : zX Γ mi d mc ms (pc + 2) ((lv.set (j + 1) none).set j (some (.double x))) (st) G (k) (n) Post) : zX Γ mi d mc ms (pc) (lv) (.double x :: st) G (k) (n) Post := fun p e R s m args below meth c H locs ls C hH hS hl => lv_dstore C.1 C.2.1 hd hl.has hn rfl (fun ls1 h1 => kk p e R s m args below meth c H locs ls1 C hH hS (zlv.st2 hok h1))
theorem z_iinc {j : Nat} {b : Int} {x v : Int32} (hd : decode mi.2.1 pc = .ok (.iinc j b, 3)) (hx : lv[j]? = some (some (.int x))) (hv : x + Int32.ofInt b = v) (hn : j < mi.2.2.1) (hok : zok lv j = true) (kk : zX Γ mi d mc ms (pc + 3) (lv.set j (some (.int v))) (st) G (k) (n) Post) : zX Γ mi d mc ms (pc) (lv) (st) G (k) (n) Post := by
  intro p e R s m args below meth c H locs ls C hH hS hl
  obtain ⟨z, hz⟩ := List.getElem?_of_mem (zkn_mem hx)
  exact lv_iinc C.1 C.2.1 hd hl.has hz hv hn rfl (fun ls1 h1 => kk p e R s m args below meth c H locs ls1 C hH hS (zlv.st1 hok h1))
theorem z_iadd {x y : Int32} (hd : decode mi.2.1 pc = .ok (.iadd, 1))  (kk : zX Γ mi d mc ms (pc + 1) (lv) (.int (x + y) :: st) G (k) (n) Post) : zX Γ mi d mc ms (pc) (lv) (.int y :: .int x :: st) G (k) (n) Post := fun p e R s m args below meth c H locs ls C hH hS hl => lv_iadd C.1 C.2.1 hd (kk p e R s m args below meth c H locs ls C hH hS hl)
theorem z_isub {x y : Int32} (hd : decode mi.2.1 pc = .ok (.isub, 1))  (kk : zX Γ mi d mc ms (pc + 1) (lv) (.int (x - y) :: st) G (k) (n) Post) : zX Γ mi d mc ms (pc) (lv) (.int y :: .int x :: st) G (k) (n) Post := fun p e R s m args below meth c H locs ls C hH hS hl => lv_isub C.1 C.2.1 hd (kk p e R s m args below meth c H locs ls C hH hS hl)
theorem z_imul {x y : Int32} (hd : decode mi.2.1 pc = .ok (.imul, 1))  (kk : zX Γ mi d mc ms (pc + 1) (lv) (.int (x * y) :: st) G (k) (n) Post) : zX Γ mi d mc ms (pc) (lv) (.int y :: .int x :: st) G (k) (n) Post := fun p e R s m args below meth c H locs ls C hH hS hl => lv_imul C.1 C.2.1 hd (kk p e R s m args below meth c H locs ls C hH hS hl)
theorem z_iand {x y : Int32} (hd : decode mi.2.1 pc = .ok (.iand, 1))  (kk : zX Γ mi d mc ms (pc + 1) (lv) (.int (x &&& y) :: st) G (k) (n) Post) : zX Γ mi d mc ms (pc) (lv) (.int y :: .int x :: st) G (k) (n) Post := fun p e R s m args below meth c H locs ls C hH hS hl => lv_iand C.1 C.2.1 hd (kk p e R s m args below meth c H locs ls C hH hS hl)
theorem z_ior {x y : Int32} (hd : decode mi.2.1 pc = .ok (.ior, 1))  (kk : zX Γ mi d mc ms (pc + 1) (lv) (.int (x ||| y) :: st) G (k) (n) Post) : zX Γ mi d mc ms (pc) (lv) (.int y :: .int x :: st) G (k) (n) Post := fun p e R s m args below meth c H locs ls C hH hS hl => lv_ior C.1 C.2.1 hd (kk p e R s m args below meth c H locs ls C hH hS hl)
theorem z_ixor {x y : Int32} (hd : decode mi.2.1 pc = .ok (.ixor, 1))  (kk : zX Γ mi d mc ms (pc + 1) (lv) (.int (x ^^^ y) :: st) G (k) (n) Post) : zX Γ mi d mc ms (pc) (lv) (.int y :: .int x :: st) G (k) (n) Post := fun p e R s m args below meth c H locs ls C hH hS hl => lv_ixor C.1 C.2.1 hd (kk p e R s m args below meth c H locs ls C hH hS hl)
theorem z_idiv {x y : Int32} (hd : decode mi.2.1 pc = .ok (.idiv, 1)) (hne : ¬ y = 0) (kk : zX Γ mi d mc ms (pc + 1) (lv) (.int (x / y) :: st) G (k) (n) Post) : zX Γ mi d mc ms (pc) (lv) (.int y :: .int x :: st) G (k) (n) Post := fun p e R s m args below meth c H locs ls C hH hS hl => lv_idiv C.1 C.2.1 hd hne (kk p e R s m args below meth c H locs ls C hH hS hl)
theorem z_irem {x y : Int32} (hd : decode mi.2.1 pc = .ok (.irem, 1)) (hne : ¬ y = 0) (kk : zX Γ mi d mc ms (pc + 1) (lv) (.int (x - x / y * y) :: st) G (k) (n) Post) : zX Γ mi d mc ms (pc) (lv) (.int y :: .int x :: st) G (k) (n) Post := fun p e R s m args below meth c H locs ls C hH hS hl => lv_irem C.1 C.2.1 hd hne (kk p e R s m args below meth c H locs ls C hH hS hl)
theorem z_ineg {x : Int32} (hd : decode mi.2.1 pc = .ok (.ineg, 1))  (kk : zX Γ mi d mc ms (pc + 1) (lv) (.int (-x) :: st) G (k) (n) Post) : zX Γ mi d mc ms (pc) (lv) (.int x :: st) G (k) (n) Post := fun p e R s m args below meth c H locs ls C hH hS hl => lv_ineg C.1 C.2.1 hd (kk p e R s m args below meth c H locs ls C hH hS hl)
theorem z_ishl {x y : Int32} (hd : decode mi.2.1 pc = .ok (.ishl, 1))  (kk : zX Γ mi d mc ms (pc + 1) (lv) (.int (x <<< (y &&& 31)) :: st) G (k) (n) Post) : zX Γ mi d mc ms (pc) (lv) (.int y :: .int x :: st) G (k) (n) Post := fun p e R s m args below meth c H locs ls C hH hS hl => lv_ishl C.1 C.2.1 hd (kk p e R s m args below meth c H locs ls C hH hS hl)
theorem z_ishr {x y : Int32} (hd : decode mi.2.1 pc = .ok (.ishr, 1))  (kk : zX Γ mi d mc ms (pc + 1) (lv) (.int (x >>> (y &&& 31)) :: st) G (k) (n) Post) : zX Γ mi d mc ms (pc) (lv) (.int y :: .int x :: st) G (k) (n) Post := fun p e R s m args below meth c H locs ls C hH hS hl => lv_ishr C.1 C.2.1 hd (kk p e R s m args below meth c H locs ls C hH hS hl)
theorem z_i2l {x : Int32} (hd : decode mi.2.1 pc = .ok (.i2l, 1))  (kk : zX Γ mi d mc ms (pc + 1) (lv) (.long x.toInt64 :: st) G (k) (n) Post) : zX Γ mi d mc ms (pc) (lv) (.int x :: st) G (k) (n) Post := fun p e R s m args below meth c H locs ls C hH hS hl => lv_i2l C.1 C.2.1 hd rfl (kk p e R s m args below meth c H locs ls C hH hS hl)
theorem z_i2b {x : Int32} (hd : decode mi.2.1 pc = .ok (.i2b, 1))  (kk : zX Γ mi d mc ms (pc + 1) (lv) (.int x.toInt8.toInt32 :: st) G (k) (n) Post) : zX Γ mi d mc ms (pc) (lv) (.int x :: st) G (k) (n) Post := fun p e R s m args below meth c H locs ls C hH hS hl => lv_i2b C.1 C.2.1 hd rfl (kk p e R s m args below meth c H locs ls C hH hS hl)
theorem z_i2c {x : Int32} (hd : decode mi.2.1 pc = .ok (.i2c, 1))  (kk : zX Γ mi d mc ms (pc + 1) (lv) (.int (x.toUInt32 % 65536).toInt32 :: st) G (k) (n) Post) : zX Γ mi d mc ms (pc) (lv) (.int x :: st) G (k) (n) Post := fun p e R s m args below meth c H locs ls C hH hS hl => lv_i2c C.1 C.2.1 hd rfl (kk p e R s m args below meth c H locs ls C hH hS hl)
theorem z_dup {v : Value} (hd : decode mi.2.1 pc = .ok (.dup, 1)) (hv : v.category = 1) (kk : zX Γ mi d mc ms (pc + 1) (lv) (v :: v :: st) G (k) (n) Post) : zX Γ mi d mc ms (pc) (lv) (v :: st) G (k) (n) Post := fun p e R s m args below meth c H locs ls C hH hS hl => lv_dup C.1 C.2.1 hd hv (kk p e R s m args below meth c H locs ls C hH hS hl)
theorem z_pop {v : Value} (hd : decode mi.2.1 pc = .ok (.pop, 1)) (hv : v.category = 1) (kk : zX Γ mi d mc ms (pc + 1) (lv) (st) G (k) (n) Post) : zX Γ mi d mc ms (pc) (lv) (v :: st) G (k) (n) Post := fun p e R s m args below meth c H locs ls C hH hS hl => lv_pop C.1 C.2.1 hd hv (kk p e R s m args below meth c H locs ls C hH hS hl)
theorem z_dup_x1 {v w : Value} (hd : decode mi.2.1 pc = .ok (.dup_x1, 1)) (hv : v.category = 1) (hw : w.category = 1) (kk : zX Γ mi d mc ms (pc + 1) (lv) (v :: w :: v :: st) G (k) (n) Post) : zX Γ mi d mc ms (pc) (lv) (v :: w :: st) G (k) (n) Post := fun p e R s m args below meth c H locs ls C hH hS hl => lv_dup_x1 C.1 C.2.1 hd hv hw (kk p e R s m args below meth c H locs ls C hH hS hl)
theorem z_dup2_11 {v w : Value} (hd : decode mi.2.1 pc = .ok (.dup2, 1)) (hv : v.category = 1) (hw : w.category = 1) (kk : zX Γ mi d mc ms (pc + 1) (lv) (v :: w :: v :: w :: st) G (k) (n) Post) : zX Γ mi d mc ms (pc) (lv) (v :: w :: st) G (k) (n) Post := fun p e R s m args below meth c H locs ls C hH hS hl => lv_dup2_11 C.1 C.2.1 hd hv hw (kk p e R s m args below meth c H locs ls C hH hS hl)
theorem z_lcmp {x y : Int64} (hd : decode mi.2.1 pc = .ok (.lcmp, 1))  (kk : zX Γ mi d mc ms (pc + 1) (lv) (.int (lg_cmp x y) :: st) G (k) (n) Post) : zX Γ mi d mc ms (pc) (lv) (.long y :: .long x :: st) G (k) (n) Post := fun p e R s m args below meth c H locs ls C hH hS hl => W.lcmp C.1 C.2.1 hd (kk p e R s m args below meth c H locs ls C hH hS hl)
theorem z_fcmp {x y : UInt32} {op : CmpOp} (hd : decode mi.2.1 pc = .ok (.fcmp op, 1))  (kk : zX Γ mi d mc ms (pc + 1) (lv) (.int (Op.cmpValue (FP.fcmp x y) op) :: st) G (k) (n) Post) : zX Γ mi d mc ms (pc) (lv) (.float y :: .float x :: st) G (k) (n) Post := fun p e R s m args below meth c H locs ls C hH hS hl => lv_fcmp C.1 C.2.1 hd (kk p e R s m args below meth c H locs ls C hH hS hl)
theorem z_dcmp {x y : UInt64} {op : CmpOp} (hd : decode mi.2.1 pc = .ok (.dcmp op, 1))  (kk : zX Γ mi d mc ms (pc + 1) (lv) (.int (Op.cmpValue (FP.dcmp x y) op) :: st) G (k) (n) Post) : zX Γ mi d mc ms (pc) (lv) (.double y :: .double x :: st) G (k) (n) Post := fun p e R s m args below meth c H locs ls C hH hS hl => lv_dcmp C.1 C.2.1 hd (kk p e R s m args below meth c H locs ls C hH hS hl)
theorem z_i2f {x : Int32} (hd : decode mi.2.1 pc = .ok (.i2f, 1))  (kk : zX Γ mi d mc ms (pc + 1) (lv) (.float (FP.i2f x) :: st) G (k) (n) Post) : zX Γ mi d mc ms (pc) (lv) (.int x :: st) G (k) (n) Post := fun p e R s m args below meth c H locs ls C hH hS hl => lv_i2f C.1 C.2.1 hd (kk p e R s m args below meth c H locs ls C hH hS hl)
theorem z_i2d {x : Int32} (hd : decode mi.2.1 pc = .ok (.i2d, 1))  (kk : zX Γ mi d mc ms (pc + 1) (lv) (.double (FP.i2d x) :: st) G (k) (n) Post) : zX Γ mi d mc ms (pc) (lv) (.int x :: st) G (k) (n) Post := fun p e R s m args below meth c H locs ls C hH hS hl => lv_i2d C.1 C.2.1 hd (kk p e R s m args below meth c H locs ls C hH hS hl)
theorem z_f2d {x : UInt32} (hd : decode mi.2.1 pc = .ok (.f2d, 1)) (hne : vf_n64 (FP.f2d x)) (kk : zX Γ mi d mc ms (pc + 1) (lv) (.double (FP.f2d x) :: st) G (k) (n) Post) : zX Γ mi d mc ms (pc) (lv) (.float x :: st) G (k) (n) Post := fun p e R s m args below meth c H locs ls C hH hS hl => lv_f2d C.1 C.2.1 hd hne (kk p e R s m args below meth c H locs ls C hH hS hl)
theorem z_fdiv {x y : UInt32} (hd : decode mi.2.1 pc = .ok (.fdiv, 1)) (hne : vf_n32 (FP.fdiv x y)) (kk : zX Γ mi d mc ms (pc + 1) (lv) (.float (FP.fdiv x y) :: st) G (k) (n) Post) : zX Γ mi d mc ms (pc) (lv) (.float y :: .float x :: st) G (k) (n) Post := fun p e R s m args below meth c H locs ls C hH hS hl => lv_fdiv C.1 C.2.1 hd hne (kk p e R s m args below meth c H locs ls C hH hS hl)
theorem z_ddiv {x y : UInt64} (hd : decode mi.2.1 pc = .ok (.ddiv, 1)) (hne : vf_n64 (FP.ddiv x y)) (kk : zX Γ mi d mc ms (pc + 1) (lv) (.double (FP.ddiv x y) :: st) G (k) (n) Post) : zX Γ mi d mc ms (pc) (lv) (.double y :: .double x :: st) G (k) (n) Post := fun p e R s m args below meth c H locs ls C hH hS hl => lv_ddiv C.1 C.2.1 hd hne (kk p e R s m args below meth c H locs ls C hH hS hl)
theorem z_if_eq {x : Int32} {off : Int} {tgt : Nat} (hd : decode mi.2.1 pc = .ok (.ifCond .eq off, 3)) (ht : (pc : Int) + off = (tgt : Int)) (kt : x = 0 → zX Γ mi d mc ms (tgt) (lv) (st) G (k) (n) Post) (kf : ¬ (x = 0) → zX Γ mi d mc ms (pc + 3) (lv) (st) G (k) (n) Post) : zX Γ mi d mc ms (pc) (lv) (.int x :: st) G (k) (n) Post := fun p e R s m args below meth c H locs ls C hH hS hl => lv_if_eq C.1 C.2.1 hd ht (fun h => kt h p e R s m args below meth c H locs ls C hH hS hl) (fun h => kf h p e R s m args below meth c H locs ls C hH hS hl)
theorem z_icmp_eq {x y : Int32} {off : Int} {tgt : Nat} (hd : decode mi.2.1 pc = .ok (.if_icmp .eq off, 3)) (ht : (pc : Int) + off = (tgt : Int)) (kt : x = y → zX Γ mi d mc ms (tgt) (lv) (st) G (k) (n) Post) (kf : ¬ (x = y) → zX Γ mi d mc ms (pc + 3) (lv) (st) G (k) (n) Post) : zX Γ mi d mc ms (pc) (lv) (.int y :: .int x :: st) G (k) (n) Post := fun p e R s m args below meth c H locs ls C hH hS hl => lv_icmp_eq C.1 C.2.1 hd ht (fun h => kt h p e R s m args below meth c H locs ls C hH hS hl) (fun h => kf h p e R s m args below meth c H locs ls C hH hS hl)
theorem z_if_ne {x : Int32} {off : Int} {tgt : Nat} (hd : decode mi.2.1 pc = .ok (.ifCond .ne off, 3)) (ht : (pc : Int) + off = (tgt : Int)) (kt : ¬ x = 0 → zX Γ mi d mc ms (tgt) (lv) (st) G (k) (n) Post) (kf : x = 0 → zX Γ mi d mc ms (pc + 3) (lv) (st) G (k) (n) Post) : zX Γ mi d mc ms (pc) (lv) (.int x :: st) G (k) (n) Post := fun p e R s m args below meth c H locs ls C hH hS hl => lv_if_ne C.1 C.2.1 hd ht (fun h => kt h p e R s m args below meth c H locs ls C hH hS hl) (fun h => kf h p e R s m args below meth c H locs ls C hH hS hl)
theorem z_icmp_ne {x y : Int32} {off : Int} {tgt : Nat} (hd : decode mi.2.1 pc = .ok (.if_icmp .ne off, 3)) (ht : (pc : Int) + off = (tgt : Int)) (kt : ¬ x = y → zX Γ mi d mc ms (tgt) (lv) (st) G (k) (n) Post) (kf : x = y → zX Γ mi d mc ms (pc + 3) (lv) (st) G (k) (n) Post) : zX Γ mi d mc ms (pc) (lv) (.int y :: .int x :: st) G (k) (n) Post := fun p e R s m args below meth c H locs ls C hH hS hl => lv_icmp_ne C.1 C.2.1 hd ht (fun h => kt h p e R s m args below meth c H locs ls C hH hS hl) (fun h => kf h p e R s m args below meth c H locs ls C hH hS hl)
theorem z_if_lt {x : Int32} {off : Int} {tgt : Nat} (hd : decode mi.2.1 pc = .ok (.ifCond .lt off, 3)) (ht : (pc : Int) + off = (tgt : Int)) (kt : x < 0 → zX Γ mi d mc ms (tgt) (lv) (st) G (k) (n) Post) (kf : ¬ (x < 0) → zX Γ mi d mc ms (pc + 3) (lv) (st) G (k) (n) Post) : zX Γ mi d mc ms (pc) (lv) (.int x :: st) G (k) (n) Post := fun p e R s m args below meth c H locs ls C hH hS hl => lv_if_lt C.1 C.2.1 hd ht (fun h => kt h p e R s m args below meth c H locs ls C hH hS hl) (fun h => kf h p e R s m args below meth c H locs ls C hH hS hl)
theorem z_icmp_lt {x y : Int32} {off : Int} {tgt : Nat} (hd : decode mi.2.1 pc = .ok (.if_icmp .lt off, 3)) (ht : (pc : Int) + off = (tgt : Int)) (kt : x < y → zX Γ mi d mc ms (tgt) (lv) (st) G (k) (n) Post) (kf : ¬ (x < y) → zX Γ mi d mc ms (pc + 3) (lv) (st) G (k) (n) Post) : zX Γ mi d mc ms (pc) (lv) (.int y :: .int x :: st) G (k) (n) Post := fun p e R s m args below meth c H locs ls C hH hS hl => lv_icmp_lt C.1 C.2.1 hd ht (fun h => kt h p e R s m args below meth c H locs ls C hH hS hl) (fun h => kf h p e R s m args below meth c H locs ls C hH hS hl)
theorem z_if_ge {x : Int32} {off : Int} {tgt : Nat} (hd : decode mi.2.1 pc = .ok (.ifCond .ge off, 3)) (ht : (pc : Int) + off = (tgt : Int)) (kt : 0 ≤ x → zX Γ mi d mc ms (tgt) (lv) (st) G (k) (n) Post) (kf : ¬ (0 ≤ x) → zX Γ mi d mc ms (pc + 3) (lv) (st) G (k) (n) Post) : zX Γ mi d mc ms (pc) (lv) (.int x :: st) G (k) (n) Post := fun p e R s m args below meth c H locs ls C hH hS hl => lv_if_ge C.1 C.2.1 hd ht (fun h => kt h p e R s m args below meth c H locs ls C hH hS hl) (fun h => kf h p e R s m args below meth c H locs ls C hH hS hl)
theorem z_icmp_ge {x y : Int32} {off : Int} {tgt : Nat} (hd : decode mi.2.1 pc = .ok (.if_icmp .ge off, 3)) (ht : (pc : Int) + off = (tgt : Int)) (kt : y ≤ x → zX Γ mi d mc ms (tgt) (lv) (st) G (k) (n) Post) (kf : ¬ (y ≤ x) → zX Γ mi d mc ms (pc + 3) (lv) (st) G (k) (n) Post) : zX Γ mi d mc ms (pc) (lv) (.int y :: .int x :: st) G (k) (n) Post := fun p e R s m args below meth c H locs ls C hH hS hl => lv_icmp_ge C.1 C.2.1 hd ht (fun h => kt h p e R s m args below meth c H locs ls C hH hS hl) (fun h => kf h p e R s m args below meth c H locs ls C hH hS hl)
theorem z_if_gt {x : Int32} {off : Int} {tgt : Nat} (hd : decode mi.2.1 pc = .ok (.ifCond .gt off, 3)) (ht : (pc : Int) + off = (tgt : Int)) (kt : 0 < x → zX Γ mi d mc ms (tgt) (lv) (st) G (k) (n) Post) (kf : ¬ (0 < x) → zX Γ mi d mc ms (pc + 3) (lv) (st) G (k) (n) Post) : zX Γ mi d mc ms (pc) (lv) (.int x :: st) G (k) (n) Post := fun p e R s m args below meth c H locs ls C hH hS hl => lv_if_gt C.1 C.2.1 hd ht (fun h => kt h p e R s m args below meth c H locs ls C hH hS hl) (fun h => kf h p e R s m args below meth c H locs ls C hH hS hl)
theorem z_icmp_gt {x y : Int32} {off : Int} {tgt : Nat} (hd : decode mi.2.1 pc = .ok (.if_icmp .gt off, 3)) (ht : (pc : Int) + off = (tgt : Int)) (kt : y < x → zX Γ mi d mc ms (tgt) (lv) (st) G (k) (n) Post) (kf : ¬ (y < x) → zX Γ mi d mc ms (pc + 3) (lv) (st) G (k) (n) Post) : zX Γ mi d mc ms (pc) (lv) (.int y :: .int x :: st) G (k) (n) Post := fun p e R s m args below meth c H locs ls C hH hS hl => lv_icmp_gt C.1 C.2.1 hd ht (fun h => kt h p e R s m args below meth c H locs ls C hH hS hl) (fun h => kf h p e R s m args below meth c H locs ls C hH hS hl)
theorem z_if_le {x : Int32} {off : Int} {tgt : Nat} (hd : decode mi.2.1 pc = .ok (.ifCond .le off, 3)) (ht : (pc : Int) + off = (tgt : Int)) (kt : x ≤ 0 → zX Γ mi d mc ms (tgt) (lv) (st) G (k) (n) Post) (kf : ¬ (x ≤ 0) → zX Γ mi d mc ms (pc + 3) (lv) (st) G (k) (n) Post) : zX Γ mi d mc ms (pc) (lv) (.int x :: st) G (k) (n) Post := fun p e R s m args below meth c H locs ls C hH hS hl => lv_if_le C.1 C.2.1 hd ht (fun h => kt h p e R s m args below meth c H locs ls C hH hS hl) (fun h => kf h p e R s m args below meth c H locs ls C hH hS hl)
theorem z_icmp_le {x y : Int32} {off : Int} {tgt : Nat} (hd : decode mi.2.1 pc = .ok (.if_icmp .le off, 3)) (ht : (pc : Int) + off = (tgt : Int)) (kt : x ≤ y → zX Γ mi d mc ms (tgt) (lv) (st) G (k) (n) Post) (kf : ¬ (x ≤ y) → zX Γ mi d mc ms (pc + 3) (lv) (st) G (k) (n) Post) : zX Γ mi d mc ms (pc) (lv) (.int y :: .int x :: st) G (k) (n) Post := fun p e R s m args below meth c H locs ls C hH hS hl => lv_icmp_le C.1 C.2.1 hd ht (fun h => kt h p e R s m args below meth c H locs ls C hH hS hl) (fun h => kf h p e R s m args below meth c H locs ls C hH hS hl)
theorem z_goto {off : Int} {tgt : Nat} (hd : decode mi.2.1 pc = .ok (.goto off, 3)) (ht : (pc : Int) + off = (tgt : Int)) (kk : zX Γ mi d mc ms (tgt) (lv) (st) G (k) (n) Post) : zX Γ mi d mc ms (pc) (lv) (st) G (k) (n) Post := fun p e R s m args below meth c H locs ls C hH hS hl => lv_goto C.1 C.2.1 hd ht (kk p e R s m args below meth c H locs ls C hH hS hl)
theorem z_ifnull_r {x : Nat} {off : Int} (hd : decode mi.2.1 pc = .ok (.ifnull off, 3)) (kk : zX Γ mi d mc ms (pc + 3) (lv) (st) G (k) (n) Post) : zX Γ mi d mc ms (pc) (lv) (.ref x :: st) G (k) (n) Post := fun p e R s m args below meth c H locs ls C hH hS hl => lv_ifnull C.1 C.2.1 hd (kk p e R s m args below meth c H locs ls C hH hS hl)
theorem z_ifnonnull_r {x : Nat} {off : Int} {tgt : Nat} (hd : decode mi.2.1 pc = .ok (.ifnonnull off, 3)) (ht : (pc : Int) + off = (tgt : Int)) (kk : zX Γ mi d mc ms (tgt) (lv) (st) G (k) (n) Post) : zX Γ mi d mc ms (pc) (lv) (.ref x :: st) G (k) (n) Post := fun p e R s m args below meth c H locs ls C hH hS hl => lv_ifnonnull C.1 C.2.1 hd ht (kk p e R s m args below meth c H locs ls C hH hS hl)
theorem z_tableIn {dflt lo hi : Int} {offs : Array Int} {len : Nat} {x : Int32} {off : Int} {tgt : Nat} (hd : decode mi.2.1 pc = .ok (.tableswitch dflt lo hi offs, len)) (h1 : ¬ x.toInt < lo) (h2 : ¬ hi < x.toInt) (ho : offs[(x.toInt - lo).toNat]? = some off) (ht : (pc : Int) + off = (tgt : Int)) (kk : zX Γ mi d mc ms (tgt) (lv) (st) G (k) (n) Post) : zX Γ mi d mc ms (pc) (lv) (.int x :: st) G (k) (n) Post := fun p e R s m args below meth c H locs ls C hH hS hl => lv_tableIn C.1 C.2.1 hd h1 h2 ho ht (kk p e R s m args below meth c H locs ls C hH hS hl)
theorem z_tableOut {dflt lo hi : Int} {offs : Array Int} {len : Nat} {x : Int32} {tgt : Nat} (hd : decode mi.2.1 pc = .ok (.tableswitch dflt lo hi offs, len)) (h : x.toInt < lo ∨ hi < x.toInt) (ht : (pc : Int) + dflt = (tgt : Int)) (kk : zX Γ mi d mc ms (tgt) (lv) (st) G (k) (n) Post) : zX Γ mi d mc ms (pc) (lv) (.int x :: st) G (k) (n) Post := fun p e R s m args below meth c H locs ls C hH hS hl => lv_tableOut C.1 C.2.1 hd h ht (kk p e R s m args below meth c H locs ls C hH hS hl)
theorem z_lookup {dflt : Int} {ps : Array (Int × Int)} {len : Nat} {x : Int32} {off : Int} {tgt : Nat} (hd : decode mi.2.1 pc = .ok (.lookupswitch dflt ps, len)) (hp : (ps.toList.zip (ps.toList.drop 1)).all (fun (a, next) => a.1 < next.1) = true) (ho : Op.lookupswitch.offset ps.toList dflt x.toInt = off) (ht : (pc : Int) + off = (tgt : Int)) (kk : zX Γ mi d mc ms (tgt) (lv) (st) G (k) (n) Post) : zX Γ mi d mc ms (pc) (lv) (.int x :: st) G (k) (n) Post := fun p e R s m args below meth c H locs ls C hH hS hl => lv_lookup C.1 C.2.1 hd hp ho ht (kk p e R s m args below meth c H locs ls C hH hS hl)
theorem z_ldc {j : Nat} {v : Int32} (hd : decode mi.2.1 pc = .ok (.ldc j, 2)) (hc : Cond.constant mi.1.cls j v ∈ lw_good) (kk : zX Γ mi d mc ms (pc + 2) (lv) (.int v :: st) G (k) (n) Post) : zX Γ mi d mc ms (pc) (lv) (st) G (k) (n) Post := fun p e R s m args below meth c H locs ls C hH hS hl => lv_ldc C.1 C.2.1 C.2.2.2.1 (C.2.2.2.2.1 _ hc) hd (kk p e R s m args below meth c H locs ls C hH hS hl)
theorem z_ldcS {j i : Nat} {tx : String} (hd : decode mi.2.1 pc = .ok (.ldc j, 2)) (hi : zStrs[i]? = some (mi.1.cls, j, tx)) (kk : zX Γ mi d mc ms (pc + 2) (lv) (.ref (Γ.2.2.2.1 i) :: st) G (k) (n) Post) : zX Γ mi d mc ms (pc) (lv) (st) G (k) (n) Post := fun p e R s m args below meth c H locs ls C hH hS hl => va_ldcS C.1 C.2.1 C.2.2.2.1 (C.2.2.2.2.2.2.2.2.2.1.2.2.2.2.1 i _ hi) hd (kk p e R s m args below meth c H locs ls C hH hS hl)
theorem z_get {j ci kf a : Nat} {fs : List Value} {v : Value} (hd : decode mi.2.1 pc = .ok (.getfield j, 3)) (hf : zFLr mi.1.cls j ci kf) (hG : G a = some (.inr (ci, fs))) (hv : fs[kf]? = some v) (kk : zX Γ mi d mc ms (pc + 3) (lv) (v :: st) G (k) (n) Post) : zX Γ mi d mc ms (pc) (lv) (.ref a :: st) G (k) (n) Post := by
  intro p e R s m args below meth c H locs ls C hH hS hl
  obtain ⟨Cn, T, N, ty, hc, hk, hlk⟩ := hf
  obtain ⟨ws, tys, h1, h2, h3, h4⟩ := id hH
  obtain ⟨q0, hq⟩ := h4.obj hG
  exact va_get C.1 C.2.1 C.2.2.2.2.1 hc.2.1 C.2.2.2.1 h3 h1 q0 hq hc.1 kf hk (C.2.2.2.2.1 _ hlk) (fun _ h => h) hv hd (kk p e R s m args below meth c H locs ls C hH hS hl)
theorem z_put {j ci kf a : Nat} {fs : List Value} {v : Value} {fty : FieldType} (hd : decode mi.2.1 pc = .ok (.putfield j, 3)) (hf : zFL mi.1.cls j ci kf false fty) (hG : G a = some (.inr (ci, fs))) (hn : narrow fty v = v) (hfit : fits fty v = true) (hl9 : kf < fs.length) (kk : zX Γ mi d mc ms (pc + 3) (lv) (st) (zset G a (.inr (ci, fs.set kf v))) (k) (n) Post) : zX Γ mi d mc ms (pc) (lv) (v :: .ref a :: st) G (k) (n) Post := by
  intro p e R s m args below meth c H locs ls C hH hS hl
  obtain ⟨Cn, T, N, ty, hc, hk, hlk, hfin, hty, hown⟩ := hf
  obtain ⟨ws, tys, h1, h2, h3, h4⟩ := id hH
  obtain ⟨q0, hq⟩ := h4.obj hG
  refine va_put C.1 C.2.1 C.2.2.2.2.1 hc.2.1 ty hc.2.2.1 hc.2.2.2.1 C.2.2.2.1 h3 h1 h2 hS q0 hq hc.1 kf hk (C.2.2.2.2.1 _ hlk) (fun _ h => h) hfin (ty := fty) (by rw [← hty]; exact hc.2.2.1 kf hk) hn hfit hl9 hd (fun H1 locs1 g1 g2 g3 => ?_)
  exact kk p e R s m args below meth c H1 locs1 ls C ⟨_, tys, g1, g2, h3, h4.setO hq _⟩ g3 hl
theorem z_putF {j ci kf a : Nat} {fs : List Value} {v : Value} {fty : FieldType} (hd : decode mi.2.1 pc = .ok (.putfield j, 3)) (hf : zFL mi.1.cls j ci kf true fty) (hini : mi.1.name = "<init>") (hG : G a = some (.inr (ci, fs))) (hn : narrow fty v = v) (hfit : fits fty v = true) (hl9 : kf < fs.length) (kk : zX Γ mi d mc ms (pc + 3) (lv) (st) (zset G a (.inr (ci, fs.set kf v))) (k) (n) Post) : zX Γ mi d mc ms (pc) (lv) (v :: .ref a :: st) G (k) (n) Post := by
  intro p e R s m args below meth c H locs ls C hH hS hl
  obtain ⟨Cn, T, N, ty, hc, hk, hlk, hfin, hty, hown⟩ := hf
  obtain ⟨ws, tys, h1, h2, h3, h4⟩ := id hH
  obtain ⟨q0, hq⟩ := h4.obj hG
  refine va_putF C.1 C.2.1 C.2.2.2.2.1 hc.2.1 ty hc.2.2.1 hc.2.2.2.1 C.2.2.2.1 h3 h1 h2 hS q0 hq hc.1 kf hk (C.2.2.2.2.1 _ hlk) (fun _ h => h) hfin (C.2.2.2.2.2.2.2.1.trans hini) (by rw [if_pos rfl] at hown; exact hown) (ty := fty) (by rw [← hty]; exact hc.2.2.1 kf hk) hn hfit hl9 hd (fun H1 locs1 g1 g2 g3 => ?_)
  exact kk p e R s m args below meth c H1 locs1 ls C ⟨_, tys, g1, g2, h3, h4.setO hq _⟩ g3 hl
theorem z_iald {a nA : Nat} {f : Nat → Int32} {i : Int32} (hd : decode mi.2.1 pc = .ok (.iaload, 1)) (hG : G a = some (.inl (.int, nA, .inl f))) (hi : vp_in i nA) (kk : zX Γ mi d mc ms (pc + 1) (lv) (.int (f i.toNatClampNeg) :: st) G (k) (n) Post) : zX Γ mi d mc ms (pc) (lv) (.int i :: .ref a :: st) G (k) (n) Post := by
  intro p e R s m args below meth c H locs ls C hH hS hl
  obtain ⟨ws, tys, h1, h2, h3, h4⟩ := id hH
  obtain ⟨cA, q0, t0, hq, ht⟩ := h4.arr hG
  exact va_iald C.1 C.2.1 h3 h1 q0 t0 hq ht hi hd (kk p e R s m args below meth c H locs ls C hH hS hl)
theorem z_cald {a nA : Nat} {f : Nat → Int32} {i : Int32} (hd : decode mi.2.1 pc = .ok (.caload, 1)) (hG : G a = some (.inl (.char, nA, .inl f))) (hi : vp_in i nA) (kk : zX Γ mi d mc ms (pc + 1) (lv) (.int (f i.toNatClampNeg) :: st) G (k) (n) Post) : zX Γ mi d mc ms (pc) (lv) (.int i :: .ref a :: st) G (k) (n) Post := by
  intro p e R s m args below meth c H locs ls C hH hS hl
  obtain ⟨ws, tys, h1, h2, h3, h4⟩ := id hH
  obtain ⟨cA, q0, t0, hq, ht⟩ := h4.arr hG
  exact va_cald C.1 C.2.1 h3 h1 q0 t0 hq ht hi hd (kk p e R s m args below meth c H locs ls C hH hS hl)
theorem z_bald {a nA : Nat} {f : Nat → Int32} {i : Int32} (hd : decode mi.2.1 pc = .ok (.baload, 1)) (hG : G a = some (.inl (.byte, nA, .inl f))) (hi : vp_in i nA) (kk : zX Γ mi d mc ms (pc + 1) (lv) (.int (f i.toNatClampNeg) :: st) G (k) (n) Post) : zX Γ mi d mc ms (pc) (lv) (.int i :: .ref a :: st) G (k) (n) Post := by
  intro p e R s m args below meth c H locs ls C hH hS hl
  obtain ⟨ws, tys, h1, h2, h3, h4⟩ := id hH
  obtain ⟨cA, q0, t0, hq, ht⟩ := h4.arr hG
  exact va_bald C.1 C.2.1 h3 h1 q0 t0 hq ht hi hd (kk p e R s m args below meth c H locs ls C hH hS hl)
theorem z_lald {a nA : Nat} {f : Nat → Int64} {i : Int32} (hd : decode mi.2.1 pc = .ok (.laload, 1)) (hG : G a = some (.inl (.long, nA, .inr (.inl f)))) (hi : vp_in i nA) (kk : zX Γ mi d mc ms (pc + 1) (lv) (.long (f i.toNatClampNeg) :: st) G (k) (n) Post) : zX Γ mi d mc ms (pc) (lv) (.int i :: .ref a :: st) G (k) (n) Post := by
  intro p e R s m args below meth c H locs ls C hH hS hl
  obtain ⟨ws, tys, h1, h2, h3, h4⟩ := id hH
  obtain ⟨cA, q0, t0, hq, ht⟩ := h4.arr hG
  exact va_lald C.1 C.2.1 h3 h1 q0 t0 hq ht hi hd (kk p e R s m args below meth c H locs ls C hH hS hl)
theorem z_dald {a nA : Nat} {f : Nat → UInt64} {i : Int32} (hd : decode mi.2.1 pc = .ok (.daload, 1)) (hG : G a = some (.inl (.double, nA, .inr (.inr (.inr (.inl f)))))) (hi : vp_in i nA) (kk : zX Γ mi d mc ms (pc + 1) (lv) (.double (f i.toNatClampNeg) :: st) G (k) (n) Post) : zX Γ mi d mc ms (pc) (lv) (.int i :: .ref a :: st) G (k) (n) Post := by
  intro p e R s m args below meth c H locs ls C hH hS hl
  obtain ⟨ws, tys, h1, h2, h3, h4⟩ := id hH
  obtain ⟨cA, q0, t0, hq, ht⟩ := h4.arr hG
  exact va_dald C.1 C.2.1 h3 h1 q0 t0 hq ht hi hd (kk p e R s m args below meth c H locs ls C hH hS hl)
theorem z_iast {a nA : Nat} {f : Nat → Int32} {i : Int32} {x : Int32} (hd : decode mi.2.1 pc = .ok (.iastore, 1)) (hG : G a = some (.inl (.int, nA, .inl f))) (hi : vp_in i nA) (kk : zX Γ mi d mc ms (pc + 1) (lv) (st) (zset G a (.inl (.int, nA, .inl (upd f i.toNatClampNeg x)))) (k) (n) Post) : zX Γ mi d mc ms (pc) (lv) (.int x :: .int i :: .ref a :: st) G (k) (n) Post := by
  intro p e R s m args below meth c H locs ls C hH hS hl
  obtain ⟨ws, tys, h1, h2, h3, h4⟩ := id hH
  obtain ⟨cA, q0, t0, hq, ht⟩ := h4.arr hG
  refine va_iast C.1 C.2.1 h3 h1 h2 hS q0 t0 hq ht hi hd (fun H1 locs1 g1 g2 g3 => ?_)
  exact kk p e R s m args below meth c H1 locs1 ls C ⟨_, tys, g1, g2, h3, h4.setA hq ht _⟩ g3 hl
theorem z_cast {a nA : Nat} {f : Nat → Int32} {i : Int32} {x : Int32} (hd : decode mi.2.1 pc = .ok (.castore, 1)) (hG : G a = some (.inl (.char, nA, .inl f))) (hi : vp_in i nA) (kk : zX Γ mi d mc ms (pc + 1) (lv) (st) (zset G a (.inl (.char, nA, .inl (upd f i.toNatClampNeg (vp_nar .char x))))) (k) (n) Post) : zX Γ mi d mc ms (pc) (lv) (.int x :: .int i :: .ref a :: st) G (k) (n) Post := by
  intro p e R s m args below meth c H locs ls C hH hS hl
  obtain ⟨ws, tys, h1, h2, h3, h4⟩ := id hH
  obtain ⟨cA, q0, t0, hq, ht⟩ := h4.arr hG
  refine va_cast C.1 C.2.1 h3 h1 h2 hS q0 t0 hq ht hi hd (fun H1 locs1 g1 g2 g3 => ?_)
  exact kk p e R s m args below meth c H1 locs1 ls C ⟨_, tys, g1, g2, h3, h4.setA hq ht _⟩ g3 hl
theorem z_bast {a nA : Nat} {f : Nat → Int32} {i : Int32} {x : Int32} (hd : decode mi.2.1 pc = .ok (.bastore, 1)) (hG : G a = some (.inl (.byte, nA, .inl f))) (hi : vp_in i nA) (kk : zX Γ mi d mc ms (pc + 1) (lv) (st) (zset G a (.inl (.byte, nA, .inl (upd f i.toNatClampNeg (vp_nar .byte x))))) (k) (n) Post) : zX Γ mi d mc ms (pc) (lv) (.int x :: .int i :: .ref a :: st) G (k) (n) Post := by
  intro p e R s m args below meth c H locs ls C hH hS hl
  obtain ⟨ws, tys, h1, h2, h3, h4⟩ := id hH
  obtain ⟨cA, q0, t0, hq, ht⟩ := h4.arr hG
  refine va_bast C.1 C.2.1 h3 h1 h2 hS q0 t0 hq ht hi hd (fun H1 locs1 g1 g2 g3 => ?_)
  exact kk p e R s m args below meth c H1 locs1 ls C ⟨_, tys, g1, g2, h3, h4.setA hq ht _⟩ g3 hl
theorem z_last {a nA : Nat} {f : Nat → Int64} {i : Int32} {x : Int64} (hd : decode mi.2.1 pc = .ok (.lastore, 1)) (hG : G a = some (.inl (.long, nA, .inr (.inl f)))) (hi : vp_in i nA) (kk : zX Γ mi d mc ms (pc + 1) (lv) (st) (zset G a (.inl (.long, nA, .inr (.inl (vp_updL f i.toNatClampNeg x))))) (k) (n) Post) : zX Γ mi d mc ms (pc) (lv) (.long x :: .int i :: .ref a :: st) G (k) (n) Post := by
  intro p e R s m args below meth c H locs ls C hH hS hl
  obtain ⟨ws, tys, h1, h2, h3, h4⟩ := id hH
  obtain ⟨cA, q0, t0, hq, ht⟩ := h4.arr hG
  refine va_last C.1 C.2.1 h3 h1 h2 hS q0 t0 hq ht hi hd (fun H1 locs1 g1 g2 g3 => ?_)
  exact kk p e R s m args below meth c H1 locs1 ls C ⟨_, tys, g1, g2, h3, h4.setA hq ht _⟩ g3 hl
theorem z_dast {a nA : Nat} {f : Nat → UInt64} {i : Int32} {x : UInt64} (hd : decode mi.2.1 pc = .ok (.dastore, 1)) (hG : G a = some (.inl (.double, nA, .inr (.inr (.inr (.inl f)))))) (hi : vp_in i nA) (kk : zX Γ mi d mc ms (pc + 1) (lv) (st) (zset G a (.inl (.double, nA, .inr (.inr (.inr (.inl (vf_upd f i.toNatClampNeg x))))))) (k) (n) Post) : zX Γ mi d mc ms (pc) (lv) (.double x :: .int i :: .ref a :: st) G (k) (n) Post := by
  intro p e R s m args below meth c H locs ls C hH hS hl
  obtain ⟨ws, tys, h1, h2, h3, h4⟩ := id hH
  obtain ⟨cA, q0, t0, hq, ht⟩ := h4.arr hG
  refine va_dast C.1 C.2.1 h3 h1 h2 hS q0 t0 hq ht hi hd (fun H1 locs1 g1 g2 g3 => ?_)
  exact kk p e R s m args below meth c H1 locs1 ls C ⟨_, tys, g1, g2, h3, h4.setA hq ht _⟩ g3 hl
theorem z_qald {a nA : Nat} {Cn : String} {f : Nat → Option Nat} {i : Int32} (hd : decode mi.2.1 pc = .ok (.aaload, 1)) (hG : G a = some (.inl (.object Cn, nA, .inr (.inr (.inr (.inr f)))))) (hi : vp_in i nA) (kk : zX Γ mi d mc ms (pc + 1) (lv) (va_rf (f i.toNatClampNeg) :: st) G (k) (n) Post) : zX Γ mi d mc ms (pc) (lv) (.int i :: .ref a :: st) G (k) (n) Post := by
  intro p e R s m args below meth c H locs ls C hH hS hl
  obtain ⟨ws, tys, h1, h2, h3, h4⟩ := id hH
  obtain ⟨cA, q0, t0, hq, ht⟩ := h4.arr hG
  exact va_aldq C.1 C.2.1 h3 h1 q0 t0 hq ht hi hd (kk p e R s m args below meth c H locs ls C hH hS hl)
theorem z_qast {a nA v ci : Nat} {r : vw_C} {vs : List Value} {f : Nat → Option Nat} {i : Int32} (hd : decode mi.2.1 pc = .ok (.aastore, 1)) (hc : zcl[ci]? = some r) (hG : G a = some (.inl (.object r.1, nA, .inr (.inr (.inr (.inr f)))))) (hv : G v = some (.inr (ci, vs))) (hi : vp_in i nA) (kk : zX Γ mi d mc ms (pc + 1) (lv) (st) (zset G a (.inl (.object r.1, nA, .inr (.inr (.inr (.inr (va_up f i.toNatClampNeg (some v)))))))) (k) (n) Post) : zX Γ mi d mc ms (pc) (lv) (.ref v :: .int i :: .ref a :: st) G (k) (n) Post := by
  intro p e R s m args below meth c H locs ls C hH hS hl
  obtain ⟨ws, tys, h1, h2, h3, h4⟩ := id hH
  obtain ⟨cA, q0, t0, hq, ht⟩ := h4.arr hG
  obtain ⟨qk, hqk⟩ := h4.obj hv
  refine va_astq C.1 C.2.1 h3 h1 h2 hS q0 t0 qk ci hq ht hqk hc hi hd (fun H1 locs1 g1 g2 g3 => ?_)
  exact kk p e R s m args below meth c H1 locs1 ls C ⟨_, tys, g1, g2, h3, h4.setA hq ht _⟩ g3 hl
theorem z_alen {a : Nat} {ty : FieldType} {x : vp_A} {v : Int32} (hd : decode mi.2.1 pc = .ok (.arraylength, 1)) (hG : G a = some (.inl (ty, x))) (hv : Int32.ofNat x.1 = v) (kk : zX Γ mi d mc ms (pc + 1) (lv) (.int v :: st) G (k) (n) Post) : zX Γ mi d mc ms (pc) (lv) (.ref a :: st) G (k) (n) Post := by
  intro p e R s m args below meth c H locs ls C hH hS hl
  obtain ⟨ws, tys, h1, h2, h3, h4⟩ := id hH
  obtain ⟨cA, q0, t0, hq, ht⟩ := h4.arr hG
  exact va_alen C.1 C.2.1 h3 h1 q0 t0 hq ht hv hd (kk p e R s m args below meth c H locs ls C hH hS hl)
theorem z_new {j ci N : Nat} {Cn : String} {T : u_T} {ty : Nat → FieldType} {fs : List Value} (hd : decode mi.2.1 pc = .ok (.new j, 3)) (hc : zCl ci Cn T N ty) (hlk : Cond.classLink mi.1.cls j Cn ∈ lw_good) (hfs : ∀ i, i < N → defaultValue (ty i) = vp_V fs i) (hk : k + 1 ≤ mc) (hn : n + N ≤ ms) (kk : ∀ q : Nat, G q = none → zX Γ mi d mc ms (pc + 3) (lv) (.ref q :: st) (zset G q (.inr (ci, fs))) (k + 1) (n + N) Post) : zX Γ mi d mc ms (pc) (lv) (st) G (k) (n) Post := by
  intro p e R s m args below meth c H locs ls C hH hS hl
  obtain ⟨ws, tys, h1, h2, h3, h4⟩ := id hH
  have hb := C.2.2.2.2.2.2.2.2.2.2.1.1
  refine va_new C.1 C.2.1 C.2.2.2.2.1 hc.2.1 ty hc.2.2.1 C.2.2.2.1 (C.2.2.2.2.1 _ hlk) (C.2.2.2.2.1 _ hc.2.2.2.2.1) (C.2.2.2.2.1 _ hc.2.2.2.2.2) h3 h1 h2 hS (fun q hq => Nat.le_trans hb hq) hc.1 hfs (Nat.le_trans hk C.2.2.2.2.2.2.2.2.2.2.2.2.2.1) (Nat.le_trans hn C.2.2.2.2.2.2.2.2.2.2.2.2.2.2) hd (fun q H1 g1 g2 g3 => ?_)
  exact kk q (h4.none g2) p e R s m args below meth c H1 locs ls C ⟨_, tys, g1, g2, h3, h4.pushO q _⟩ g3 hl
theorem z_newa_i {v : Int32} {N : Nat} (hd : decode mi.2.1 pc = .ok (.newarray .int, 2)) (hn0 : ¬ v < 0) (hN : v.toNatClampNeg = N) (hB : N ≤ 67108864) (hk : k + 1 ≤ mc) (hn : n + N ≤ ms) (kk : ∀ q : Nat, G q = none → zX Γ mi d mc ms (pc + 2) (lv) (.ref q :: st) (zset G q (.inl (.int, N, .inl (fun _ => 0)))) (k + 1) (n + N) Post) : zX Γ mi d mc ms (pc) (lv) (.int v :: st) G (k) (n) Post := by
  intro p e R s m args below meth c H locs ls C hH hS hl
  obtain ⟨ws, tys, h1, h2, h3, h4⟩ := id hH
  have hb := C.2.2.2.2.2.2.2.2.2.2.1.1
  refine va_newa (atype := .int) (ty := .int) (a0 := (N, .inl (fun _ => 0))) C.1 C.2.1 (C.2.2.2.2.1 _ zarr_i) rfl h3 h1 h2 hS (fun q hq => Nat.le_trans hb hq) (fun _ => rfl) hn0 hN (by show N * _ ≤ _; simp only [componentBytes]; omega) (Nat.le_trans hk C.2.2.2.2.2.2.2.2.2.2.2.2.2.1) (Nat.le_trans hn C.2.2.2.2.2.2.2.2.2.2.2.2.2.2) hd (fun q cA H1 g0 g1 g2 g3 => ?_)
  exact kk q (h4.none g2) p e R s m args below meth c H1 locs ls C ⟨_, _, g1, g2, g0, h4.pushA q cA _ _⟩ g3 hl
theorem z_newa_c {v : Int32} {N : Nat} (hd : decode mi.2.1 pc = .ok (.newarray .char, 2)) (hn0 : ¬ v < 0) (hN : v.toNatClampNeg = N) (hB : N ≤ 67108864) (hk : k + 1 ≤ mc) (hn : n + N ≤ ms) (kk : ∀ q : Nat, G q = none → zX Γ mi d mc ms (pc + 2) (lv) (.ref q :: st) (zset G q (.inl (.char, N, .inl (fun _ => 0)))) (k + 1) (n + N) Post) : zX Γ mi d mc ms (pc) (lv) (.int v :: st) G (k) (n) Post := by
  intro p e R s m args below meth c H locs ls C hH hS hl
  obtain ⟨ws, tys, h1, h2, h3, h4⟩ := id hH
  have hb := C.2.2.2.2.2.2.2.2.2.2.1.1
  refine va_newa (atype := .char) (ty := .char) (a0 := (N, .inl (fun _ => 0))) C.1 C.2.1 (C.2.2.2.2.1 _ zarr_c) rfl h3 h1 h2 hS (fun q hq => Nat.le_trans hb hq) (fun _ => rfl) hn0 hN (by show N * _ ≤ _; simp only [componentBytes]; omega) (Nat.le_trans hk C.2.2.2.2.2.2.2.2.2.2.2.2.2.1) (Nat.le_trans hn C.2.2.2.2.2.2.2.2.2.2.2.2.2.2) hd (fun q cA H1 g0 g1 g2 g3 => ?_)
  exact kk q (h4.none g2) p e R s m args below meth c H1 locs ls C ⟨_, _, g1, g2, g0, h4.pushA q cA _ _⟩ g3 hl
theorem z_newa_b {v : Int32} {N : Nat} (hd : decode mi.2.1 pc = .ok (.newarray .byte, 2)) (hn0 : ¬ v < 0) (hN : v.toNatClampNeg = N) (hB : N ≤ 67108864) (hk : k + 1 ≤ mc) (hn : n + N ≤ ms) (kk : ∀ q : Nat, G q = none → zX Γ mi d mc ms (pc + 2) (lv) (.ref q :: st) (zset G q (.inl (.byte, N, .inl (fun _ => 0)))) (k + 1) (n + N) Post) : zX Γ mi d mc ms (pc) (lv) (.int v :: st) G (k) (n) Post := by
  intro p e R s m args below meth c H locs ls C hH hS hl
  obtain ⟨ws, tys, h1, h2, h3, h4⟩ := id hH
  have hb := C.2.2.2.2.2.2.2.2.2.2.1.1
  refine va_newa (atype := .byte) (ty := .byte) (a0 := (N, .inl (fun _ => 0))) C.1 C.2.1 (C.2.2.2.2.1 _ zarr_b) rfl h3 h1 h2 hS (fun q hq => Nat.le_trans hb hq) (fun _ => rfl) hn0 hN (by show N * _ ≤ _; simp only [componentBytes]; omega) (Nat.le_trans hk C.2.2.2.2.2.2.2.2.2.2.2.2.2.1) (Nat.le_trans hn C.2.2.2.2.2.2.2.2.2.2.2.2.2.2) hd (fun q cA H1 g0 g1 g2 g3 => ?_)
  exact kk q (h4.none g2) p e R s m args below meth c H1 locs ls C ⟨_, _, g1, g2, g0, h4.pushA q cA _ _⟩ g3 hl
theorem z_newa_l {v : Int32} {N : Nat} (hd : decode mi.2.1 pc = .ok (.newarray .long, 2)) (hn0 : ¬ v < 0) (hN : v.toNatClampNeg = N) (hB : N ≤ 67108864) (hk : k + 1 ≤ mc) (hn : n + N ≤ ms) (kk : ∀ q : Nat, G q = none → zX Γ mi d mc ms (pc + 2) (lv) (.ref q :: st) (zset G q (.inl (.long, N, .inr (.inl (fun _ => 0))))) (k + 1) (n + N) Post) : zX Γ mi d mc ms (pc) (lv) (.int v :: st) G (k) (n) Post := by
  intro p e R s m args below meth c H locs ls C hH hS hl
  obtain ⟨ws, tys, h1, h2, h3, h4⟩ := id hH
  have hb := C.2.2.2.2.2.2.2.2.2.2.1.1
  refine va_newa (atype := .long) (ty := .long) (a0 := (N, .inr (.inl (fun _ => 0)))) C.1 C.2.1 (C.2.2.2.2.1 _ zarr_l) rfl h3 h1 h2 hS (fun q hq => Nat.le_trans hb hq) (fun _ => rfl) hn0 hN (by show N * _ ≤ _; simp only [componentBytes]; omega) (Nat.le_trans hk C.2.2.2.2.2.2.2.2.2.2.2.2.2.1) (Nat.le_trans hn C.2.2.2.2.2.2.2.2.2.2.2.2.2.2) hd (fun q cA H1 g0 g1 g2 g3 => ?_)
  exact kk q (h4.none g2) p e R s m args below meth c H1 locs ls C ⟨_, _, g1, g2, g0, h4.pushA q cA _ _⟩ g3 hl
theorem z_newa_d {v : Int32} {N : Nat} (hd : decode mi.2.1 pc = .ok (.newarray .double, 2)) (hn0 : ¬ v < 0) (hN : v.toNatClampNeg = N) (hB : N ≤ 67108864) (hk : k + 1 ≤ mc) (hn : n + N ≤ ms) (kk : ∀ q : Nat, G q = none → zX Γ mi d mc ms (pc + 2) (lv) (.ref q :: st) (zset G q (.inl (.double, N, .inr (.inr (.inr (.inl (fun _ => 0))))))) (k + 1) (n + N) Post) : zX Γ mi d mc ms (pc) (lv) (.int v :: st) G (k) (n) Post := by
  intro p e R s m args below meth c H locs ls C hH hS hl
  obtain ⟨ws, tys, h1, h2, h3, h4⟩ := id hH
  have hb := C.2.2.2.2.2.2.2.2.2.2.1.1
  refine va_newa (atype := .double) (ty := .double) (a0 := (N, .inr (.inr (.inr (.inl (fun _ => 0)))))) C.1 C.2.1 (C.2.2.2.2.1 _ zarr_d) rfl h3 h1 h2 hS (fun q hq => Nat.le_trans hb hq) (fun _ => rfl) hn0 hN (by show N * _ ≤ _; simp only [componentBytes]; omega) (Nat.le_trans hk C.2.2.2.2.2.2.2.2.2.2.2.2.2.1) (Nat.le_trans hn C.2.2.2.2.2.2.2.2.2.2.2.2.2.2) hd (fun q cA H1 g0 g1 g2 g3 => ?_)
  exact kk q (h4.none g2) p e R s m args below meth c H1 locs ls C ⟨_, _, g1, g2, g0, h4.pushA q cA _ _⟩ g3 hl
theorem z_newq {v : Int32} {j N : Nat} (hd : decode mi.2.1 pc = .ok (.anewarray j, 3)) (hlk : Cond.classLink mi.1.cls j RX6 ∈ lw_good) (hn0 : ¬ v < 0) (hN : v.toNatClampNeg = N) (hB : N ≤ 67108864) (hk : k + 1 ≤ mc) (hn : n + N ≤ ms) (kk : ∀ q : Nat, G q = none → zX Γ mi d mc ms (pc + 3) (lv) (.ref q :: st) (zset G q (.inl (.object RX6, N, .inr (.inr (.inr (.inr (fun _ => none))))))) (k + 1) (n + N) Post) : zX Γ mi d mc ms (pc) (lv) (.int v :: st) G (k) (n) Post := by
  intro p e R s m args below meth c H locs ls C hH hS hl
  obtain ⟨ws, tys, h1, h2, h3, h4⟩ := id hH
  have hb := C.2.2.2.2.2.2.2.2.2.2.1.1
  refine va_newq C.1 C.2.1 C.2.2.2.1 (C.2.2.2.2.1 _ hlk) C.2.2.2.2.2.2.2.2.2.1.2.2.2.2.2.1 h3 h1 h2 hS (fun q hq => Nat.le_trans hb hq) hn0 hN (by omega) (Nat.le_trans hk C.2.2.2.2.2.2.2.2.2.2.2.2.2.1) (Nat.le_trans hn C.2.2.2.2.2.2.2.2.2.2.2.2.2.2) hd (fun q cA H1 g0 g1 g2 g3 => ?_)
  exact kk q (h4.none g2) p e R s m args below meth c H1 locs ls C ⟨_, _, g1, g2, g0, h4.pushA q cA _ _⟩ g3 hl
theorem z_ireturn (hd : decode mi.2.1 pc = .ok (.ireturn, 1)) {v : Int32} {ty : FieldType} (hr : mi.2.2.2.1 = some ty) (hw : narrow ty (.int v) = .int v) (hk : k ≤ mc) (hn : n ≤ ms) (hp : Post (.inl (some (.int v))) G) : zX Γ mi d mc ms (pc) (lv) ([.int v]) G (k) (n) Post := fun p e R s m args below meth c H locs ls C hH hS hl => vx_ret (W.widen hk hn (W.zret C.1 C.2.1 (C.2.2.2.2.2.1.trans hr) hw (hlocks := C.2.2.2.2.2.2.1) (fun t ht hW => ⟨⟨_, G, rfl, hp, by rw [ht]; exact hH.moved hW.alike⟩, hS.F ht⟩) hS.2.2 hd))
theorem z_vreturn (hd : decode mi.2.1 pc = .ok (.return_, 1)) (hr : mi.2.2.2.1 = none) (hk : k ≤ mc) (hn : n ≤ ms) (hp : Post (.inl none) G) : zX Γ mi d mc ms (pc) (lv) ([]) G (k) (n) Post := fun p e R s m args below meth c H locs ls C hH hS hl => vx_ret (W.widen hk hn (W.vret C.1 C.2.1 (C.2.2.2.2.2.1.trans hr) (hlocks := C.2.2.2.2.2.2.1) (fun t ht hW => ⟨⟨_, G, rfl, hp, by rw [ht]; exact hH.moved hW.alike⟩, hS.F ht⟩) hS.2.2 hd))
theorem z_areturn (hd : decode mi.2.1 pc = .ok (.areturn, 1)) {v : Value} {ty : FieldType} (hr : mi.2.2.2.1 = some ty) (hrt : (∃ z, ty = .object z) ∨ ∃ z, ty = .array z) (hv : v = .null ∨ ∃ a, v = .ref a) (hk : k ≤ mc) (hn : n ≤ ms) (hp : Post (.inl (some v)) G) : zX Γ mi d mc ms (pc) (lv) ([v]) G (k) (n) Post := fun p e R s m args below meth c H locs ls C hH hS hl => vx_ret (W.widen hk hn (W.aret C.1 C.2.1 (C.2.2.2.2.2.1.trans hr) hrt hv (hlocks := C.2.2.2.2.2.2.1) (fun t ht hW => ⟨⟨_, G, rfl, hp, by rw [ht]; exact hH.moved hW.alike⟩, hS.F ht⟩) hS.2.2 hd))
theorem z_freturn (hd : decode mi.2.1 pc = .ok (.freturn, 1)) {v : UInt32} (hr : mi.2.2.2.1 = some .float) (hk : k ≤ mc) (hn : n ≤ ms) (hp : Post (.inl (some (.float v))) G) : zX Γ mi d mc ms (pc) (lv) ([.float v]) G (k) (n) Post := fun p e R s m args below meth c H locs ls C hH hS hl => vx_ret (W.widen hk hn (W.fret C.1 C.2.1 (C.2.2.2.2.2.1.trans hr) (hlocks := C.2.2.2.2.2.2.1) (fun t ht hW => ⟨⟨_, G, rfl, hp, by rw [ht]; exact hH.moved hW.alike⟩, hS.F ht⟩) hS.2.2 hd))
theorem z_dreturn (hd : decode mi.2.1 pc = .ok (.dreturn, 1)) {v : UInt64} (hr : mi.2.2.2.1 = some .double) (hk : k ≤ mc) (hn : n ≤ ms) (hp : Post (.inl (some (.double v))) G) : zX Γ mi d mc ms (pc) (lv) ([.double v]) G (k) (n) Post := fun p e R s m args below meth c H locs ls C hH hS hl => vx_ret (W.widen hk hn (W.dret C.1 C.2.1 (C.2.2.2.2.2.1.trans hr) (hlocks := C.2.2.2.2.2.2.1) (fun t ht hW => ⟨⟨_, G, rfl, hp, by rw [ht]; exact hH.moved hW.alike⟩, hS.F ht⟩) hS.2.2 hd))
theorem z_objInit {j a : Nat} (hd : decode mi.2.1 pc = .ok (.invokespecial j, 3)) (hlk : Cond.methodLink mi.1.cls j objectInit ∈ lw_good) (hcat : (st.map fun v => v.category).sum ≤ 8) (kk : zX Γ mi d mc ms (pc + 3) (lv) (st) G (k) (n) Post) : zX Γ mi d mc ms (pc) (lv) (.ref a :: st) G (k) (n) Post := by
  intro p e R s m args below meth c H locs ls C hH hS hl
  refine W.objInit C.1 C.2.1 C.2.2.2.1 (C.2.2.2.2.1 _ hlk) (C.2.2.2.2.1 _ zobj1) (C.2.2.2.2.1 _ zobj2) rfl (by rw [C.2.2.1]; exact hl.1) rfl hd (Nat.le_trans (by unfold zFr; omega) C.2.2.2.2.2.2.2.2.2.2.2.1) (Nat.le_trans (by show 2 * 0 + _ + 12 ≤ zLo d; unfold zLo; omega) C.2.2.2.2.2.2.2.2.2.2.2.2.1) ?_
  exact kk p e R s m args below meth c H locs ls C hH hS hl
theorem z_mmax {j : Nat} {x y : Int32} (hd : decode mi.2.1 pc = .ok (.invokestatic j, 3)) (hlk : Cond.methodLink mi.1.cls j Lib.Math.max.name ∈ lw_good) (hcat : (st.map fun v => v.category).sum ≤ 8) (hk : k ≤ mc) (hn : n ≤ ms) (kk : zX Γ mi d mc ms (pc + 3) (lv) (.int (if x < y then y else x) :: st) G (k) (n) Post) : zX Γ mi d mc ms (pc) (lv) (.int y :: .int x :: st) G (k) (n) Post := by
  intro p e R s m args below meth c H locs ls C hH hS hl
  refine va_mmax C.1 C.2.1 (by rw [C.2.2.1]; exact hl.1.symm) C.2.2.2.1 (C.2.2.2.2.1 _ hlk) (C.2.2.2.2.1 _ zmmax1) (C.2.2.2.2.1 _ zmmax2) (C.2.2.2.2.1 _ zmmax3) (Nat.le_trans (by unfold zFr; omega) C.2.2.2.2.2.2.2.2.2.2.2.1) (Nat.le_trans (by unfold zLo; omega) C.2.2.2.2.2.2.2.2.2.2.2.2.1) (Nat.le_trans hk C.2.2.2.2.2.2.2.2.2.2.2.2.2.1) (Nat.le_trans hn C.2.2.2.2.2.2.2.2.2.2.2.2.2.2) hd ?_
  exact kk p e R s m args below meth c H locs ls C hH hS hl
theorem z_mmin {j : Nat} {x y : Int32} (hd : decode mi.2.1 pc = .ok (.invokestatic j, 3)) (hlk : Cond.methodLink mi.1.cls j Lib.Math.min.name ∈ lw_good) (hcat : (st.map fun v => v.category).sum ≤ 8) (hk : k ≤ mc) (hn : n ≤ ms) (kk : zX Γ mi d mc ms (pc + 3) (lv) (.int (if y < x then y else x) :: st) G (k) (n) Post) : zX Γ mi d mc ms (pc) (lv) (.int y :: .int x :: st) G (k) (n) Post := by
  intro p e R s m args below meth c H locs ls C hH hS hl
  refine va_mmin C.1 C.2.1 (by rw [C.2.2.1]; exact hl.1.symm) C.2.2.2.1 (C.2.2.2.2.1 _ hlk) (C.2.2.2.2.1 _ zmmin1) (C.2.2.2.2.1 _ zmmin2) (C.2.2.2.2.1 _ zmmin3) (Nat.le_trans (by unfold zFr; omega) C.2.2.2.2.2.2.2.2.2.2.2.1) (Nat.le_trans (by unfold zLo; omega) C.2.2.2.2.2.2.2.2.2.2.2.2.1) (Nat.le_trans hk C.2.2.2.2.2.2.2.2.2.2.2.2.2.1) (Nat.le_trans hn C.2.2.2.2.2.2.2.2.2.2.2.2.2.2) hd ?_
  exact kk p e R s m args below meth c H locs ls C hH hS hl
end ZR
end
section
/-! ===== calls ===== -/
section ZC
variable {Γ : zG} {mi : zMI} {d mc ms pc k n : Nat} {lv : List (Option Value)} {st : List Value} {G : zH} {Post : zP}
def zDs (y : MethodName) (n : Nat) : Prop := y.cls ≠ "java/lang/invoke/MethodHandle" ∧ y.cls ≠ "java/lang/invoke/VarHandle" ∧ (parseMethodDescriptor y.desc).map (fun d => d.parameters.length) = some n
theorem zgood {L : List Cond} {y : MethodName} {bytes : ByteArray} {maxL : Nat} {ret : Option FieldType} (h : ∀ w ∈ L, w ∈ lw_good) (hc : Cond.code y bytes maxL ret ∈ lw_good) : GoodIn lw_good (L ++ (Cond.code y bytes maxL ret :: lw_good)) := by
  intro w hw
  refine lw_good_self w ?_
  rcases List.mem_append.mp hw with h1 | h1
  · exact h w h1
  · rcases List.mem_cons.mp h1 with rfl | h2
    · exact hc
    · exact h2
theorem zblind {args : List Value} : FrameBlind (va_Pc args (zPre Γ G)) := fun a U g mk q => ⟨q.1, zHR.moved (u := U) (U := U.calling g mk a) (Vm.Alike.refl U.vm) q.2.1, zKs.same (s := U) (U := U.calling g mk a) rfl q.2.2.1, zKh.moved (u := U) (U := U.calling g mk a) (Vm.Alike.refl U.vm) q.2.2.2⟩
theorem zpre {s U : State} {H : Heap} {locs : List Loc} (hH : zHR Γ G s H) (hS : va_S (zA Γ) s.heap H locs) (hks : zKs Γ s) (hkh : zKh Γ s s.heap) (hU : U.heap = H) (hW : s.WarmedH U.vm) : zPre Γ G U := by
  refine ⟨by rw [hU]; exact hH.moved hW.alike, hks.warm hW, ?_⟩
  rw [hU]
  exact (hkh.kept hS.1 hS.2.1).moved hW.alike
theorem z_run {p : Program} {e : Env} {R : Room} {s : State} {m : MethodId} {args : Array Value} {below : List Frame} {meth : Method} {c : Code} {H : Heap} {locs : List Loc} {ls : Array Slot} {mc' ms' : Nat} {st0 rest : List Value} {P : zV}
    (C : zCtx Γ mi d mc ms p R s m args meth c) (hS : va_S (zA Γ) s.heap H locs) (hl : zlv mi.2.2.1 ls lv)
    (hr : va_Run p Γ.1 e R s m args below meth c H locs k n mc' ms' (F0 m pc ls st0) rest (fun st o t => (∃ (v : Option Value) (G : zH), o = .returned v ∧ P v G ∧ zHR Γ G t t.heap) ∧ va_F (zA Γ) st t) (zA Γ))
    (kk : ∀ v G', P v G' → zX Γ mi d mc ms (pc + 3) lv (v.toList ++ rest) G' (k + mc') (n + ms') Post) :
    W p Γ.1 e R s m args below meth c H locs k n (vx_MQ below (zQ Γ Post) (zXC Γ Post) args s mc ms (zA Γ)) (F0 m pc ls st0) := by
  intro T hT X
  obtain ⟨v, st₀, t, T', L, h0, X', hL, e1, e2, ⟨⟨v', G', hv, hp, hb⟩, hF⟩, st⟩ := hr T hT X
  cases hv
  obtain ⟨k1, k2, k3⟩ := vx_keep h0 e1 hS (fun q _ h => h) (fun q h => h) hL hF
  obtain ⟨t2, a1, b1⟩ := kk v G' hp p e R s m args below meth c T'.heap (locs ++ L) ls C (by rw [e1]; exact hb.moved (by rw [← e2]; exact X'.warmed.alike.symm)) k3 hl T' rfl X'
  exact ⟨t2, st t2 a1, b1⟩
theorem zroom {d m9 : Nat} {R : Room} (h1 : zFr (d + 1) ≤ R.frames) (h2 : zLo (d + 1) ≤ R.locals) (hm : m9 ≤ 45) : zFr d + 1 ≤ R.frames ∧ 8 + (m9 + 11) + zLo d ≤ R.locals := by
  unfold zFr zLo at *
  omega
set_option maxHeartbeats 1000000 in
theorem z_callS {mi' : zMI} {mc' ms' j z : Nat} {As : List Value} (hd : decode mi.2.1 pc = .ok (.invokestatic j, 3)) (hl9 : zLS mi.1.cls j mi'.1) (hds : zDs mi'.1 z) (hc : Cond.code mi'.1 mi'.2.1 mi'.2.2.1 mi'.2.2.2.1 ∈ lw_good) (hm : mi'.2.2.1 ≤ 45) (hz : As.length = z) (hst : (st.map fun v => v.category).sum ≤ 8) (hk : k + mc' ≤ mc) (hn : n + ms' ≤ ms)
    (hM : zM Γ d mi' mc' ms' As G (fun v G' => zX Γ mi (d + 1) mc ms (pc + 3) lv (v.toList ++ st) G' (k + mc') (n + ms') Post)) : zX Γ mi (d + 1) mc ms pc lv (As.reverse ++ st) G k n Post := by
  intro p e R s m args below meth c H locs ls C hH hS hl
  obtain ⟨hx, hb, hml, hown, hts, hret, hlk, hname, htab, hks, hkh, hfr, hlo, hmc, hms⟩ := id C
  refine z_run C hS hl (va_runS ⟨hx, hb, hml, hown, hts⟩ hM (va_cwS z hts (zgood hl9 hc) rfl rfl rfl hds (zroom hfr hlo hm)) ⟨zblind, fun U hU hW => ⟨rfl, zpre hH hS hks hkh hU hW⟩⟩ rfl hz hl.1 rfl (lv_room hst) hd ⟨Nat.le_trans hk hmc, Nat.le_trans hn hms⟩) (fun v G' h => h)
theorem zrecv {s : State} {H : Heap} {b ci : Nat} {fs : List Value} {q : vw_C} (hH : zHR Γ G s H) (hG : G b = some (.inr (ci, fs))) (hc : zcl[ci]? = some q) : ∃ cell : Cell, H[b]? = some cell ∧ cell.vm.isStatics = false ∧ s.vm.findClass q.1 = some cell.cls := by
  obtain ⟨ws, tys, h1, h2, h3, h4⟩ := hH
  obtain ⟨q0, hq⟩ := h4.obj hG
  exact va_recv h3 h1 hc hq
set_option maxHeartbeats 1000000 in
theorem z_callV {mi' : zMI} {mc' ms' j z b ci : Nat} {As fs : List Value} {q : vw_C} (hd : decode mi.2.1 pc = .ok (.invokevirtual j, 3)) (hl9 : zLV mi.1.cls j mi'.1.cls mi'.1) (hds : zDs mi'.1 z) (hc : Cond.code mi'.1 mi'.2.1 mi'.2.2.1 mi'.2.2.2.1 ∈ lw_good) (hm : mi'.2.2.1 ≤ 45) (hz : As.length = z) (hst : (st.map fun v => v.category).sum ≤ 8) (hk : k + mc' ≤ mc) (hn : n + ms' ≤ ms) (hG : G b = some (.inr (ci, fs))) (hq : zcl[ci]? = some q) (hqc : q.1 = mi'.1.cls)
    (hM : zM Γ d mi' mc' ms' (.ref b :: As) G (fun v G' => zX Γ mi (d + 1) mc ms (pc + 3) lv (v.toList ++ st) G' (k + mc') (n + ms') Post)) : zX Γ mi (d + 1) mc ms pc lv (As.reverse ++ .ref b :: st) G k n Post := by
  intro p e R s m args below meth c H locs ls C hH hS hl
  obtain ⟨hx, hb, hml, hown, hts, hret, hlk, hname, htab, hks, hkh, hfr, hlo, hmc, hms⟩ := id C
  refine z_run C hS hl (va_runV ⟨hx, hb, hml, hown, hts⟩ hM (cwV z hts (zgood hl9 hc) rfl rfl rfl ⟨rfl, hds⟩ (zroom hfr hlo hm)) ⟨zblind, by rw [← hqc]; exact zrecv hH hG hq, fun U hU hW => ⟨rfl, zpre hH hS hks hkh hU hW⟩⟩ rfl hz hl.1 rfl (lv_room hst) hd ⟨Nat.le_trans hk hmc, Nat.le_trans hn hms⟩) (fun v G' h => h)
set_option maxHeartbeats 1000000 in
theorem z_callI {mi' : zMI} {mc' ms' j z b : Nat} {As : List Value} (hd : decode mi.2.1 pc = .ok (.invokespecial j, 3)) (hl9 : zLI mi.1.cls j mi'.1) (hni : mi'.1.name = "<init>") (hr : mi'.2.2.2.1 = none) (hds : zDs mi'.1 z) (hc : Cond.code mi'.1 mi'.2.1 mi'.2.2.1 mi'.2.2.2.1 ∈ lw_good) (hm : mi'.2.2.1 ≤ 45) (hz : As.length = z) (hst : (st.map fun v => v.category).sum ≤ 8) (hk : k + mc' ≤ mc) (hn : n + ms' ≤ ms)
    (hM : zM Γ d mi' mc' ms' (.ref b :: As) G (fun v G' => zX Γ mi (d + 1) mc ms (pc + 3) lv (v.toList ++ st) G' (k + mc') (n + ms') Post)) : zX Γ mi (d + 1) mc ms pc lv (As.reverse ++ .ref b :: st) G k n Post := by
  intro p e R s m args below meth c H locs ls C hH hS hl
  obtain ⟨hx, hb, hml, hown, hts, hret, hlk, hname, htab, hks, hkh, hfr, hlo, hmc, hms⟩ := id C
  obtain ⟨y, bytes, maxL, ret, hh⟩ := mi'
  dsimp only at hr hni hds hc hm hl9
  subst hr
  refine z_run C hS hl (va_runI (bytes := bytes) (maxL := maxL) (As := As) ⟨hx, hb, hml, hown, hts⟩ hM (cwI z hts (fun w h => zgood (L := []) (fun _ h => absurd h List.not_mem_nil) hc w h) rfl rfl rfl (hts _ (hl9 _ (by simp))) (hts _ (hl9 _ (by simp))) (hts _ (hl9 _ (by simp))) hni hds (zroom hfr hlo hm)) ⟨zblind, fun U hU hW => ⟨rfl, zpre hH hS hks hkh hU hW⟩⟩ rfl hz hl.1 rfl (lv_room hst) hd ⟨Nat.le_trans hk hmc, Nat.le_trans hn hms⟩) (fun v G' h => h)
set_option maxHeartbeats 1000000 in
theorem z_callN {mi' : zMI} {mc' ms' j z b : Nat} {As : List Value} {host : String} (hd : decode mi.2.1 pc = .ok (.invokespecial j, 3)) (hl9 : Cond.methodLinkNest mi.1.cls j mi'.1 host ∈ zNest) (him : Cond.instanceMethod mi'.1 ∈ lw_good) (hini : Cond.initialized mi'.1.cls ∈ lw_good) (hni : mi'.1.name = "<init>") (hr : mi'.2.2.2.1 = none) (hds : zDs mi'.1 z) (hc : Cond.code mi'.1 mi'.2.1 mi'.2.2.1 mi'.2.2.2.1 ∈ lw_good) (hm : mi'.2.2.1 ≤ 45) (hz : As.length = z) (hst : (st.map fun v => v.category).sum ≤ 8) (hk : k + mc' ≤ mc) (hn : n + ms' ≤ ms)
    (hM : zM Γ d mi' mc' ms' (.ref b :: As) G (fun v G' => zX Γ mi (d + 1) mc ms (pc + 3) lv (v.toList ++ st) G' (k + mc') (n + ms') Post)) : zX Γ mi (d + 1) mc ms pc lv (As.reverse ++ .ref b :: st) G k n Post := by
  intro p e R s m args below meth c H locs ls C hH hS hl
  obtain ⟨hx, hb, hml, hown, hts, hret, hlk, hname, htab, hks, hkh, hfr, hlo, hmc, hms⟩ := id C
  obtain ⟨y, bytes, maxL, ret, hh⟩ := mi'
  dsimp only at hr hni hds hc hm hl9 him hini
  subst hr
  refine z_run C hS hl (va_runIN (bytes := bytes) (maxL := maxL) (As := As) (host := host) ⟨hx, hb, hml, hown, hts⟩ hM ⟨va_cnB z hts (fun w h => zgood (L := []) (fun _ h => absurd h List.not_mem_nil) hc w h) rfl rfl rfl (hks.2.1 _ hl9) (hts _ hini) hds (zroom hfr hlo hm), hni, hts _ him⟩ ⟨zblind, fun U hU hW => ⟨rfl, zpre hH hS hks hkh hU hW⟩⟩ rfl hz hl.1 rfl (lv_room hst) hd ⟨Nat.le_trans hk hmc, Nat.le_trans hn hms⟩) (fun v G' h => h)
theorem z_S0 {mi' : zMI} {j : Nat} (hd : decode mi.2.1 pc = .ok (.invokestatic j, 3)) (hl9 : zLS mi.1.cls j mi'.1) (hds : zDs mi'.1 0) (hc : Cond.code mi'.1 mi'.2.1 mi'.2.2.1 mi'.2.2.2.1 ∈ lw_good) (hm : mi'.2.2.1 ≤ 45) (hst : (st.map fun v => v.category).sum ≤ 8) (hk : k ≤ mc) (hn : n ≤ ms)
    (hM : zM Γ d mi' 0 0 [] G (fun v G' => zX Γ mi (d + 1) mc ms (pc + 3) lv (v.toList ++ st) G' k n Post)) : zX Γ mi (d + 1) mc ms pc lv (st) G k n Post :=
  z_callS (As := []) hd hl9 hds hc hm rfl hst hk hn hM
theorem z_V0 {mi' : zMI} {j b ci : Nat} {fs : List Value} {q : vw_C} (hd : decode mi.2.1 pc = .ok (.invokevirtual j, 3)) (hl9 : zLV mi.1.cls j mi'.1.cls mi'.1) (hds : zDs mi'.1 0) (hc : Cond.code mi'.1 mi'.2.1 mi'.2.2.1 mi'.2.2.2.1 ∈ lw_good) (hm : mi'.2.2.1 ≤ 45) (hst : (st.map fun v => v.category).sum ≤ 8) (hk : k ≤ mc) (hn : n ≤ ms) (hG : G b = some (.inr (ci, fs))) (hq : zcl[ci]? = some q) (hqc : q.1 = mi'.1.cls)
    (hM : zM Γ d mi' 0 0 (.ref b :: []) G (fun v G' => zX Γ mi (d + 1) mc ms (pc + 3) lv (v.toList ++ st) G' k n Post)) : zX Γ mi (d + 1) mc ms pc lv (.ref b :: st) G k n Post :=
  z_callV (As := []) hd hl9 hds hc hm rfl hst hk hn hG hq hqc hM
theorem z_S1 {mi' : zMI} {j : Nat} {a1 : Value} (hd : decode mi.2.1 pc = .ok (.invokestatic j, 3)) (hl9 : zLS mi.1.cls j mi'.1) (hds : zDs mi'.1 1) (hc : Cond.code mi'.1 mi'.2.1 mi'.2.2.1 mi'.2.2.2.1 ∈ lw_good) (hm : mi'.2.2.1 ≤ 45) (hst : (st.map fun v => v.category).sum ≤ 8) (hk : k ≤ mc) (hn : n ≤ ms)
    (hM : zM Γ d mi' 0 0 [a1] G (fun v G' => zX Γ mi (d + 1) mc ms (pc + 3) lv (v.toList ++ st) G' k n Post)) : zX Γ mi (d + 1) mc ms pc lv (a1 :: st) G k n Post :=
  z_callS (As := [a1]) hd hl9 hds hc hm rfl hst hk hn hM
theorem z_V1 {mi' : zMI} {j b ci : Nat} {fs : List Value} {q : vw_C} {a1 : Value} (hd : decode mi.2.1 pc = .ok (.invokevirtual j, 3)) (hl9 : zLV mi.1.cls j mi'.1.cls mi'.1) (hds : zDs mi'.1 1) (hc : Cond.code mi'.1 mi'.2.1 mi'.2.2.1 mi'.2.2.2.1 ∈ lw_good) (hm : mi'.2.2.1 ≤ 45) (hst : (st.map fun v => v.category).sum ≤ 8) (hk : k ≤ mc) (hn : n ≤ ms) (hG : G b = some (.inr (ci, fs))) (hq : zcl[ci]? = some q) (hqc : q.1 = mi'.1.cls)
    (hM : zM Γ d mi' 0 0 (.ref b :: [a1]) G (fun v G' => zX Γ mi (d + 1) mc ms (pc + 3) lv (v.toList ++ st) G' k n Post)) : zX Γ mi (d + 1) mc ms pc lv (a1 :: .ref b :: st) G k n Post :=
  z_callV (As := [a1]) hd hl9 hds hc hm rfl hst hk hn hG hq hqc hM
theorem z_S2 {mi' : zMI} {j : Nat} {a1 a2 : Value} (hd : decode mi.2.1 pc = .ok (.invokestatic j, 3)) (hl9 : zLS mi.1.cls j mi'.1) (hds : zDs mi'.1 2) (hc : Cond.code mi'.1 mi'.2.1 mi'.2.2.1 mi'.2.2.2.1 ∈ lw_good) (hm : mi'.2.2.1 ≤ 45) (hst : (st.map fun v => v.category).sum ≤ 8) (hk : k ≤ mc) (hn : n ≤ ms)
    (hM : zM Γ d mi' 0 0 [a1, a2] G (fun v G' => zX Γ mi (d + 1) mc ms (pc + 3) lv (v.toList ++ st) G' k n Post)) : zX Γ mi (d + 1) mc ms pc lv (a2 :: a1 :: st) G k n Post :=
  z_callS (As := [a1, a2]) hd hl9 hds hc hm rfl hst hk hn hM
theorem z_V2 {mi' : zMI} {j b ci : Nat} {fs : List Value} {q : vw_C} {a1 a2 : Value} (hd : decode mi.2.1 pc = .ok (.invokevirtual j, 3)) (hl9 : zLV mi.1.cls j mi'.1.cls mi'.1) (hds : zDs mi'.1 2) (hc : Cond.code mi'.1 mi'.2.1 mi'.2.2.1 mi'.2.2.2.1 ∈ lw_good) (hm : mi'.2.2.1 ≤ 45) (hst : (st.map fun v => v.category).sum ≤ 8) (hk : k ≤ mc) (hn : n ≤ ms) (hG : G b = some (.inr (ci, fs))) (hq : zcl[ci]? = some q) (hqc : q.1 = mi'.1.cls)
    (hM : zM Γ d mi' 0 0 (.ref b :: [a1, a2]) G (fun v G' => zX Γ mi (d + 1) mc ms (pc + 3) lv (v.toList ++ st) G' k n Post)) : zX Γ mi (d + 1) mc ms pc lv (a2 :: a1 :: .ref b :: st) G k n Post :=
  z_callV (As := [a1, a2]) hd hl9 hds hc hm rfl hst hk hn hG hq hqc hM
theorem z_S3 {mi' : zMI} {j : Nat} {a1 a2 a3 : Value} (hd : decode mi.2.1 pc = .ok (.invokestatic j, 3)) (hl9 : zLS mi.1.cls j mi'.1) (hds : zDs mi'.1 3) (hc : Cond.code mi'.1 mi'.2.1 mi'.2.2.1 mi'.2.2.2.1 ∈ lw_good) (hm : mi'.2.2.1 ≤ 45) (hst : (st.map fun v => v.category).sum ≤ 8) (hk : k ≤ mc) (hn : n ≤ ms)
    (hM : zM Γ d mi' 0 0 [a1, a2, a3] G (fun v G' => zX Γ mi (d + 1) mc ms (pc + 3) lv (v.toList ++ st) G' k n Post)) : zX Γ mi (d + 1) mc ms pc lv (a3 :: a2 :: a1 :: st) G k n Post :=
  z_callS (As := [a1, a2, a3]) hd hl9 hds hc hm rfl hst hk hn hM
theorem z_V3 {mi' : zMI} {j b ci : Nat} {fs : List Value} {q : vw_C} {a1 a2 a3 : Value} (hd : decode mi.2.1 pc = .ok (.invokevirtual j, 3)) (hl9 : zLV mi.1.cls j mi'.1.cls mi'.1) (hds : zDs mi'.1 3) (hc : Cond.code mi'.1 mi'.2.1 mi'.2.2.1 mi'.2.2.2.1 ∈ lw_good) (hm : mi'.2.2.1 ≤ 45) (hst : (st.map fun v => v.category).sum ≤ 8) (hk : k ≤ mc) (hn : n ≤ ms) (hG : G b = some (.inr (ci, fs))) (hq : zcl[ci]? = some q) (hqc : q.1 = mi'.1.cls)
    (hM : zM Γ d mi' 0 0 (.ref b :: [a1, a2, a3]) G (fun v G' => zX Γ mi (d + 1) mc ms (pc + 3) lv (v.toList ++ st) G' k n Post)) : zX Γ mi (d + 1) mc ms pc lv (a3 :: a2 :: a1 :: .ref b :: st) G k n Post :=
  z_callV (As := [a1, a2, a3]) hd hl9 hds hc hm rfl hst hk hn hG hq hqc hM
theorem z_S4 {mi' : zMI} {j : Nat} {a1 a2 a3 a4 : Value} (hd : decode mi.2.1 pc = .ok (.invokestatic j, 3)) (hl9 : zLS mi.1.cls j mi'.1) (hds : zDs mi'.1 4) (hc : Cond.code mi'.1 mi'.2.1 mi'.2.2.1 mi'.2.2.2.1 ∈ lw_good) (hm : mi'.2.2.1 ≤ 45) (hst : (st.map fun v => v.category).sum ≤ 8) (hk : k ≤ mc) (hn : n ≤ ms)
    (hM : zM Γ d mi' 0 0 [a1, a2, a3, a4] G (fun v G' => zX Γ mi (d + 1) mc ms (pc + 3) lv (v.toList ++ st) G' k n Post)) : zX Γ mi (d + 1) mc ms pc lv (a4 :: a3 :: a2 :: a1 :: st) G k n Post :=
  z_callS (As := [a1, a2, a3, a4]) hd hl9 hds hc hm rfl hst hk hn hM
theorem z_V4 {mi' : zMI} {j b ci : Nat} {fs : List Value} {q : vw_C} {a1 a2 a3 a4 : Value} (hd : decode mi.2.1 pc = .ok (.invokevirtual j, 3)) (hl9 : zLV mi.1.cls j mi'.1.cls mi'.1) (hds : zDs mi'.1 4) (hc : Cond.code mi'.1 mi'.2.1 mi'.2.2.1 mi'.2.2.2.1 ∈ lw_good) (hm : mi'.2.2.1 ≤ 45) (hst : (st.map fun v => v.category).sum ≤ 8) (hk : k ≤ mc) (hn : n ≤ ms) (hG : G b = some (.inr (ci, fs))) (hq : zcl[ci]? = some q) (hqc : q.1 = mi'.1.cls)
    (hM : zM Γ d mi' 0 0 (.ref b :: [a1, a2, a3, a4]) G (fun v G' => zX Γ mi (d + 1) mc ms (pc + 3) lv (v.toList ++ st) G' k n Post)) : zX Γ mi (d + 1) mc ms pc lv (a4 :: a3 :: a2 :: a1 :: .ref b :: st) G k n Post :=
  z_callV (As := [a1, a2, a3, a4]) hd hl9 hds hc hm rfl hst hk hn hG hq hqc hM
theorem z_S5 {mi' : zMI} {j : Nat} {a1 a2 a3 a4 a5 : Value} (hd : decode mi.2.1 pc = .ok (.invokestatic j, 3)) (hl9 : zLS mi.1.cls j mi'.1) (hds : zDs mi'.1 5) (hc : Cond.code mi'.1 mi'.2.1 mi'.2.2.1 mi'.2.2.2.1 ∈ lw_good) (hm : mi'.2.2.1 ≤ 45) (hst : (st.map fun v => v.category).sum ≤ 8) (hk : k ≤ mc) (hn : n ≤ ms)
    (hM : zM Γ d mi' 0 0 [a1, a2, a3, a4, a5] G (fun v G' => zX Γ mi (d + 1) mc ms (pc + 3) lv (v.toList ++ st) G' k n Post)) : zX Γ mi (d + 1) mc ms pc lv (a5 :: a4 :: a3 :: a2 :: a1 :: st) G k n Post :=
  z_callS (As := [a1, a2, a3, a4, a5]) hd hl9 hds hc hm rfl hst hk hn hM
theorem z_V5 {mi' : zMI} {j b ci : Nat} {fs : List Value} {q : vw_C} {a1 a2 a3 a4 a5 : Value} (hd : decode mi.2.1 pc = .ok (.invokevirtual j, 3)) (hl9 : zLV mi.1.cls j mi'.1.cls mi'.1) (hds : zDs mi'.1 5) (hc : Cond.code mi'.1 mi'.2.1 mi'.2.2.1 mi'.2.2.2.1 ∈ lw_good) (hm : mi'.2.2.1 ≤ 45) (hst : (st.map fun v => v.category).sum ≤ 8) (hk : k ≤ mc) (hn : n ≤ ms) (hG : G b = some (.inr (ci, fs))) (hq : zcl[ci]? = some q) (hqc : q.1 = mi'.1.cls)
    (hM : zM Γ d mi' 0 0 (.ref b :: [a1, a2, a3, a4, a5]) G (fun v G' => zX Γ mi (d + 1) mc ms (pc + 3) lv (v.toList ++ st) G' k n Post)) : zX Γ mi (d + 1) mc ms pc lv (a5 :: a4 :: a3 :: a2 :: a1 :: .ref b :: st) G k n Post :=
  z_callV (As := [a1, a2, a3, a4, a5]) hd hl9 hds hc hm rfl hst hk hn hG hq hqc hM
end ZC
end
section
theorem pnX0 : plainName RX0 = true := by decide +kernel
theorem nX0_init : zDs yX0_init 0 := ⟨by decide, by decide, by decide +kernel⟩
theorem dX0_init_0 : decode prog_2_method_1_code 0 = .ok (.aload_n 0, 1) := by decide +kernel
theorem dX0_init_1 : decode prog_2_method_1_code 1 = .ok (.invokespecial 1, 3) := by decide +kernel
theorem dX0_init_4 : decode prog_2_method_1_code 4 = .ok (.aload_n 0, 1) := by decide +kernel
theorem dX0_init_5 : decode prog_2_method_1_code 5 = .ok (.iconst 0, 1) := by decide +kernel
theorem dX0_init_6 : decode prog_2_method_1_code 6 = .ok (.putfield 7, 3) := by decide +kernel
theorem dX0_init_9 : decode prog_2_method_1_code 9 = .ok (.aload_n 0, 1) := by decide +kernel
theorem dX0_init_10 : decode prog_2_method_1_code 10 = .ok (.iconst 3, 1) := by decide +kernel
theorem dX0_init_11 : decode prog_2_method_1_code 11 = .ok (.newarray .int, 2) := by decide +kernel
theorem dX0_init_13 : decode prog_2_method_1_code 13 = .ok (.putfield 13, 3) := by decide +kernel
theorem dX0_init_16 : decode prog_2_method_1_code 16 = .ok (.return_, 1) := by decide +kernel
theorem nX0_copyFrom : zDs yX0_copyFrom 1 := ⟨by decide, by decide, by decide +kernel⟩
theorem dX0_copyFrom_0 : decode prog_2_method_2_code 0 = .ok (.aload_n 0, 1) := by decide +kernel
theorem dX0_copyFrom_1 : decode prog_2_method_2_code 1 = .ok (.aload_n 1, 1) := by decide +kernel
theorem dX0_copyFrom_2 : decode prog_2_method_2_code 2 = .ok (.getfield 7, 3) := by decide +kernel
theorem dX0_copyFrom_5 : decode prog_2_method_2_code 5 = .ok (.putfield 7, 3) := by decide +kernel
theorem dX0_copyFrom_8 : decode prog_2_method_2_code 8 = .ok (.aload_n 1, 1) := by decide +kernel
theorem dX0_copyFrom_9 : decode prog_2_method_2_code 9 = .ok (.getfield 13, 3) := by decide +kernel
theorem dX0_copyFrom_12 : decode prog_2_method_2_code 12 = .ok (.aload_n 0, 1) := by decide +kernel
theorem dX0_copyFrom_13 : decode prog_2_method_2_code 13 = .ok (.getfield 13, 3) := by decide +kernel
theorem dX0_copyFrom_16 : decode prog_2_method_2_code 16 = .ok (.invokestatic 17, 3) := by decide +kernel
theorem dX0_copyFrom_19 : decode prog_2_method_2_code 19 = .ok (.return_, 1) := by decide +kernel
theorem nX0_has : zDs yX0_has 1 := ⟨by decide, by decide, by decide +kernel⟩
theorem dX0_has_0 : decode prog_2_method_3_code 0 = .ok (.iload_n 1, 1) := by decide +kernel
theorem dX0_has_1 : decode prog_2_method_3_code 1 = .ok (.ifCond .lt 15, 3) := by decide +kernel
theorem dX0_has_4 : decode prog_2_method_3_code 4 = .ok (.iload_n 1, 1) := by decide +kernel
theorem dX0_has_5 : decode prog_2_method_3_code 5 = .ok (.aload_n 0, 1) := by decide +kernel
theorem dX0_has_6 : decode prog_2_method_3_code 6 = .ok (.getfield 7, 3) := by decide +kernel
theorem dX0_has_9 : decode prog_2_method_3_code 9 = .ok (.if_icmp .ge 7, 3) := by decide +kernel
theorem dX0_has_12 : decode prog_2_method_3_code 12 = .ok (.iconst 1, 1) := by decide +kernel
theorem dX0_has_13 : decode prog_2_method_3_code 13 = .ok (.goto 4, 3) := by decide +kernel
theorem dX0_has_16 : decode prog_2_method_3_code 16 = .ok (.iconst 0, 1) := by decide +kernel
theorem dX0_has_17 : decode prog_2_method_3_code 17 = .ok (.ireturn, 1) := by decide +kernel
theorem nX0_add : zDs yX0_add 0 := ⟨by decide, by decide, by decide +kernel⟩
theorem dX0_add_0 : decode prog_2_method_4_code 0 = .ok (.aload_n 0, 1) := by decide +kernel
theorem dX0_add_1 : decode prog_2_method_4_code 1 = .ok (.getfield 7, 3) := by decide +kernel
theorem dX0_add_4 : decode prog_2_method_4_code 4 = .ok (.istore_n 1, 1) := by decide +kernel
theorem dX0_add_5 : decode prog_2_method_4_code 5 = .ok (.aload_n 0, 1) := by decide +kernel
theorem dX0_add_6 : decode prog_2_method_4_code 6 = .ok (.getfield 13, 3) := by decide +kernel
theorem dX0_add_9 : decode prog_2_method_4_code 9 = .ok (.iload_n 1, 1) := by decide +kernel
theorem dX0_add_10 : decode prog_2_method_4_code 10 = .ok (.bipush 20, 2) := by decide +kernel
theorem dX0_add_12 : decode prog_2_method_4_code 12 = .ok (.invokestatic 23, 3) := by decide +kernel
theorem dX0_add_15 : decode prog_2_method_4_code 15 = .ok (.aload_n 0, 1) := by decide +kernel
theorem dX0_add_16 : decode prog_2_method_4_code 16 = .ok (.iload_n 1, 1) := by decide +kernel
theorem dX0_add_17 : decode prog_2_method_4_code 17 = .ok (.iconst 1, 1) := by decide +kernel
theorem dX0_add_18 : decode prog_2_method_4_code 18 = .ok (.iadd, 1) := by decide +kernel
theorem dX0_add_19 : decode prog_2_method_4_code 19 = .ok (.putfield 7, 3) := by decide +kernel
theorem dX0_add_22 : decode prog_2_method_4_code 22 = .ok (.iload_n 1, 1) := by decide +kernel
theorem dX0_add_23 : decode prog_2_method_4_code 23 = .ok (.ireturn, 1) := by decide +kernel
theorem nX0_renew : zDs yX0_renew 1 := ⟨by decide, by decide, by decide +kernel⟩
theorem dX0_renew_0 : decode prog_2_method_5_code 0 = .ok (.aload_n 0, 1) := by decide +kernel
theorem dX0_renew_1 : decode prog_2_method_5_code 1 = .ok (.getfield 13, 3) := by decide +kernel
theorem dX0_renew_4 : decode prog_2_method_5_code 4 = .ok (.iload_n 1, 1) := by decide +kernel
theorem dX0_renew_5 : decode prog_2_method_5_code 5 = .ok (.invokestatic 27, 3) := by decide +kernel
theorem dX0_renew_8 : decode prog_2_method_5_code 8 = .ok (.istore_n 2, 1) := by decide +kernel
theorem dX0_renew_9 : decode prog_2_method_5_code 9 = .ok (.aload_n 0, 1) := by decide +kernel
theorem dX0_renew_10 : decode prog_2_method_5_code 10 = .ok (.getfield 13, 3) := by decide +kernel
theorem dX0_renew_13 : decode prog_2_method_5_code 13 = .ok (.iload_n 1, 1) := by decide +kernel
theorem dX0_renew_14 : decode prog_2_method_5_code 14 = .ok (.bipush 20, 2) := by decide +kernel
theorem dX0_renew_16 : decode prog_2_method_5_code 16 = .ok (.invokestatic 23, 3) := by decide +kernel
theorem dX0_renew_19 : decode prog_2_method_5_code 19 = .ok (.iload_n 2, 1) := by decide +kernel
theorem dX0_renew_20 : decode prog_2_method_5_code 20 = .ok (.ireturn, 1) := by decide +kernel
theorem nX0_blunt : zDs yX0_blunt 2 := ⟨by decide, by decide, by decide +kernel⟩
theorem dX0_blunt_0 : decode prog_2_method_6_code 0 = .ok (.aload_n 0, 1) := by decide +kernel
theorem dX0_blunt_1 : decode prog_2_method_6_code 1 = .ok (.getfield 13, 3) := by decide +kernel
theorem dX0_blunt_4 : decode prog_2_method_6_code 4 = .ok (.iload_n 1, 1) := by decide +kernel
theorem dX0_blunt_5 : decode prog_2_method_6_code 5 = .ok (.aload_n 0, 1) := by decide +kernel
theorem dX0_blunt_6 : decode prog_2_method_6_code 6 = .ok (.getfield 13, 3) := by decide +kernel
theorem dX0_blunt_9 : decode prog_2_method_6_code 9 = .ok (.iload_n 1, 1) := by decide +kernel
theorem dX0_blunt_10 : decode prog_2_method_6_code 10 = .ok (.invokestatic 27, 3) := by decide +kernel
theorem dX0_blunt_13 : decode prog_2_method_6_code 13 = .ok (.iload_n 2, 1) := by decide +kernel
theorem dX0_blunt_14 : decode prog_2_method_6_code 14 = .ok (.isub, 1) := by decide +kernel
theorem dX0_blunt_15 : decode prog_2_method_6_code 15 = .ok (.invokestatic 23, 3) := by decide +kernel
theorem dX0_blunt_18 : decode prog_2_method_6_code 18 = .ok (.return_, 1) := by decide +kernel
theorem nX0_sum : zDs yX0_sum 0 := ⟨by decide, by decide, by decide +kernel⟩
theorem dX0_sum_0 : decode prog_2_method_7_code 0 = .ok (.iconst 0, 1) := by decide +kernel
theorem dX0_sum_1 : decode prog_2_method_7_code 1 = .ok (.istore_n 1, 1) := by decide +kernel
theorem dX0_sum_2 : decode prog_2_method_7_code 2 = .ok (.iconst 0, 1) := by decide +kernel
theorem dX0_sum_3 : decode prog_2_method_7_code 3 = .ok (.istore_n 2, 1) := by decide +kernel
theorem dX0_sum_4 : decode prog_2_method_7_code 4 = .ok (.iload_n 2, 1) := by decide +kernel
theorem dX0_sum_5 : decode prog_2_method_7_code 5 = .ok (.aload_n 0, 1) := by decide +kernel
theorem dX0_sum_6 : decode prog_2_method_7_code 6 = .ok (.getfield 7, 3) := by decide +kernel
theorem dX0_sum_9 : decode prog_2_method_7_code 9 = .ok (.if_icmp .ge 20, 3) := by decide +kernel
theorem dX0_sum_12 : decode prog_2_method_7_code 12 = .ok (.iload_n 1, 1) := by decide +kernel
theorem dX0_sum_13 : decode prog_2_method_7_code 13 = .ok (.aload_n 0, 1) := by decide +kernel
theorem dX0_sum_14 : decode prog_2_method_7_code 14 = .ok (.getfield 13, 3) := by decide +kernel
theorem dX0_sum_17 : decode prog_2_method_7_code 17 = .ok (.iload_n 2, 1) := by decide +kernel
theorem dX0_sum_18 : decode prog_2_method_7_code 18 = .ok (.invokestatic 27, 3) := by decide +kernel
theorem dX0_sum_21 : decode prog_2_method_7_code 21 = .ok (.iadd, 1) := by decide +kernel
theorem dX0_sum_22 : decode prog_2_method_7_code 22 = .ok (.istore_n 1, 1) := by decide +kernel
theorem dX0_sum_23 : decode prog_2_method_7_code 23 = .ok (.iinc 2 1, 3) := by decide +kernel
theorem dX0_sum_26 : decode prog_2_method_7_code 26 = .ok (.goto (-22), 3) := by decide +kernel
theorem dX0_sum_29 : decode prog_2_method_7_code 29 = .ok (.iload_n 1, 1) := by decide +kernel
theorem dX0_sum_30 : decode prog_2_method_7_code 30 = .ok (.ireturn, 1) := by decide +kernel
theorem pnX1 : plainName RX1 = true := by decide +kernel
theorem nX1_init : zDs yX1_init 0 := ⟨by decide, by decide, by decide +kernel⟩
theorem dX1_init_0 : decode prog_3_method_1_code 0 = .ok (.aload_n 0, 1) := by decide +kernel
theorem dX1_init_1 : decode prog_3_method_1_code 1 = .ok (.invokespecial 1, 3) := by decide +kernel
theorem dX1_init_4 : decode prog_3_method_1_code 4 = .ok (.aload_n 0, 1) := by decide +kernel
theorem dX1_init_5 : decode prog_3_method_1_code 5 = .ok (.iconst 0, 1) := by decide +kernel
theorem dX1_init_6 : decode prog_3_method_1_code 6 = .ok (.putfield 7, 3) := by decide +kernel
theorem dX1_init_9 : decode prog_3_method_1_code 9 = .ok (.aload_n 0, 1) := by decide +kernel
theorem dX1_init_10 : decode prog_3_method_1_code 10 = .ok (.iconst 4, 1) := by decide +kernel
theorem dX1_init_11 : decode prog_3_method_1_code 11 = .ok (.newarray .int, 2) := by decide +kernel
theorem dX1_init_13 : decode prog_3_method_1_code 13 = .ok (.putfield 13, 3) := by decide +kernel
theorem dX1_init_16 : decode prog_3_method_1_code 16 = .ok (.aload_n 0, 1) := by decide +kernel
theorem dX1_init_17 : decode prog_3_method_1_code 17 = .ok (.iconst 4, 1) := by decide +kernel
theorem dX1_init_18 : decode prog_3_method_1_code 18 = .ok (.newarray .int, 2) := by decide +kernel
theorem dX1_init_20 : decode prog_3_method_1_code 20 = .ok (.putfield 17, 3) := by decide +kernel
theorem dX1_init_23 : decode prog_3_method_1_code 23 = .ok (.return_, 1) := by decide +kernel
theorem nX1_copyFrom : zDs yX1_copyFrom 1 := ⟨by decide, by decide, by decide +kernel⟩
theorem dX1_copyFrom_0 : decode prog_3_method_2_code 0 = .ok (.aload_n 0, 1) := by decide +kernel
theorem dX1_copyFrom_1 : decode prog_3_method_2_code 1 = .ok (.aload_n 1, 1) := by decide +kernel
theorem dX1_copyFrom_2 : decode prog_3_method_2_code 2 = .ok (.getfield 7, 3) := by decide +kernel
theorem dX1_copyFrom_5 : decode prog_3_method_2_code 5 = .ok (.putfield 7, 3) := by decide +kernel
theorem dX1_copyFrom_8 : decode prog_3_method_2_code 8 = .ok (.aload_n 1, 1) := by decide +kernel
theorem dX1_copyFrom_9 : decode prog_3_method_2_code 9 = .ok (.getfield 13, 3) := by decide +kernel
theorem dX1_copyFrom_12 : decode prog_3_method_2_code 12 = .ok (.aload_n 0, 1) := by decide +kernel
theorem dX1_copyFrom_13 : decode prog_3_method_2_code 13 = .ok (.getfield 13, 3) := by decide +kernel
theorem dX1_copyFrom_16 : decode prog_3_method_2_code 16 = .ok (.invokestatic 20, 3) := by decide +kernel
theorem dX1_copyFrom_19 : decode prog_3_method_2_code 19 = .ok (.aload_n 1, 1) := by decide +kernel
theorem dX1_copyFrom_20 : decode prog_3_method_2_code 20 = .ok (.getfield 17, 3) := by decide +kernel
theorem dX1_copyFrom_23 : decode prog_3_method_2_code 23 = .ok (.aload_n 0, 1) := by decide +kernel
theorem dX1_copyFrom_24 : decode prog_3_method_2_code 24 = .ok (.getfield 17, 3) := by decide +kernel
theorem dX1_copyFrom_27 : decode prog_3_method_2_code 27 = .ok (.invokestatic 20, 3) := by decide +kernel
theorem dX1_copyFrom_30 : decode prog_3_method_2_code 30 = .ok (.return_, 1) := by decide +kernel
theorem nX1_find : zDs yX1_find 1 := ⟨by decide, by decide, by decide +kernel⟩
theorem dX1_find_0 : decode prog_3_method_3_code 0 = .ok (.iconst 0, 1) := by decide +kernel
theorem dX1_find_1 : decode prog_3_method_3_code 1 = .ok (.istore_n 2, 1) := by decide +kernel
theorem dX1_find_2 : decode prog_3_method_3_code 2 = .ok (.iload_n 2, 1) := by decide +kernel
theorem dX1_find_3 : decode prog_3_method_3_code 3 = .ok (.aload_n 0, 1) := by decide +kernel
theorem dX1_find_4 : decode prog_3_method_3_code 4 = .ok (.getfield 7, 3) := by decide +kernel
theorem dX1_find_7 : decode prog_3_method_3_code 7 = .ok (.if_icmp .ge 23, 3) := by decide +kernel
theorem dX1_find_10 : decode prog_3_method_3_code 10 = .ok (.aload_n 0, 1) := by decide +kernel
theorem dX1_find_11 : decode prog_3_method_3_code 11 = .ok (.getfield 13, 3) := by decide +kernel
theorem dX1_find_14 : decode prog_3_method_3_code 14 = .ok (.iload_n 2, 1) := by decide +kernel
theorem dX1_find_15 : decode prog_3_method_3_code 15 = .ok (.invokestatic 26, 3) := by decide +kernel
theorem dX1_find_18 : decode prog_3_method_3_code 18 = .ok (.iload_n 1, 1) := by decide +kernel
theorem dX1_find_19 : decode prog_3_method_3_code 19 = .ok (.if_icmp .ne 5, 3) := by decide +kernel
theorem dX1_find_22 : decode prog_3_method_3_code 22 = .ok (.iload_n 2, 1) := by decide +kernel
theorem dX1_find_23 : decode prog_3_method_3_code 23 = .ok (.ireturn, 1) := by decide +kernel
theorem dX1_find_24 : decode prog_3_method_3_code 24 = .ok (.iinc 2 1, 3) := by decide +kernel
theorem dX1_find_27 : decode prog_3_method_3_code 27 = .ok (.goto (-25), 3) := by decide +kernel
theorem dX1_find_30 : decode prog_3_method_3_code 30 = .ok (.iconst (-1), 1) := by decide +kernel
theorem dX1_find_31 : decode prog_3_method_3_code 31 = .ok (.ireturn, 1) := by decide +kernel
theorem nX1_tell : zDs yX1_tell 2 := ⟨by decide, by decide, by decide +kernel⟩
theorem dX1_tell_0 : decode prog_3_method_4_code 0 = .ok (.aload_n 0, 1) := by decide +kernel
theorem dX1_tell_1 : decode prog_3_method_4_code 1 = .ok (.iload_n 1, 1) := by decide +kernel
theorem dX1_tell_2 : decode prog_3_method_4_code 2 = .ok (.invokevirtual 30, 3) := by decide +kernel
theorem dX1_tell_5 : decode prog_3_method_4_code 5 = .ok (.istore_n 3, 1) := by decide +kernel
theorem dX1_tell_6 : decode prog_3_method_4_code 6 = .ok (.iload_n 3, 1) := by decide +kernel
theorem dX1_tell_7 : decode prog_3_method_4_code 7 = .ok (.ifCond .ge 18, 3) := by decide +kernel
theorem dX1_tell_10 : decode prog_3_method_4_code 10 = .ok (.aload_n 0, 1) := by decide +kernel
theorem dX1_tell_11 : decode prog_3_method_4_code 11 = .ok (.getfield 7, 3) := by decide +kernel
theorem dX1_tell_14 : decode prog_3_method_4_code 14 = .ok (.istore_n 3, 1) := by decide +kernel
theorem dX1_tell_15 : decode prog_3_method_4_code 15 = .ok (.aload_n 0, 1) := by decide +kernel
theorem dX1_tell_16 : decode prog_3_method_4_code 16 = .ok (.dup, 1) := by decide +kernel
theorem dX1_tell_17 : decode prog_3_method_4_code 17 = .ok (.getfield 7, 3) := by decide +kernel
theorem dX1_tell_20 : decode prog_3_method_4_code 20 = .ok (.iconst 1, 1) := by decide +kernel
theorem dX1_tell_21 : decode prog_3_method_4_code 21 = .ok (.iadd, 1) := by decide +kernel
theorem dX1_tell_22 : decode prog_3_method_4_code 22 = .ok (.putfield 7, 3) := by decide +kernel
theorem dX1_tell_25 : decode prog_3_method_4_code 25 = .ok (.aload_n 0, 1) := by decide +kernel
theorem dX1_tell_26 : decode prog_3_method_4_code 26 = .ok (.getfield 13, 3) := by decide +kernel
theorem dX1_tell_29 : decode prog_3_method_4_code 29 = .ok (.iload_n 3, 1) := by decide +kernel
theorem dX1_tell_30 : decode prog_3_method_4_code 30 = .ok (.iload_n 1, 1) := by decide +kernel
theorem dX1_tell_31 : decode prog_3_method_4_code 31 = .ok (.invokestatic 34, 3) := by decide +kernel
theorem dX1_tell_34 : decode prog_3_method_4_code 34 = .ok (.aload_n 0, 1) := by decide +kernel
theorem dX1_tell_35 : decode prog_3_method_4_code 35 = .ok (.getfield 17, 3) := by decide +kernel
theorem dX1_tell_38 : decode prog_3_method_4_code 38 = .ok (.iload_n 3, 1) := by decide +kernel
theorem dX1_tell_39 : decode prog_3_method_4_code 39 = .ok (.iload_n 2, 1) := by decide +kernel
theorem dX1_tell_40 : decode prog_3_method_4_code 40 = .ok (.invokestatic 34, 3) := by decide +kernel
theorem dX1_tell_43 : decode prog_3_method_4_code 43 = .ok (.aload_n 0, 1) := by decide +kernel
theorem dX1_tell_44 : decode prog_3_method_4_code 44 = .ok (.getfield 7, 3) := by decide +kernel
theorem dX1_tell_47 : decode prog_3_method_4_code 47 = .ok (.ireturn, 1) := by decide +kernel
theorem nX1_shiftIn : zDs yX1_shiftIn 1 := ⟨by decide, by decide, by decide +kernel⟩
theorem dX1_shiftIn_0 : decode prog_3_method_5_code 0 = .ok (.iconst (-1), 1) := by decide +kernel
theorem dX1_shiftIn_1 : decode prog_3_method_5_code 1 = .ok (.istore_n 2, 1) := by decide +kernel
theorem dX1_shiftIn_2 : decode prog_3_method_5_code 2 = .ok (.iconst 0, 1) := by decide +kernel
theorem dX1_shiftIn_3 : decode prog_3_method_5_code 3 = .ok (.istore_n 3, 1) := by decide +kernel
theorem dX1_shiftIn_4 : decode prog_3_method_5_code 4 = .ok (.iconst 0, 1) := by decide +kernel
theorem dX1_shiftIn_5 : decode prog_3_method_5_code 5 = .ok (.istore 4, 2) := by decide +kernel
theorem dX1_shiftIn_7 : decode prog_3_method_5_code 7 = .ok (.iload 4, 2) := by decide +kernel
theorem dX1_shiftIn_9 : decode prog_3_method_5_code 9 = .ok (.aload_n 0, 1) := by decide +kernel
theorem dX1_shiftIn_10 : decode prog_3_method_5_code 10 = .ok (.getfield 7, 3) := by decide +kernel
theorem dX1_shiftIn_13 : decode prog_3_method_5_code 13 = .ok (.if_icmp .ge 45, 3) := by decide +kernel
theorem dX1_shiftIn_16 : decode prog_3_method_5_code 16 = .ok (.aload_n 0, 1) := by decide +kernel
theorem dX1_shiftIn_17 : decode prog_3_method_5_code 17 = .ok (.getfield 13, 3) := by decide +kernel
theorem dX1_shiftIn_20 : decode prog_3_method_5_code 20 = .ok (.iload 4, 2) := by decide +kernel
theorem dX1_shiftIn_22 : decode prog_3_method_5_code 22 = .ok (.invokestatic 26, 3) := by decide +kernel
theorem dX1_shiftIn_25 : decode prog_3_method_5_code 25 = .ok (.istore 5, 2) := by decide +kernel
theorem dX1_shiftIn_27 : decode prog_3_method_5_code 27 = .ok (.iload 5, 2) := by decide +kernel
theorem dX1_shiftIn_29 : decode prog_3_method_5_code 29 = .ok (.iload_n 1, 1) := by decide +kernel
theorem dX1_shiftIn_30 : decode prog_3_method_5_code 30 = .ok (.if_icmp .gt 22, 3) := by decide +kernel
theorem dX1_shiftIn_33 : decode prog_3_method_5_code 33 = .ok (.iload 5, 2) := by decide +kernel
theorem dX1_shiftIn_35 : decode prog_3_method_5_code 35 = .ok (.iload_n 2, 1) := by decide +kernel
theorem dX1_shiftIn_36 : decode prog_3_method_5_code 36 = .ok (.if_icmp .le 16, 3) := by decide +kernel
theorem dX1_shiftIn_39 : decode prog_3_method_5_code 39 = .ok (.iload 5, 2) := by decide +kernel
theorem dX1_shiftIn_41 : decode prog_3_method_5_code 41 = .ok (.istore_n 2, 1) := by decide +kernel
theorem dX1_shiftIn_42 : decode prog_3_method_5_code 42 = .ok (.aload_n 0, 1) := by decide +kernel
theorem dX1_shiftIn_43 : decode prog_3_method_5_code 43 = .ok (.getfield 17, 3) := by decide +kernel
theorem dX1_shiftIn_46 : decode prog_3_method_5_code 46 = .ok (.iload 4, 2) := by decide +kernel
theorem dX1_shiftIn_48 : decode prog_3_method_5_code 48 = .ok (.invokestatic 26, 3) := by decide +kernel
theorem dX1_shiftIn_51 : decode prog_3_method_5_code 51 = .ok (.istore_n 3, 1) := by decide +kernel
theorem dX1_shiftIn_52 : decode prog_3_method_5_code 52 = .ok (.iinc 4 1, 3) := by decide +kernel
theorem dX1_shiftIn_55 : decode prog_3_method_5_code 55 = .ok (.goto (-48), 3) := by decide +kernel
theorem dX1_shiftIn_58 : decode prog_3_method_5_code 58 = .ok (.iload_n 3, 1) := by decide +kernel
theorem dX1_shiftIn_59 : decode prog_3_method_5_code 59 = .ok (.ireturn, 1) := by decide +kernel
theorem pnX2 : plainName RX2 = true := by decide +kernel
theorem nX2_init : zDs yX2_init 0 := ⟨by decide, by decide, by decide +kernel⟩
theorem dX2_init_0 : decode prog_4_method_1_code 0 = .ok (.aload_n 0, 1) := by decide +kernel
theorem dX2_init_1 : decode prog_4_method_1_code 1 = .ok (.invokespecial 1, 3) := by decide +kernel
theorem dX2_init_4 : decode prog_4_method_1_code 4 = .ok (.aload_n 0, 1) := by decide +kernel
theorem dX2_init_5 : decode prog_4_method_1_code 5 = .ok (.iconst 0, 1) := by decide +kernel
theorem dX2_init_6 : decode prog_4_method_1_code 6 = .ok (.putfield 7, 3) := by decide +kernel
theorem dX2_init_9 : decode prog_4_method_1_code 9 = .ok (.aload_n 0, 1) := by decide +kernel
theorem dX2_init_10 : decode prog_4_method_1_code 10 = .ok (.bipush 12, 2) := by decide +kernel
theorem dX2_init_12 : decode prog_4_method_1_code 12 = .ok (.newarray .int, 2) := by decide +kernel
theorem dX2_init_14 : decode prog_4_method_1_code 14 = .ok (.putfield 13, 3) := by decide +kernel
theorem dX2_init_17 : decode prog_4_method_1_code 17 = .ok (.aload_n 0, 1) := by decide +kernel
theorem dX2_init_18 : decode prog_4_method_1_code 18 = .ok (.bipush 12, 2) := by decide +kernel
theorem dX2_init_20 : decode prog_4_method_1_code 20 = .ok (.newarray .int, 2) := by decide +kernel
theorem dX2_init_22 : decode prog_4_method_1_code 22 = .ok (.putfield 17, 3) := by decide +kernel
theorem dX2_init_25 : decode prog_4_method_1_code 25 = .ok (.aload_n 0, 1) := by decide +kernel
theorem dX2_init_26 : decode prog_4_method_1_code 26 = .ok (.bipush 12, 2) := by decide +kernel
theorem dX2_init_28 : decode prog_4_method_1_code 28 = .ok (.newarray .int, 2) := by decide +kernel
theorem dX2_init_30 : decode prog_4_method_1_code 30 = .ok (.putfield 20, 3) := by decide +kernel
theorem dX2_init_33 : decode prog_4_method_1_code 33 = .ok (.return_, 1) := by decide +kernel
theorem nX2_copyFrom : zDs yX2_copyFrom 1 := ⟨by decide, by decide, by decide +kernel⟩
theorem dX2_copyFrom_0 : decode prog_4_method_2_code 0 = .ok (.aload_n 0, 1) := by decide +kernel
theorem dX2_copyFrom_1 : decode prog_4_method_2_code 1 = .ok (.aload_n 1, 1) := by decide +kernel
theorem dX2_copyFrom_2 : decode prog_4_method_2_code 2 = .ok (.getfield 7, 3) := by decide +kernel
theorem dX2_copyFrom_5 : decode prog_4_method_2_code 5 = .ok (.putfield 7, 3) := by decide +kernel
theorem dX2_copyFrom_8 : decode prog_4_method_2_code 8 = .ok (.aload_n 1, 1) := by decide +kernel
theorem dX2_copyFrom_9 : decode prog_4_method_2_code 9 = .ok (.getfield 13, 3) := by decide +kernel
theorem dX2_copyFrom_12 : decode prog_4_method_2_code 12 = .ok (.aload_n 0, 1) := by decide +kernel
theorem dX2_copyFrom_13 : decode prog_4_method_2_code 13 = .ok (.getfield 13, 3) := by decide +kernel
theorem dX2_copyFrom_16 : decode prog_4_method_2_code 16 = .ok (.invokestatic 23, 3) := by decide +kernel
theorem dX2_copyFrom_19 : decode prog_4_method_2_code 19 = .ok (.aload_n 1, 1) := by decide +kernel
theorem dX2_copyFrom_20 : decode prog_4_method_2_code 20 = .ok (.getfield 17, 3) := by decide +kernel
theorem dX2_copyFrom_23 : decode prog_4_method_2_code 23 = .ok (.aload_n 0, 1) := by decide +kernel
theorem dX2_copyFrom_24 : decode prog_4_method_2_code 24 = .ok (.getfield 17, 3) := by decide +kernel
theorem dX2_copyFrom_27 : decode prog_4_method_2_code 27 = .ok (.invokestatic 23, 3) := by decide +kernel
theorem dX2_copyFrom_30 : decode prog_4_method_2_code 30 = .ok (.aload_n 1, 1) := by decide +kernel
theorem dX2_copyFrom_31 : decode prog_4_method_2_code 31 = .ok (.getfield 20, 3) := by decide +kernel
theorem dX2_copyFrom_34 : decode prog_4_method_2_code 34 = .ok (.aload_n 0, 1) := by decide +kernel
theorem dX2_copyFrom_35 : decode prog_4_method_2_code 35 = .ok (.getfield 20, 3) := by decide +kernel
theorem dX2_copyFrom_38 : decode prog_4_method_2_code 38 = .ok (.invokestatic 23, 3) := by decide +kernel
theorem dX2_copyFrom_41 : decode prog_4_method_2_code 41 = .ok (.return_, 1) := by decide +kernel
theorem nX2_has : zDs yX2_has 1 := ⟨by decide, by decide, by decide +kernel⟩
theorem dX2_has_0 : decode prog_4_method_3_code 0 = .ok (.iload_n 1, 1) := by decide +kernel
theorem dX2_has_1 : decode prog_4_method_3_code 1 = .ok (.ifCond .lt 15, 3) := by decide +kernel
theorem dX2_has_4 : decode prog_4_method_3_code 4 = .ok (.iload_n 1, 1) := by decide +kernel
theorem dX2_has_5 : decode prog_4_method_3_code 5 = .ok (.aload_n 0, 1) := by decide +kernel
theorem dX2_has_6 : decode prog_4_method_3_code 6 = .ok (.getfield 7, 3) := by decide +kernel
theorem dX2_has_9 : decode prog_4_method_3_code 9 = .ok (.if_icmp .ge 7, 3) := by decide +kernel
theorem dX2_has_12 : decode prog_4_method_3_code 12 = .ok (.iconst 1, 1) := by decide +kernel
theorem dX2_has_13 : decode prog_4_method_3_code 13 = .ok (.goto 4, 3) := by decide +kernel
theorem dX2_has_16 : decode prog_4_method_3_code 16 = .ok (.iconst 0, 1) := by decide +kernel
theorem dX2_has_17 : decode prog_4_method_3_code 17 = .ok (.ireturn, 1) := by decide +kernel
theorem nX2_add : zDs yX2_add 3 := ⟨by decide, by decide, by decide +kernel⟩
theorem dX2_add_0 : decode prog_4_method_4_code 0 = .ok (.aload_n 0, 1) := by decide +kernel
theorem dX2_add_1 : decode prog_4_method_4_code 1 = .ok (.getfield 7, 3) := by decide +kernel
theorem dX2_add_4 : decode prog_4_method_4_code 4 = .ok (.istore 4, 2) := by decide +kernel
theorem dX2_add_6 : decode prog_4_method_4_code 6 = .ok (.aload_n 0, 1) := by decide +kernel
theorem dX2_add_7 : decode prog_4_method_4_code 7 = .ok (.getfield 13, 3) := by decide +kernel
theorem dX2_add_10 : decode prog_4_method_4_code 10 = .ok (.iload 4, 2) := by decide +kernel
theorem dX2_add_12 : decode prog_4_method_4_code 12 = .ok (.iload_n 1, 1) := by decide +kernel
theorem dX2_add_13 : decode prog_4_method_4_code 13 = .ok (.invokestatic 29, 3) := by decide +kernel
theorem dX2_add_16 : decode prog_4_method_4_code 16 = .ok (.aload_n 0, 1) := by decide +kernel
theorem dX2_add_17 : decode prog_4_method_4_code 17 = .ok (.getfield 17, 3) := by decide +kernel
theorem dX2_add_20 : decode prog_4_method_4_code 20 = .ok (.iload 4, 2) := by decide +kernel
theorem dX2_add_22 : decode prog_4_method_4_code 22 = .ok (.iload_n 2, 1) := by decide +kernel
theorem dX2_add_23 : decode prog_4_method_4_code 23 = .ok (.invokestatic 29, 3) := by decide +kernel
theorem dX2_add_26 : decode prog_4_method_4_code 26 = .ok (.aload_n 0, 1) := by decide +kernel
theorem dX2_add_27 : decode prog_4_method_4_code 27 = .ok (.getfield 20, 3) := by decide +kernel
theorem dX2_add_30 : decode prog_4_method_4_code 30 = .ok (.iload 4, 2) := by decide +kernel
theorem dX2_add_32 : decode prog_4_method_4_code 32 = .ok (.iload_n 3, 1) := by decide +kernel
theorem dX2_add_33 : decode prog_4_method_4_code 33 = .ok (.invokestatic 29, 3) := by decide +kernel
theorem dX2_add_36 : decode prog_4_method_4_code 36 = .ok (.aload_n 0, 1) := by decide +kernel
theorem dX2_add_37 : decode prog_4_method_4_code 37 = .ok (.iload 4, 2) := by decide +kernel
theorem dX2_add_39 : decode prog_4_method_4_code 39 = .ok (.iconst 1, 1) := by decide +kernel
theorem dX2_add_40 : decode prog_4_method_4_code 40 = .ok (.iadd, 1) := by decide +kernel
theorem dX2_add_41 : decode prog_4_method_4_code 41 = .ok (.putfield 7, 3) := by decide +kernel
theorem dX2_add_44 : decode prog_4_method_4_code 44 = .ok (.iload 4, 2) := by decide +kernel
theorem dX2_add_46 : decode prog_4_method_4_code 46 = .ok (.ireturn, 1) := by decide +kernel
theorem nX2_addWitnesses : zDs yX2_addWitnesses 2 := ⟨by decide, by decide, by decide +kernel⟩
theorem dX2_addWitnesses_0 : decode prog_4_method_5_code 0 = .ok (.aload_n 0, 1) := by decide +kernel
theorem dX2_addWitnesses_1 : decode prog_4_method_5_code 1 = .ok (.getfield 20, 3) := by decide +kernel
theorem dX2_addWitnesses_4 : decode prog_4_method_5_code 4 = .ok (.iload_n 1, 1) := by decide +kernel
theorem dX2_addWitnesses_5 : decode prog_4_method_5_code 5 = .ok (.invokestatic 33, 3) := by decide +kernel
theorem dX2_addWitnesses_8 : decode prog_4_method_5_code 8 = .ok (.iload_n 2, 1) := by decide +kernel
theorem dX2_addWitnesses_9 : decode prog_4_method_5_code 9 = .ok (.iadd, 1) := by decide +kernel
theorem dX2_addWitnesses_10 : decode prog_4_method_5_code 10 = .ok (.istore_n 3, 1) := by decide +kernel
theorem dX2_addWitnesses_11 : decode prog_4_method_5_code 11 = .ok (.aload_n 0, 1) := by decide +kernel
theorem dX2_addWitnesses_12 : decode prog_4_method_5_code 12 = .ok (.getfield 20, 3) := by decide +kernel
theorem dX2_addWitnesses_15 : decode prog_4_method_5_code 15 = .ok (.iload_n 1, 1) := by decide +kernel
theorem dX2_addWitnesses_16 : decode prog_4_method_5_code 16 = .ok (.iload_n 3, 1) := by decide +kernel
theorem dX2_addWitnesses_17 : decode prog_4_method_5_code 17 = .ok (.invokestatic 29, 3) := by decide +kernel
theorem dX2_addWitnesses_20 : decode prog_4_method_5_code 20 = .ok (.iload_n 3, 1) := by decide +kernel
theorem dX2_addWitnesses_21 : decode prog_4_method_5_code 21 = .ok (.ireturn, 1) := by decide +kernel
theorem nX2_findYear : zDs yX2_findYear 1 := ⟨by decide, by decide, by decide +kernel⟩
theorem dX2_findYear_0 : decode prog_4_method_6_code 0 = .ok (.iconst 0, 1) := by decide +kernel
theorem dX2_findYear_1 : decode prog_4_method_6_code 1 = .ok (.istore_n 2, 1) := by decide +kernel
theorem dX2_findYear_2 : decode prog_4_method_6_code 2 = .ok (.iload_n 2, 1) := by decide +kernel
theorem dX2_findYear_3 : decode prog_4_method_6_code 3 = .ok (.aload_n 0, 1) := by decide +kernel
theorem dX2_findYear_4 : decode prog_4_method_6_code 4 = .ok (.getfield 7, 3) := by decide +kernel
theorem dX2_findYear_7 : decode prog_4_method_6_code 7 = .ok (.if_icmp .ge 23, 3) := by decide +kernel
theorem dX2_findYear_10 : decode prog_4_method_6_code 10 = .ok (.aload_n 0, 1) := by decide +kernel
theorem dX2_findYear_11 : decode prog_4_method_6_code 11 = .ok (.getfield 13, 3) := by decide +kernel
theorem dX2_findYear_14 : decode prog_4_method_6_code 14 = .ok (.iload_n 2, 1) := by decide +kernel
theorem dX2_findYear_15 : decode prog_4_method_6_code 15 = .ok (.invokestatic 33, 3) := by decide +kernel
theorem dX2_findYear_18 : decode prog_4_method_6_code 18 = .ok (.iload_n 1, 1) := by decide +kernel
theorem dX2_findYear_19 : decode prog_4_method_6_code 19 = .ok (.if_icmp .ne 5, 3) := by decide +kernel
theorem dX2_findYear_22 : decode prog_4_method_6_code 22 = .ok (.iload_n 2, 1) := by decide +kernel
theorem dX2_findYear_23 : decode prog_4_method_6_code 23 = .ok (.ireturn, 1) := by decide +kernel
theorem dX2_findYear_24 : decode prog_4_method_6_code 24 = .ok (.iinc 2 1, 3) := by decide +kernel
theorem dX2_findYear_27 : decode prog_4_method_6_code 27 = .ok (.goto (-25), 3) := by decide +kernel
theorem dX2_findYear_30 : decode prog_4_method_6_code 30 = .ok (.iconst (-1), 1) := by decide +kernel
theorem dX2_findYear_31 : decode prog_4_method_6_code 31 = .ok (.ireturn, 1) := by decide +kernel
theorem nX2_findLatestAhead : zDs yX2_findLatestAhead 1 := ⟨by decide, by decide, by decide +kernel⟩
theorem dX2_findLatestAhead_0 : decode prog_4_method_7_code 0 = .ok (.iconst (-1), 1) := by decide +kernel
theorem dX2_findLatestAhead_1 : decode prog_4_method_7_code 1 = .ok (.istore_n 2, 1) := by decide +kernel
theorem dX2_findLatestAhead_2 : decode prog_4_method_7_code 2 = .ok (.iconst 0, 1) := by decide +kernel
theorem dX2_findLatestAhead_3 : decode prog_4_method_7_code 3 = .ok (.istore_n 3, 1) := by decide +kernel
theorem dX2_findLatestAhead_4 : decode prog_4_method_7_code 4 = .ok (.iload_n 3, 1) := by decide +kernel
theorem dX2_findLatestAhead_5 : decode prog_4_method_7_code 5 = .ok (.aload_n 0, 1) := by decide +kernel
theorem dX2_findLatestAhead_6 : decode prog_4_method_7_code 6 = .ok (.getfield 7, 3) := by decide +kernel
theorem dX2_findLatestAhead_9 : decode prog_4_method_7_code 9 = .ok (.if_icmp .ge 44, 3) := by decide +kernel
theorem dX2_findLatestAhead_12 : decode prog_4_method_7_code 12 = .ok (.aload_n 0, 1) := by decide +kernel
theorem dX2_findLatestAhead_13 : decode prog_4_method_7_code 13 = .ok (.getfield 13, 3) := by decide +kernel
theorem dX2_findLatestAhead_16 : decode prog_4_method_7_code 16 = .ok (.iload_n 3, 1) := by decide +kernel
theorem dX2_findLatestAhead_17 : decode prog_4_method_7_code 17 = .ok (.invokestatic 33, 3) := by decide +kernel
theorem dX2_findLatestAhead_20 : decode prog_4_method_7_code 20 = .ok (.istore 4, 2) := by decide +kernel
theorem dX2_findLatestAhead_22 : decode prog_4_method_7_code 22 = .ok (.iload 4, 2) := by decide +kernel
theorem dX2_findLatestAhead_24 : decode prog_4_method_7_code 24 = .ok (.iload_n 1, 1) := by decide +kernel
theorem dX2_findLatestAhead_25 : decode prog_4_method_7_code 25 = .ok (.if_icmp .ge 22, 3) := by decide +kernel
theorem dX2_findLatestAhead_28 : decode prog_4_method_7_code 28 = .ok (.iload_n 2, 1) := by decide +kernel
theorem dX2_findLatestAhead_29 : decode prog_4_method_7_code 29 = .ok (.ifCond .lt 16, 3) := by decide +kernel
theorem dX2_findLatestAhead_32 : decode prog_4_method_7_code 32 = .ok (.iload 4, 2) := by decide +kernel
theorem dX2_findLatestAhead_34 : decode prog_4_method_7_code 34 = .ok (.aload_n 0, 1) := by decide +kernel
theorem dX2_findLatestAhead_35 : decode prog_4_method_7_code 35 = .ok (.getfield 13, 3) := by decide +kernel
theorem dX2_findLatestAhead_38 : decode prog_4_method_7_code 38 = .ok (.iload_n 2, 1) := by decide +kernel
theorem dX2_findLatestAhead_39 : decode prog_4_method_7_code 39 = .ok (.invokestatic 33, 3) := by decide +kernel
theorem dX2_findLatestAhead_42 : decode prog_4_method_7_code 42 = .ok (.if_icmp .le 5, 3) := by decide +kernel
theorem dX2_findLatestAhead_45 : decode prog_4_method_7_code 45 = .ok (.iload_n 3, 1) := by decide +kernel
theorem dX2_findLatestAhead_46 : decode prog_4_method_7_code 46 = .ok (.istore_n 2, 1) := by decide +kernel
theorem dX2_findLatestAhead_47 : decode prog_4_method_7_code 47 = .ok (.iinc 3 1, 3) := by decide +kernel
theorem dX2_findLatestAhead_50 : decode prog_4_method_7_code 50 = .ok (.goto (-46), 3) := by decide +kernel
theorem dX2_findLatestAhead_53 : decode prog_4_method_7_code 53 = .ok (.iload_n 2, 1) := by decide +kernel
theorem dX2_findLatestAhead_54 : decode prog_4_method_7_code 54 = .ok (.ireturn, 1) := by decide +kernel
theorem pnX3 : plainName RX3 = true := by decide +kernel
theorem nX3_init : zDs yX3_init 1 := ⟨by decide, by decide, by decide +kernel⟩
theorem dX3_init_0 : decode prog_5_method_1_code 0 = .ok (.aload_n 0, 1) := by decide +kernel
theorem dX3_init_1 : decode prog_5_method_1_code 1 = .ok (.invokespecial 1, 3) := by decide +kernel
theorem dX3_init_4 : decode prog_5_method_1_code 4 = .ok (.aload_n 0, 1) := by decide +kernel
theorem dX3_init_5 : decode prog_5_method_1_code 5 = .ok (.iconst 0, 1) := by decide +kernel
theorem dX3_init_6 : decode prog_5_method_1_code 6 = .ok (.putfield 7, 3) := by decide +kernel
theorem dX3_init_9 : decode prog_5_method_1_code 9 = .ok (.aload_n 0, 1) := by decide +kernel
theorem dX3_init_10 : decode prog_5_method_1_code 10 = .ok (.iconst 0, 1) := by decide +kernel
theorem dX3_init_11 : decode prog_5_method_1_code 11 = .ok (.putfield 13, 3) := by decide +kernel
theorem dX3_init_14 : decode prog_5_method_1_code 14 = .ok (.aload_n 0, 1) := by decide +kernel
theorem dX3_init_15 : decode prog_5_method_1_code 15 = .ok (.iload_n 1, 1) := by decide +kernel
theorem dX3_init_16 : decode prog_5_method_1_code 16 = .ok (.ifCond .le 7, 3) := by decide +kernel
theorem dX3_init_19 : decode prog_5_method_1_code 19 = .ok (.iload_n 1, 1) := by decide +kernel
theorem dX3_init_20 : decode prog_5_method_1_code 20 = .ok (.goto 4, 3) := by decide +kernel
theorem dX3_init_23 : decode prog_5_method_1_code 23 = .ok (.iconst 1, 1) := by decide +kernel
theorem dX3_init_24 : decode prog_5_method_1_code 24 = .ok (.anewarray 16, 3) := by decide +kernel
theorem dX3_init_27 : decode prog_5_method_1_code 27 = .ok (.putfield 18, 3) := by decide +kernel
theorem dX3_init_30 : decode prog_5_method_1_code 30 = .ok (.iconst 0, 1) := by decide +kernel
theorem dX3_init_31 : decode prog_5_method_1_code 31 = .ok (.istore_n 2, 1) := by decide +kernel
theorem dX3_init_32 : decode prog_5_method_1_code 32 = .ok (.iload_n 2, 1) := by decide +kernel
theorem dX3_init_33 : decode prog_5_method_1_code 33 = .ok (.aload_n 0, 1) := by decide +kernel
theorem dX3_init_34 : decode prog_5_method_1_code 34 = .ok (.getfield 18, 3) := by decide +kernel
theorem dX3_init_37 : decode prog_5_method_1_code 37 = .ok (.arraylength, 1) := by decide +kernel
theorem dX3_init_38 : decode prog_5_method_1_code 38 = .ok (.if_icmp .ge 22, 3) := by decide +kernel
theorem dX3_init_41 : decode prog_5_method_1_code 41 = .ok (.aload_n 0, 1) := by decide +kernel
theorem dX3_init_42 : decode prog_5_method_1_code 42 = .ok (.getfield 18, 3) := by decide +kernel
theorem dX3_init_45 : decode prog_5_method_1_code 45 = .ok (.iload_n 2, 1) := by decide +kernel
theorem dX3_init_46 : decode prog_5_method_1_code 46 = .ok (.new 16, 3) := by decide +kernel
theorem dX3_init_49 : decode prog_5_method_1_code 49 = .ok (.dup, 1) := by decide +kernel
theorem dX3_init_50 : decode prog_5_method_1_code 50 = .ok (.invokespecial 22, 3) := by decide +kernel
theorem dX3_init_53 : decode prog_5_method_1_code 53 = .ok (.aastore, 1) := by decide +kernel
theorem dX3_init_54 : decode prog_5_method_1_code 54 = .ok (.iinc 2 1, 3) := by decide +kernel
theorem dX3_init_57 : decode prog_5_method_1_code 57 = .ok (.goto (-25), 3) := by decide +kernel
theorem dX3_init_60 : decode prog_5_method_1_code 60 = .ok (.return_, 1) := by decide +kernel
theorem nX3_slotAt : zDs yX3_slotAt 1 := ⟨by decide, by decide, by decide +kernel⟩
theorem dX3_slotAt_0 : decode prog_5_method_2_code 0 = .ok (.iload_n 1, 1) := by decide +kernel
theorem dX3_slotAt_1 : decode prog_5_method_2_code 1 = .ok (.ifCond .lt 21, 3) := by decide +kernel
theorem dX3_slotAt_4 : decode prog_5_method_2_code 4 = .ok (.iload_n 1, 1) := by decide +kernel
theorem dX3_slotAt_5 : decode prog_5_method_2_code 5 = .ok (.aload_n 0, 1) := by decide +kernel
theorem dX3_slotAt_6 : decode prog_5_method_2_code 6 = .ok (.getfield 18, 3) := by decide +kernel
theorem dX3_slotAt_9 : decode prog_5_method_2_code 9 = .ok (.arraylength, 1) := by decide +kernel
theorem dX3_slotAt_10 : decode prog_5_method_2_code 10 = .ok (.if_icmp .ge 12, 3) := by decide +kernel
theorem dX3_slotAt_13 : decode prog_5_method_2_code 13 = .ok (.aload_n 0, 1) := by decide +kernel
theorem dX3_slotAt_14 : decode prog_5_method_2_code 14 = .ok (.getfield 18, 3) := by decide +kernel
theorem dX3_slotAt_17 : decode prog_5_method_2_code 17 = .ok (.iload_n 1, 1) := by decide +kernel
theorem dX3_slotAt_18 : decode prog_5_method_2_code 18 = .ok (.aaload, 1) := by decide +kernel
theorem dX3_slotAt_19 : decode prog_5_method_2_code 19 = .ok (.goto 4, 3) := by decide +kernel
theorem dX3_slotAt_22 : decode prog_5_method_2_code 22 = .ok (.aconst_null, 1) := by decide +kernel
theorem dX3_slotAt_23 : decode prog_5_method_2_code 23 = .ok (.areturn, 1) := by decide +kernel
theorem nX3_keep : zDs yX3_keep 1 := ⟨by decide, by decide, by decide +kernel⟩
theorem dX3_keep_0 : decode prog_5_method_3_code 0 = .ok (.aload_n 0, 1) := by decide +kernel
theorem dX3_keep_1 : decode prog_5_method_3_code 1 = .ok (.aload_n 0, 1) := by decide +kernel
theorem dX3_keep_2 : decode prog_5_method_3_code 2 = .ok (.getfield 7, 3) := by decide +kernel
theorem dX3_keep_5 : decode prog_5_method_3_code 5 = .ok (.invokevirtual 23, 3) := by decide +kernel
theorem dX3_keep_8 : decode prog_5_method_3_code 8 = .ok (.astore_n 2, 1) := by decide +kernel
theorem dX3_keep_9 : decode prog_5_method_3_code 9 = .ok (.aload_n 2, 1) := by decide +kernel
theorem dX3_keep_10 : decode prog_5_method_3_code 10 = .ok (.ifnonnull 4, 3) := by decide +kernel
theorem dX3_keep_13 : decode prog_5_method_3_code 13 = .ok (.return_, 1) := by decide +kernel
theorem dX3_keep_14 : decode prog_5_method_3_code 14 = .ok (.aload_n 2, 1) := by decide +kernel
theorem dX3_keep_15 : decode prog_5_method_3_code 15 = .ok (.aload_n 1, 1) := by decide +kernel
theorem dX3_keep_16 : decode prog_5_method_3_code 16 = .ok (.invokevirtual 27, 3) := by decide +kernel
theorem dX3_keep_19 : decode prog_5_method_3_code 19 = .ok (.aload_n 0, 1) := by decide +kernel
theorem dX3_keep_20 : decode prog_5_method_3_code 20 = .ok (.aload_n 0, 1) := by decide +kernel
theorem dX3_keep_21 : decode prog_5_method_3_code 21 = .ok (.getfield 7, 3) := by decide +kernel
theorem dX3_keep_24 : decode prog_5_method_3_code 24 = .ok (.iconst 1, 1) := by decide +kernel
theorem dX3_keep_25 : decode prog_5_method_3_code 25 = .ok (.iadd, 1) := by decide +kernel
theorem dX3_keep_26 : decode prog_5_method_3_code 26 = .ok (.aload_n 0, 1) := by decide +kernel
theorem dX3_keep_27 : decode prog_5_method_3_code 27 = .ok (.getfield 18, 3) := by decide +kernel
theorem dX3_keep_30 : decode prog_5_method_3_code 30 = .ok (.arraylength, 1) := by decide +kernel
theorem dX3_keep_31 : decode prog_5_method_3_code 31 = .ok (.if_icmp .ge 12, 3) := by decide +kernel
theorem dX3_keep_34 : decode prog_5_method_3_code 34 = .ok (.aload_n 0, 1) := by decide +kernel
theorem dX3_keep_35 : decode prog_5_method_3_code 35 = .ok (.getfield 7, 3) := by decide +kernel
theorem dX3_keep_38 : decode prog_5_method_3_code 38 = .ok (.iconst 1, 1) := by decide +kernel
theorem dX3_keep_39 : decode prog_5_method_3_code 39 = .ok (.iadd, 1) := by decide +kernel
theorem dX3_keep_40 : decode prog_5_method_3_code 40 = .ok (.goto 4, 3) := by decide +kernel
theorem dX3_keep_43 : decode prog_5_method_3_code 43 = .ok (.iconst 0, 1) := by decide +kernel
theorem dX3_keep_44 : decode prog_5_method_3_code 44 = .ok (.putfield 7, 3) := by decide +kernel
theorem dX3_keep_47 : decode prog_5_method_3_code 47 = .ok (.aload_n 0, 1) := by decide +kernel
theorem dX3_keep_48 : decode prog_5_method_3_code 48 = .ok (.aload_n 0, 1) := by decide +kernel
theorem dX3_keep_49 : decode prog_5_method_3_code 49 = .ok (.getfield 13, 3) := by decide +kernel
theorem dX3_keep_52 : decode prog_5_method_3_code 52 = .ok (.iconst 1, 1) := by decide +kernel
theorem dX3_keep_53 : decode prog_5_method_3_code 53 = .ok (.iadd, 1) := by decide +kernel
theorem dX3_keep_54 : decode prog_5_method_3_code 54 = .ok (.aload_n 0, 1) := by decide +kernel
theorem dX3_keep_55 : decode prog_5_method_3_code 55 = .ok (.getfield 18, 3) := by decide +kernel
theorem dX3_keep_58 : decode prog_5_method_3_code 58 = .ok (.arraylength, 1) := by decide +kernel
theorem dX3_keep_59 : decode prog_5_method_3_code 59 = .ok (.invokestatic 31, 3) := by decide +kernel
theorem dX3_keep_62 : decode prog_5_method_3_code 62 = .ok (.putfield 13, 3) := by decide +kernel
theorem dX3_keep_65 : decode prog_5_method_3_code 65 = .ok (.return_, 1) := by decide +kernel
theorem nX3_takeBack : zDs yX3_takeBack 1 := ⟨by decide, by decide, by decide +kernel⟩
theorem dX3_takeBack_0 : decode prog_5_method_4_code 0 = .ok (.aload_n 0, 1) := by decide +kernel
theorem dX3_takeBack_1 : decode prog_5_method_4_code 1 = .ok (.getfield 7, 3) := by decide +kernel
theorem dX3_takeBack_4 : decode prog_5_method_4_code 4 = .ok (.ifCond .le 12, 3) := by decide +kernel
theorem dX3_takeBack_7 : decode prog_5_method_4_code 7 = .ok (.aload_n 0, 1) := by decide +kernel
theorem dX3_takeBack_8 : decode prog_5_method_4_code 8 = .ok (.getfield 7, 3) := by decide +kernel
theorem dX3_takeBack_11 : decode prog_5_method_4_code 11 = .ok (.iconst 1, 1) := by decide +kernel
theorem dX3_takeBack_12 : decode prog_5_method_4_code 12 = .ok (.isub, 1) := by decide +kernel
theorem dX3_takeBack_13 : decode prog_5_method_4_code 13 = .ok (.goto 10, 3) := by decide +kernel
theorem dX3_takeBack_16 : decode prog_5_method_4_code 16 = .ok (.aload_n 0, 1) := by decide +kernel
theorem dX3_takeBack_17 : decode prog_5_method_4_code 17 = .ok (.getfield 18, 3) := by decide +kernel
theorem dX3_takeBack_20 : decode prog_5_method_4_code 20 = .ok (.arraylength, 1) := by decide +kernel
theorem dX3_takeBack_21 : decode prog_5_method_4_code 21 = .ok (.iconst 1, 1) := by decide +kernel
theorem dX3_takeBack_22 : decode prog_5_method_4_code 22 = .ok (.isub, 1) := by decide +kernel
theorem dX3_takeBack_23 : decode prog_5_method_4_code 23 = .ok (.istore_n 2, 1) := by decide +kernel
theorem dX3_takeBack_24 : decode prog_5_method_4_code 24 = .ok (.aload_n 0, 1) := by decide +kernel
theorem dX3_takeBack_25 : decode prog_5_method_4_code 25 = .ok (.iload_n 2, 1) := by decide +kernel
theorem dX3_takeBack_26 : decode prog_5_method_4_code 26 = .ok (.invokevirtual 23, 3) := by decide +kernel
theorem dX3_takeBack_29 : decode prog_5_method_4_code 29 = .ok (.astore_n 3, 1) := by decide +kernel
theorem dX3_takeBack_30 : decode prog_5_method_4_code 30 = .ok (.aload_n 3, 1) := by decide +kernel
theorem dX3_takeBack_31 : decode prog_5_method_4_code 31 = .ok (.ifnull 10, 3) := by decide +kernel
theorem dX3_takeBack_34 : decode prog_5_method_4_code 34 = .ok (.aload_n 0, 1) := by decide +kernel
theorem dX3_takeBack_35 : decode prog_5_method_4_code 35 = .ok (.getfield 13, 3) := by decide +kernel
theorem dX3_takeBack_38 : decode prog_5_method_4_code 38 = .ok (.ifCond .ne 4, 3) := by decide +kernel
theorem dX3_takeBack_41 : decode prog_5_method_4_code 41 = .ok (.return_, 1) := by decide +kernel
theorem dX3_takeBack_42 : decode prog_5_method_4_code 42 = .ok (.aload_n 1, 1) := by decide +kernel
theorem dX3_takeBack_43 : decode prog_5_method_4_code 43 = .ok (.aload_n 3, 1) := by decide +kernel
theorem dX3_takeBack_44 : decode prog_5_method_4_code 44 = .ok (.invokevirtual 27, 3) := by decide +kernel
theorem dX3_takeBack_47 : decode prog_5_method_4_code 47 = .ok (.aload_n 0, 1) := by decide +kernel
theorem dX3_takeBack_48 : decode prog_5_method_4_code 48 = .ok (.iload_n 2, 1) := by decide +kernel
theorem dX3_takeBack_49 : decode prog_5_method_4_code 49 = .ok (.putfield 7, 3) := by decide +kernel
theorem dX3_takeBack_52 : decode prog_5_method_4_code 52 = .ok (.aload_n 0, 1) := by decide +kernel
theorem dX3_takeBack_53 : decode prog_5_method_4_code 53 = .ok (.dup, 1) := by decide +kernel
theorem dX3_takeBack_54 : decode prog_5_method_4_code 54 = .ok (.getfield 13, 3) := by decide +kernel
theorem dX3_takeBack_57 : decode prog_5_method_4_code 57 = .ok (.iconst 1, 1) := by decide +kernel
theorem dX3_takeBack_58 : decode prog_5_method_4_code 58 = .ok (.isub, 1) := by decide +kernel
theorem dX3_takeBack_59 : decode prog_5_method_4_code 59 = .ok (.putfield 13, 3) := by decide +kernel
theorem dX3_takeBack_62 : decode prog_5_method_4_code 62 = .ok (.return_, 1) := by decide +kernel
theorem nX3_forget : zDs yX3_forget 0 := ⟨by decide, by decide, by decide +kernel⟩
theorem dX3_forget_0 : decode prog_5_method_5_code 0 = .ok (.aload_n 0, 1) := by decide +kernel
theorem dX3_forget_1 : decode prog_5_method_5_code 1 = .ok (.iconst 0, 1) := by decide +kernel
theorem dX3_forget_2 : decode prog_5_method_5_code 2 = .ok (.putfield 13, 3) := by decide +kernel
theorem dX3_forget_5 : decode prog_5_method_5_code 5 = .ok (.return_, 1) := by decide +kernel
theorem pnX4 : plainName RX4 = true := by decide +kernel
theorem nX4_init : zDs yX4_init 0 := ⟨by decide, by decide, by decide +kernel⟩
theorem dX4_init_0 : decode prog_6_method_1_code 0 = .ok (.aload_n 0, 1) := by decide +kernel
theorem dX4_init_1 : decode prog_6_method_1_code 1 = .ok (.invokespecial 5, 3) := by decide +kernel
theorem dX4_init_4 : decode prog_6_method_1_code 4 = .ok (.aload_n 0, 1) := by decide +kernel
theorem dX4_init_5 : decode prog_6_method_1_code 5 = .ok (.bipush 72, 2) := by decide +kernel
theorem dX4_init_7 : decode prog_6_method_1_code 7 = .ok (.newarray .int, 2) := by decide +kernel
theorem dX4_init_9 : decode prog_6_method_1_code 9 = .ok (.putfield 13, 3) := by decide +kernel
theorem dX4_init_12 : decode prog_6_method_1_code 12 = .ok (.aload_n 0, 1) := by decide +kernel
theorem dX4_init_13 : decode prog_6_method_1_code 13 = .ok (.bipush 72, 2) := by decide +kernel
theorem dX4_init_15 : decode prog_6_method_1_code 15 = .ok (.newarray .int, 2) := by decide +kernel
theorem dX4_init_17 : decode prog_6_method_1_code 17 = .ok (.putfield 17, 3) := by decide +kernel
theorem dX4_init_20 : decode prog_6_method_1_code 20 = .ok (.aload_n 0, 1) := by decide +kernel
theorem dX4_init_21 : decode prog_6_method_1_code 21 = .ok (.bipush 72, 2) := by decide +kernel
theorem dX4_init_23 : decode prog_6_method_1_code 23 = .ok (.newarray .int, 2) := by decide +kernel
theorem dX4_init_25 : decode prog_6_method_1_code 25 = .ok (.putfield 20, 3) := by decide +kernel
theorem dX4_init_28 : decode prog_6_method_1_code 28 = .ok (.aload_n 0, 1) := by decide +kernel
theorem dX4_init_29 : decode prog_6_method_1_code 29 = .ok (.iconst 0, 1) := by decide +kernel
theorem dX4_init_30 : decode prog_6_method_1_code 30 = .ok (.putfield 23, 3) := by decide +kernel
theorem dX4_init_33 : decode prog_6_method_1_code 33 = .ok (.aload_n 0, 1) := by decide +kernel
theorem dX4_init_34 : decode prog_6_method_1_code 34 = .ok (.iconst 0, 1) := by decide +kernel
theorem dX4_init_35 : decode prog_6_method_1_code 35 = .ok (.putfield 27, 3) := by decide +kernel
theorem dX4_init_38 : decode prog_6_method_1_code 38 = .ok (.aload_n 0, 1) := by decide +kernel
theorem dX4_init_39 : decode prog_6_method_1_code 39 = .ok (.iconst 0, 1) := by decide +kernel
theorem dX4_init_40 : decode prog_6_method_1_code 40 = .ok (.putfield 30, 3) := by decide +kernel
theorem dX4_init_43 : decode prog_6_method_1_code 43 = .ok (.return_, 1) := by decide +kernel
theorem nX4_copyFrom : zDs yX4_copyFrom 1 := ⟨by decide, by decide, by decide +kernel⟩
theorem dX4_copyFrom_0 : decode prog_6_method_2_code 0 = .ok (.aload_n 1, 1) := by decide +kernel
theorem dX4_copyFrom_1 : decode prog_6_method_2_code 1 = .ok (.getfield 13, 3) := by decide +kernel
theorem dX4_copyFrom_4 : decode prog_6_method_2_code 4 = .ok (.aload_n 0, 1) := by decide +kernel
theorem dX4_copyFrom_5 : decode prog_6_method_2_code 5 = .ok (.getfield 13, 3) := by decide +kernel
theorem dX4_copyFrom_8 : decode prog_6_method_2_code 8 = .ok (.invokestatic 33, 3) := by decide +kernel
theorem dX4_copyFrom_11 : decode prog_6_method_2_code 11 = .ok (.aload_n 1, 1) := by decide +kernel
theorem dX4_copyFrom_12 : decode prog_6_method_2_code 12 = .ok (.getfield 17, 3) := by decide +kernel
theorem dX4_copyFrom_15 : decode prog_6_method_2_code 15 = .ok (.aload_n 0, 1) := by decide +kernel
theorem dX4_copyFrom_16 : decode prog_6_method_2_code 16 = .ok (.getfield 17, 3) := by decide +kernel
theorem dX4_copyFrom_19 : decode prog_6_method_2_code 19 = .ok (.invokestatic 33, 3) := by decide +kernel
theorem dX4_copyFrom_22 : decode prog_6_method_2_code 22 = .ok (.aload_n 1, 1) := by decide +kernel
theorem dX4_copyFrom_23 : decode prog_6_method_2_code 23 = .ok (.getfield 20, 3) := by decide +kernel
theorem dX4_copyFrom_26 : decode prog_6_method_2_code 26 = .ok (.aload_n 0, 1) := by decide +kernel
theorem dX4_copyFrom_27 : decode prog_6_method_2_code 27 = .ok (.getfield 20, 3) := by decide +kernel
theorem dX4_copyFrom_30 : decode prog_6_method_2_code 30 = .ok (.invokestatic 33, 3) := by decide +kernel
theorem dX4_copyFrom_33 : decode prog_6_method_2_code 33 = .ok (.aload_n 0, 1) := by decide +kernel
theorem dX4_copyFrom_34 : decode prog_6_method_2_code 34 = .ok (.aload_n 1, 1) := by decide +kernel
theorem dX4_copyFrom_35 : decode prog_6_method_2_code 35 = .ok (.getfield 23, 3) := by decide +kernel
theorem dX4_copyFrom_38 : decode prog_6_method_2_code 38 = .ok (.putfield 23, 3) := by decide +kernel
theorem dX4_copyFrom_41 : decode prog_6_method_2_code 41 = .ok (.aload_n 0, 1) := by decide +kernel
theorem dX4_copyFrom_42 : decode prog_6_method_2_code 42 = .ok (.aload_n 1, 1) := by decide +kernel
theorem dX4_copyFrom_43 : decode prog_6_method_2_code 43 = .ok (.getfield 27, 3) := by decide +kernel
theorem dX4_copyFrom_46 : decode prog_6_method_2_code 46 = .ok (.putfield 27, 3) := by decide +kernel
theorem dX4_copyFrom_49 : decode prog_6_method_2_code 49 = .ok (.aload_n 0, 1) := by decide +kernel
theorem dX4_copyFrom_50 : decode prog_6_method_2_code 50 = .ok (.aload_n 1, 1) := by decide +kernel
theorem dX4_copyFrom_51 : decode prog_6_method_2_code 51 = .ok (.getfield 30, 3) := by decide +kernel
theorem dX4_copyFrom_54 : decode prog_6_method_2_code 54 = .ok (.putfield 30, 3) := by decide +kernel
theorem dX4_copyFrom_57 : decode prog_6_method_2_code 57 = .ok (.return_, 1) := by decide +kernel
theorem nX4_cell : zDs yX4_cell 2 := ⟨by decide, by decide, by decide +kernel⟩
theorem dX4_cell_0 : decode prog_6_method_3_code 0 = .ok (.iload_n 0, 1) := by decide +kernel
theorem dX4_cell_1 : decode prog_6_method_3_code 1 = .ok (.bipush 12, 2) := by decide +kernel
theorem dX4_cell_3 : decode prog_6_method_3_code 3 = .ok (.imul, 1) := by decide +kernel
theorem dX4_cell_4 : decode prog_6_method_3_code 4 = .ok (.iload_n 1, 1) := by decide +kernel
theorem dX4_cell_5 : decode prog_6_method_3_code 5 = .ok (.iadd, 1) := by decide +kernel
theorem dX4_cell_6 : decode prog_6_method_3_code 6 = .ok (.ireturn, 1) := by decide +kernel
theorem nX4_has : zDs yX4_has 2 := ⟨by decide, by decide, by decide +kernel⟩
theorem dX4_has_0 : decode prog_6_method_4_code 0 = .ok (.aload_n 0, 1) := by decide +kernel
theorem dX4_has_1 : decode prog_6_method_4_code 1 = .ok (.getfield 17, 3) := by decide +kernel
theorem dX4_has_4 : decode prog_6_method_4_code 4 = .ok (.iload_n 1, 1) := by decide +kernel
theorem dX4_has_5 : decode prog_6_method_4_code 5 = .ok (.iload_n 2, 1) := by decide +kernel
theorem dX4_has_6 : decode prog_6_method_4_code 6 = .ok (.invokestatic 39, 3) := by decide +kernel
theorem dX4_has_9 : decode prog_6_method_4_code 9 = .ok (.invokestatic 43, 3) := by decide +kernel
theorem dX4_has_12 : decode prog_6_method_4_code 12 = .ok (.ifCond .le 7, 3) := by decide +kernel
theorem dX4_has_15 : decode prog_6_method_4_code 15 = .ok (.iconst 1, 1) := by decide +kernel
theorem dX4_has_16 : decode prog_6_method_4_code 16 = .ok (.goto 4, 3) := by decide +kernel
theorem dX4_has_19 : decode prog_6_method_4_code 19 = .ok (.iconst 0, 1) := by decide +kernel
theorem dX4_has_20 : decode prog_6_method_4_code 20 = .ok (.ireturn, 1) := by decide +kernel
theorem nX4_heightAt : zDs yX4_heightAt 2 := ⟨by decide, by decide, by decide +kernel⟩
theorem dX4_heightAt_0 : decode prog_6_method_5_code 0 = .ok (.aload_n 0, 1) := by decide +kernel
theorem dX4_heightAt_1 : decode prog_6_method_5_code 1 = .ok (.getfield 13, 3) := by decide +kernel
theorem dX4_heightAt_4 : decode prog_6_method_5_code 4 = .ok (.iload_n 1, 1) := by decide +kernel
theorem dX4_heightAt_5 : decode prog_6_method_5_code 5 = .ok (.iload_n 2, 1) := by decide +kernel
theorem dX4_heightAt_6 : decode prog_6_method_5_code 6 = .ok (.invokestatic 39, 3) := by decide +kernel
theorem dX4_heightAt_9 : decode prog_6_method_5_code 9 = .ok (.invokestatic 43, 3) := by decide +kernel
theorem dX4_heightAt_12 : decode prog_6_method_5_code 12 = .ok (.ireturn, 1) := by decide +kernel
theorem nX4_depthAt : zDs yX4_depthAt 2 := ⟨by decide, by decide, by decide +kernel⟩
theorem dX4_depthAt_0 : decode prog_6_method_6_code 0 = .ok (.aload_n 0, 1) := by decide +kernel
theorem dX4_depthAt_1 : decode prog_6_method_6_code 1 = .ok (.getfield 17, 3) := by decide +kernel
theorem dX4_depthAt_4 : decode prog_6_method_6_code 4 = .ok (.iload_n 1, 1) := by decide +kernel
theorem dX4_depthAt_5 : decode prog_6_method_6_code 5 = .ok (.iload_n 2, 1) := by decide +kernel
theorem dX4_depthAt_6 : decode prog_6_method_6_code 6 = .ok (.invokestatic 39, 3) := by decide +kernel
theorem dX4_depthAt_9 : decode prog_6_method_6_code 9 = .ok (.invokestatic 43, 3) := by decide +kernel
theorem dX4_depthAt_12 : decode prog_6_method_6_code 12 = .ok (.ireturn, 1) := by decide +kernel
theorem nX4_cutYearAt : zDs yX4_cutYearAt 2 := ⟨by decide, by decide, by decide +kernel⟩
theorem dX4_cutYearAt_0 : decode prog_6_method_7_code 0 = .ok (.aload_n 0, 1) := by decide +kernel
theorem dX4_cutYearAt_1 : decode prog_6_method_7_code 1 = .ok (.getfield 20, 3) := by decide +kernel
theorem dX4_cutYearAt_4 : decode prog_6_method_7_code 4 = .ok (.iload_n 1, 1) := by decide +kernel
theorem dX4_cutYearAt_5 : decode prog_6_method_7_code 5 = .ok (.iload_n 2, 1) := by decide +kernel
theorem dX4_cutYearAt_6 : decode prog_6_method_7_code 6 = .ok (.invokestatic 39, 3) := by decide +kernel
theorem dX4_cutYearAt_9 : decode prog_6_method_7_code 9 = .ok (.invokestatic 43, 3) := by decide +kernel
theorem dX4_cutYearAt_12 : decode prog_6_method_7_code 12 = .ok (.ireturn, 1) := by decide +kernel
theorem nX4_add : zDs yX4_add 4 := ⟨by decide, by decide, by decide +kernel⟩
theorem dX4_add_0 : decode prog_6_method_8_code 0 = .ok (.aload_n 0, 1) := by decide +kernel
theorem dX4_add_1 : decode prog_6_method_8_code 1 = .ok (.getfield 13, 3) := by decide +kernel
theorem dX4_add_4 : decode prog_6_method_8_code 4 = .ok (.iload_n 1, 1) := by decide +kernel
theorem dX4_add_5 : decode prog_6_method_8_code 5 = .ok (.iload_n 2, 1) := by decide +kernel
theorem dX4_add_6 : decode prog_6_method_8_code 6 = .ok (.invokestatic 47, 3) := by decide +kernel
theorem dX4_add_9 : decode prog_6_method_8_code 9 = .ok (.aload_n 0, 1) := by decide +kernel
theorem dX4_add_10 : decode prog_6_method_8_code 10 = .ok (.getfield 17, 3) := by decide +kernel
theorem dX4_add_13 : decode prog_6_method_8_code 13 = .ok (.iload_n 1, 1) := by decide +kernel
theorem dX4_add_14 : decode prog_6_method_8_code 14 = .ok (.iload_n 3, 1) := by decide +kernel
theorem dX4_add_15 : decode prog_6_method_8_code 15 = .ok (.invokestatic 47, 3) := by decide +kernel
theorem dX4_add_18 : decode prog_6_method_8_code 18 = .ok (.aload_n 0, 1) := by decide +kernel
theorem dX4_add_19 : decode prog_6_method_8_code 19 = .ok (.getfield 20, 3) := by decide +kernel
theorem dX4_add_22 : decode prog_6_method_8_code 22 = .ok (.iload_n 1, 1) := by decide +kernel
theorem dX4_add_23 : decode prog_6_method_8_code 23 = .ok (.iload 4, 2) := by decide +kernel
theorem dX4_add_25 : decode prog_6_method_8_code 25 = .ok (.invokestatic 47, 3) := by decide +kernel
theorem dX4_add_28 : decode prog_6_method_8_code 28 = .ok (.aload_n 0, 1) := by decide +kernel
theorem dX4_add_29 : decode prog_6_method_8_code 29 = .ok (.dup, 1) := by decide +kernel
theorem dX4_add_30 : decode prog_6_method_8_code 30 = .ok (.getfield 23, 3) := by decide +kernel
theorem dX4_add_33 : decode prog_6_method_8_code 33 = .ok (.iconst 1, 1) := by decide +kernel
theorem dX4_add_34 : decode prog_6_method_8_code 34 = .ok (.iadd, 1) := by decide +kernel
theorem dX4_add_35 : decode prog_6_method_8_code 35 = .ok (.putfield 23, 3) := by decide +kernel
theorem dX4_add_38 : decode prog_6_method_8_code 38 = .ok (.return_, 1) := by decide +kernel
theorem nX4_takeOff : zDs yX4_takeOff 2 := ⟨by decide, by decide, by decide +kernel⟩
theorem dX4_takeOff_0 : decode prog_6_method_9_code 0 = .ok (.aload_n 0, 1) := by decide +kernel
theorem dX4_takeOff_1 : decode prog_6_method_9_code 1 = .ok (.getfield 17, 3) := by decide +kernel
theorem dX4_takeOff_4 : decode prog_6_method_9_code 4 = .ok (.iload_n 1, 1) := by decide +kernel
theorem dX4_takeOff_5 : decode prog_6_method_9_code 5 = .ok (.iload_n 2, 1) := by decide +kernel
theorem dX4_takeOff_6 : decode prog_6_method_9_code 6 = .ok (.invokestatic 39, 3) := by decide +kernel
theorem dX4_takeOff_9 : decode prog_6_method_9_code 9 = .ok (.iconst 0, 1) := by decide +kernel
theorem dX4_takeOff_10 : decode prog_6_method_9_code 10 = .ok (.invokestatic 47, 3) := by decide +kernel
theorem dX4_takeOff_13 : decode prog_6_method_9_code 13 = .ok (.aload_n 0, 1) := by decide +kernel
theorem dX4_takeOff_14 : decode prog_6_method_9_code 14 = .ok (.dup, 1) := by decide +kernel
theorem dX4_takeOff_15 : decode prog_6_method_9_code 15 = .ok (.getfield 27, 3) := by decide +kernel
theorem dX4_takeOff_18 : decode prog_6_method_9_code 18 = .ok (.iconst 1, 1) := by decide +kernel
theorem dX4_takeOff_19 : decode prog_6_method_9_code 19 = .ok (.iadd, 1) := by decide +kernel
theorem dX4_takeOff_20 : decode prog_6_method_9_code 20 = .ok (.putfield 27, 3) := by decide +kernel
theorem dX4_takeOff_23 : decode prog_6_method_9_code 23 = .ok (.aload_n 0, 1) := by decide +kernel
theorem dX4_takeOff_24 : decode prog_6_method_9_code 24 = .ok (.iload_n 1, 1) := by decide +kernel
theorem dX4_takeOff_25 : decode prog_6_method_9_code 25 = .ok (.iload_n 2, 1) := by decide +kernel
theorem dX4_takeOff_26 : decode prog_6_method_9_code 26 = .ok (.invokevirtual 51, 3) := by decide +kernel
theorem dX4_takeOff_29 : decode prog_6_method_9_code 29 = .ok (.ireturn, 1) := by decide +kernel
theorem nX4_weatherAll : zDs yX4_weatherAll 0 := ⟨by decide, by decide, by decide +kernel⟩
theorem dX4_weatherAll_0 : decode prog_6_method_10_code 0 = .ok (.iconst 0, 1) := by decide +kernel
theorem dX4_weatherAll_1 : decode prog_6_method_10_code 1 = .ok (.istore_n 1, 1) := by decide +kernel
theorem dX4_weatherAll_2 : decode prog_6_method_10_code 2 = .ok (.iconst 0, 1) := by decide +kernel
theorem dX4_weatherAll_3 : decode prog_6_method_10_code 3 = .ok (.istore_n 2, 1) := by decide +kernel
theorem dX4_weatherAll_4 : decode prog_6_method_10_code 4 = .ok (.iload_n 2, 1) := by decide +kernel
theorem dX4_weatherAll_5 : decode prog_6_method_10_code 5 = .ok (.bipush 72, 2) := by decide +kernel
theorem dX4_weatherAll_7 : decode prog_6_method_10_code 7 = .ok (.if_icmp .ge 46, 3) := by decide +kernel
theorem dX4_weatherAll_10 : decode prog_6_method_10_code 10 = .ok (.aload_n 0, 1) := by decide +kernel
theorem dX4_weatherAll_11 : decode prog_6_method_10_code 11 = .ok (.getfield 17, 3) := by decide +kernel
theorem dX4_weatherAll_14 : decode prog_6_method_10_code 14 = .ok (.iload_n 2, 1) := by decide +kernel
theorem dX4_weatherAll_15 : decode prog_6_method_10_code 15 = .ok (.invokestatic 43, 3) := by decide +kernel
theorem dX4_weatherAll_18 : decode prog_6_method_10_code 18 = .ok (.istore_n 3, 1) := by decide +kernel
theorem dX4_weatherAll_19 : decode prog_6_method_10_code 19 = .ok (.iload_n 3, 1) := by decide +kernel
theorem dX4_weatherAll_20 : decode prog_6_method_10_code 20 = .ok (.ifCond .le 27, 3) := by decide +kernel
theorem dX4_weatherAll_23 : decode prog_6_method_10_code 23 = .ok (.aload_n 0, 1) := by decide +kernel
theorem dX4_weatherAll_24 : decode prog_6_method_10_code 24 = .ok (.getfield 17, 3) := by decide +kernel
theorem dX4_weatherAll_27 : decode prog_6_method_10_code 27 = .ok (.iload_n 2, 1) := by decide +kernel
theorem dX4_weatherAll_28 : decode prog_6_method_10_code 28 = .ok (.iload_n 3, 1) := by decide +kernel
theorem dX4_weatherAll_29 : decode prog_6_method_10_code 29 = .ok (.iconst 1, 1) := by decide +kernel
theorem dX4_weatherAll_30 : decode prog_6_method_10_code 30 = .ok (.isub, 1) := by decide +kernel
theorem dX4_weatherAll_31 : decode prog_6_method_10_code 31 = .ok (.invokestatic 47, 3) := by decide +kernel
theorem dX4_weatherAll_34 : decode prog_6_method_10_code 34 = .ok (.iload_n 1, 1) := by decide +kernel
theorem dX4_weatherAll_35 : decode prog_6_method_10_code 35 = .ok (.iload_n 3, 1) := by decide +kernel
theorem dX4_weatherAll_36 : decode prog_6_method_10_code 36 = .ok (.iconst 1, 1) := by decide +kernel
theorem dX4_weatherAll_37 : decode prog_6_method_10_code 37 = .ok (.if_icmp .ne 7, 3) := by decide +kernel
theorem dX4_weatherAll_40 : decode prog_6_method_10_code 40 = .ok (.iconst 1, 1) := by decide +kernel
theorem dX4_weatherAll_41 : decode prog_6_method_10_code 41 = .ok (.goto 4, 3) := by decide +kernel
theorem dX4_weatherAll_44 : decode prog_6_method_10_code 44 = .ok (.iconst 0, 1) := by decide +kernel
theorem dX4_weatherAll_45 : decode prog_6_method_10_code 45 = .ok (.iadd, 1) := by decide +kernel
theorem dX4_weatherAll_46 : decode prog_6_method_10_code 46 = .ok (.istore_n 1, 1) := by decide +kernel
theorem dX4_weatherAll_47 : decode prog_6_method_10_code 47 = .ok (.iinc 2 1, 3) := by decide +kernel
theorem dX4_weatherAll_50 : decode prog_6_method_10_code 50 = .ok (.goto (-46), 3) := by decide +kernel
theorem dX4_weatherAll_53 : decode prog_6_method_10_code 53 = .ok (.aload_n 0, 1) := by decide +kernel
theorem dX4_weatherAll_54 : decode prog_6_method_10_code 54 = .ok (.dup, 1) := by decide +kernel
theorem dX4_weatherAll_55 : decode prog_6_method_10_code 55 = .ok (.getfield 30, 3) := by decide +kernel
theorem dX4_weatherAll_58 : decode prog_6_method_10_code 58 = .ok (.iload_n 1, 1) := by decide +kernel
theorem dX4_weatherAll_59 : decode prog_6_method_10_code 59 = .ok (.iadd, 1) := by decide +kernel
theorem dX4_weatherAll_60 : decode prog_6_method_10_code 60 = .ok (.putfield 30, 3) := by decide +kernel
theorem dX4_weatherAll_63 : decode prog_6_method_10_code 63 = .ok (.iload_n 1, 1) := by decide +kernel
theorem dX4_weatherAll_64 : decode prog_6_method_10_code 64 = .ok (.ireturn, 1) := by decide +kernel
theorem nX4_countOn : zDs yX4_countOn 1 := ⟨by decide, by decide, by decide +kernel⟩
theorem dX4_countOn_0 : decode prog_6_method_11_code 0 = .ok (.iconst 0, 1) := by decide +kernel
theorem dX4_countOn_1 : decode prog_6_method_11_code 1 = .ok (.istore_n 2, 1) := by decide +kernel
theorem dX4_countOn_2 : decode prog_6_method_11_code 2 = .ok (.iconst 0, 1) := by decide +kernel
theorem dX4_countOn_3 : decode prog_6_method_11_code 3 = .ok (.istore_n 3, 1) := by decide +kernel
theorem dX4_countOn_4 : decode prog_6_method_11_code 4 = .ok (.iload_n 3, 1) := by decide +kernel
theorem dX4_countOn_5 : decode prog_6_method_11_code 5 = .ok (.bipush 12, 2) := by decide +kernel
theorem dX4_countOn_7 : decode prog_6_method_11_code 7 = .ok (.if_icmp .ge 26, 3) := by decide +kernel
theorem dX4_countOn_10 : decode prog_6_method_11_code 10 = .ok (.iload_n 2, 1) := by decide +kernel
theorem dX4_countOn_11 : decode prog_6_method_11_code 11 = .ok (.aload_n 0, 1) := by decide +kernel
theorem dX4_countOn_12 : decode prog_6_method_11_code 12 = .ok (.iload_n 1, 1) := by decide +kernel
theorem dX4_countOn_13 : decode prog_6_method_11_code 13 = .ok (.iload_n 3, 1) := by decide +kernel
theorem dX4_countOn_14 : decode prog_6_method_11_code 14 = .ok (.invokevirtual 54, 3) := by decide +kernel
theorem dX4_countOn_17 : decode prog_6_method_11_code 17 = .ok (.ifCond .eq 7, 3) := by decide +kernel
theorem dX4_countOn_20 : decode prog_6_method_11_code 20 = .ok (.iconst 1, 1) := by decide +kernel
theorem dX4_countOn_21 : decode prog_6_method_11_code 21 = .ok (.goto 4, 3) := by decide +kernel
theorem dX4_countOn_24 : decode prog_6_method_11_code 24 = .ok (.iconst 0, 1) := by decide +kernel
theorem dX4_countOn_25 : decode prog_6_method_11_code 25 = .ok (.iadd, 1) := by decide +kernel
theorem dX4_countOn_26 : decode prog_6_method_11_code 26 = .ok (.istore_n 2, 1) := by decide +kernel
theorem dX4_countOn_27 : decode prog_6_method_11_code 27 = .ok (.iinc 3 1, 3) := by decide +kernel
theorem dX4_countOn_30 : decode prog_6_method_11_code 30 = .ok (.goto (-26), 3) := by decide +kernel
theorem dX4_countOn_33 : decode prog_6_method_11_code 33 = .ok (.iload_n 2, 1) := by decide +kernel
theorem dX4_countOn_34 : decode prog_6_method_11_code 34 = .ok (.ireturn, 1) := by decide +kernel
theorem nX4_countFor : zDs yX4_countFor 1 := ⟨by decide, by decide, by decide +kernel⟩
theorem dX4_countFor_0 : decode prog_6_method_12_code 0 = .ok (.iconst 0, 1) := by decide +kernel
theorem dX4_countFor_1 : decode prog_6_method_12_code 1 = .ok (.istore_n 2, 1) := by decide +kernel
theorem dX4_countFor_2 : decode prog_6_method_12_code 2 = .ok (.iconst 0, 1) := by decide +kernel
theorem dX4_countFor_3 : decode prog_6_method_12_code 3 = .ok (.istore_n 3, 1) := by decide +kernel
theorem dX4_countFor_4 : decode prog_6_method_12_code 4 = .ok (.iload_n 3, 1) := by decide +kernel
theorem dX4_countFor_5 : decode prog_6_method_12_code 5 = .ok (.bipush 6, 2) := by decide +kernel
theorem dX4_countFor_7 : decode prog_6_method_12_code 7 = .ok (.if_icmp .ge 26, 3) := by decide +kernel
theorem dX4_countFor_10 : decode prog_6_method_12_code 10 = .ok (.iload_n 2, 1) := by decide +kernel
theorem dX4_countFor_11 : decode prog_6_method_12_code 11 = .ok (.aload_n 0, 1) := by decide +kernel
theorem dX4_countFor_12 : decode prog_6_method_12_code 12 = .ok (.iload_n 3, 1) := by decide +kernel
theorem dX4_countFor_13 : decode prog_6_method_12_code 13 = .ok (.iload_n 1, 1) := by decide +kernel
theorem dX4_countFor_14 : decode prog_6_method_12_code 14 = .ok (.invokevirtual 54, 3) := by decide +kernel
theorem dX4_countFor_17 : decode prog_6_method_12_code 17 = .ok (.ifCond .eq 7, 3) := by decide +kernel
theorem dX4_countFor_20 : decode prog_6_method_12_code 20 = .ok (.iconst 1, 1) := by decide +kernel
theorem dX4_countFor_21 : decode prog_6_method_12_code 21 = .ok (.goto 4, 3) := by decide +kernel
theorem dX4_countFor_24 : decode prog_6_method_12_code 24 = .ok (.iconst 0, 1) := by decide +kernel
theorem dX4_countFor_25 : decode prog_6_method_12_code 25 = .ok (.iadd, 1) := by decide +kernel
theorem dX4_countFor_26 : decode prog_6_method_12_code 26 = .ok (.istore_n 2, 1) := by decide +kernel
theorem dX4_countFor_27 : decode prog_6_method_12_code 27 = .ok (.iinc 3 1, 3) := by decide +kernel
theorem dX4_countFor_30 : decode prog_6_method_12_code 30 = .ok (.goto (-26), 3) := by decide +kernel
theorem dX4_countFor_33 : decode prog_6_method_12_code 33 = .ok (.iload_n 2, 1) := by decide +kernel
theorem dX4_countFor_34 : decode prog_6_method_12_code 34 = .ok (.ireturn, 1) := by decide +kernel
theorem nX4_countAll : zDs yX4_countAll 0 := ⟨by decide, by decide, by decide +kernel⟩
theorem dX4_countAll_0 : decode prog_6_method_13_code 0 = .ok (.iconst 0, 1) := by decide +kernel
theorem dX4_countAll_1 : decode prog_6_method_13_code 1 = .ok (.istore_n 1, 1) := by decide +kernel
theorem dX4_countAll_2 : decode prog_6_method_13_code 2 = .ok (.iconst 0, 1) := by decide +kernel
theorem dX4_countAll_3 : decode prog_6_method_13_code 3 = .ok (.istore_n 2, 1) := by decide +kernel
theorem dX4_countAll_4 : decode prog_6_method_13_code 4 = .ok (.iload_n 2, 1) := by decide +kernel
theorem dX4_countAll_5 : decode prog_6_method_13_code 5 = .ok (.bipush 6, 2) := by decide +kernel
theorem dX4_countAll_7 : decode prog_6_method_13_code 7 = .ok (.if_icmp .ge 17, 3) := by decide +kernel
theorem dX4_countAll_10 : decode prog_6_method_13_code 10 = .ok (.iload_n 1, 1) := by decide +kernel
theorem dX4_countAll_11 : decode prog_6_method_13_code 11 = .ok (.aload_n 0, 1) := by decide +kernel
theorem dX4_countAll_12 : decode prog_6_method_13_code 12 = .ok (.iload_n 2, 1) := by decide +kernel
theorem dX4_countAll_13 : decode prog_6_method_13_code 13 = .ok (.invokevirtual 58, 3) := by decide +kernel
theorem dX4_countAll_16 : decode prog_6_method_13_code 16 = .ok (.iadd, 1) := by decide +kernel
theorem dX4_countAll_17 : decode prog_6_method_13_code 17 = .ok (.istore_n 1, 1) := by decide +kernel
theorem dX4_countAll_18 : decode prog_6_method_13_code 18 = .ok (.iinc 2 1, 3) := by decide +kernel
theorem dX4_countAll_21 : decode prog_6_method_13_code 21 = .ok (.goto (-17), 3) := by decide +kernel
theorem dX4_countAll_24 : decode prog_6_method_13_code 24 = .ok (.iload_n 1, 1) := by decide +kernel
theorem dX4_countAll_25 : decode prog_6_method_13_code 25 = .ok (.ireturn, 1) := by decide +kernel
theorem nX4_floodAtHeight : zDs yX4_floodAtHeight 2 := ⟨by decide, by decide, by decide +kernel⟩
theorem dX4_floodAtHeight_0 : decode prog_6_method_14_code 0 = .ok (.iconst 0, 1) := by decide +kernel
theorem dX4_floodAtHeight_1 : decode prog_6_method_14_code 1 = .ok (.istore_n 3, 1) := by decide +kernel
theorem dX4_floodAtHeight_2 : decode prog_6_method_14_code 2 = .ok (.iload_n 3, 1) := by decide +kernel
theorem dX4_floodAtHeight_3 : decode prog_6_method_14_code 3 = .ok (.bipush 12, 2) := by decide +kernel
theorem dX4_floodAtHeight_5 : decode prog_6_method_14_code 5 = .ok (.if_icmp .ge 30, 3) := by decide +kernel
theorem dX4_floodAtHeight_8 : decode prog_6_method_14_code 8 = .ok (.aload_n 0, 1) := by decide +kernel
theorem dX4_floodAtHeight_9 : decode prog_6_method_14_code 9 = .ok (.iload_n 1, 1) := by decide +kernel
theorem dX4_floodAtHeight_10 : decode prog_6_method_14_code 10 = .ok (.iload_n 3, 1) := by decide +kernel
theorem dX4_floodAtHeight_11 : decode prog_6_method_14_code 11 = .ok (.invokevirtual 54, 3) := by decide +kernel
theorem dX4_floodAtHeight_14 : decode prog_6_method_14_code 14 = .ok (.ifCond .eq 15, 3) := by decide +kernel
theorem dX4_floodAtHeight_17 : decode prog_6_method_14_code 17 = .ok (.aload_n 0, 1) := by decide +kernel
theorem dX4_floodAtHeight_18 : decode prog_6_method_14_code 18 = .ok (.iload_n 1, 1) := by decide +kernel
theorem dX4_floodAtHeight_19 : decode prog_6_method_14_code 19 = .ok (.iload_n 3, 1) := by decide +kernel
theorem dX4_floodAtHeight_20 : decode prog_6_method_14_code 20 = .ok (.invokevirtual 51, 3) := by decide +kernel
theorem dX4_floodAtHeight_23 : decode prog_6_method_14_code 23 = .ok (.iload_n 2, 1) := by decide +kernel
theorem dX4_floodAtHeight_24 : decode prog_6_method_14_code 24 = .ok (.if_icmp .ne 5, 3) := by decide +kernel
theorem dX4_floodAtHeight_27 : decode prog_6_method_14_code 27 = .ok (.iload_n 3, 1) := by decide +kernel
theorem dX4_floodAtHeight_28 : decode prog_6_method_14_code 28 = .ok (.ireturn, 1) := by decide +kernel
theorem dX4_floodAtHeight_29 : decode prog_6_method_14_code 29 = .ok (.iinc 3 1, 3) := by decide +kernel
theorem dX4_floodAtHeight_32 : decode prog_6_method_14_code 32 = .ok (.goto (-30), 3) := by decide +kernel
theorem dX4_floodAtHeight_35 : decode prog_6_method_14_code 35 = .ok (.iconst (-1), 1) := by decide +kernel
theorem dX4_floodAtHeight_36 : decode prog_6_method_14_code 36 = .ok (.ireturn, 1) := by decide +kernel
theorem nX4_floodAtPlace : zDs yX4_floodAtPlace 2 := ⟨by decide, by decide, by decide +kernel⟩
theorem dX4_floodAtPlace_0 : decode prog_6_method_15_code 0 = .ok (.iconst 0, 1) := by decide +kernel
theorem dX4_floodAtPlace_1 : decode prog_6_method_15_code 1 = .ok (.istore_n 3, 1) := by decide +kernel
theorem dX4_floodAtPlace_2 : decode prog_6_method_15_code 2 = .ok (.iload_n 3, 1) := by decide +kernel
theorem dX4_floodAtPlace_3 : decode prog_6_method_15_code 3 = .ok (.bipush 12, 2) := by decide +kernel
theorem dX4_floodAtPlace_5 : decode prog_6_method_15_code 5 = .ok (.if_icmp .ge 35, 3) := by decide +kernel
theorem dX4_floodAtPlace_8 : decode prog_6_method_15_code 8 = .ok (.aload_n 0, 1) := by decide +kernel
theorem dX4_floodAtPlace_9 : decode prog_6_method_15_code 9 = .ok (.iload_n 1, 1) := by decide +kernel
theorem dX4_floodAtPlace_10 : decode prog_6_method_15_code 10 = .ok (.iload_n 3, 1) := by decide +kernel
theorem dX4_floodAtPlace_11 : decode prog_6_method_15_code 11 = .ok (.invokevirtual 54, 3) := by decide +kernel
theorem dX4_floodAtPlace_14 : decode prog_6_method_15_code 14 = .ok (.ifCond .eq 20, 3) := by decide +kernel
theorem dX4_floodAtPlace_17 : decode prog_6_method_15_code 17 = .ok (.aload_n 0, 1) := by decide +kernel
theorem dX4_floodAtPlace_18 : decode prog_6_method_15_code 18 = .ok (.iload_n 1, 1) := by decide +kernel
theorem dX4_floodAtPlace_19 : decode prog_6_method_15_code 19 = .ok (.aload_n 0, 1) := by decide +kernel
theorem dX4_floodAtPlace_20 : decode prog_6_method_15_code 20 = .ok (.iload_n 1, 1) := by decide +kernel
theorem dX4_floodAtPlace_21 : decode prog_6_method_15_code 21 = .ok (.iload_n 3, 1) := by decide +kernel
theorem dX4_floodAtPlace_22 : decode prog_6_method_15_code 22 = .ok (.invokevirtual 51, 3) := by decide +kernel
theorem dX4_floodAtPlace_25 : decode prog_6_method_15_code 25 = .ok (.invokevirtual 62, 3) := by decide +kernel
theorem dX4_floodAtPlace_28 : decode prog_6_method_15_code 28 = .ok (.iload_n 2, 1) := by decide +kernel
theorem dX4_floodAtPlace_29 : decode prog_6_method_15_code 29 = .ok (.if_icmp .ne 5, 3) := by decide +kernel
theorem dX4_floodAtPlace_32 : decode prog_6_method_15_code 32 = .ok (.iload_n 3, 1) := by decide +kernel
theorem dX4_floodAtPlace_33 : decode prog_6_method_15_code 33 = .ok (.ireturn, 1) := by decide +kernel
theorem dX4_floodAtPlace_34 : decode prog_6_method_15_code 34 = .ok (.iinc 3 1, 3) := by decide +kernel
theorem dX4_floodAtPlace_37 : decode prog_6_method_15_code 37 = .ok (.goto (-35), 3) := by decide +kernel
theorem dX4_floodAtPlace_40 : decode prog_6_method_15_code 40 = .ok (.iconst (-1), 1) := by decide +kernel
theorem dX4_floodAtPlace_41 : decode prog_6_method_15_code 41 = .ok (.ireturn, 1) := by decide +kernel
theorem nX4_countLower : zDs yX4_countLower 2 := ⟨by decide, by decide, by decide +kernel⟩
theorem dX4_countLower_0 : decode prog_6_method_16_code 0 = .ok (.iconst 0, 1) := by decide +kernel
theorem dX4_countLower_1 : decode prog_6_method_16_code 1 = .ok (.istore_n 3, 1) := by decide +kernel
theorem dX4_countLower_2 : decode prog_6_method_16_code 2 = .ok (.iconst 0, 1) := by decide +kernel
theorem dX4_countLower_3 : decode prog_6_method_16_code 3 = .ok (.istore 4, 2) := by decide +kernel
theorem dX4_countLower_5 : decode prog_6_method_16_code 5 = .ok (.iload 4, 2) := by decide +kernel
theorem dX4_countLower_7 : decode prog_6_method_16_code 7 = .ok (.bipush 12, 2) := by decide +kernel
theorem dX4_countLower_9 : decode prog_6_method_16_code 9 = .ok (.if_icmp .ge 38, 3) := by decide +kernel
theorem dX4_countLower_12 : decode prog_6_method_16_code 12 = .ok (.iload_n 3, 1) := by decide +kernel
theorem dX4_countLower_13 : decode prog_6_method_16_code 13 = .ok (.aload_n 0, 1) := by decide +kernel
theorem dX4_countLower_14 : decode prog_6_method_16_code 14 = .ok (.iload_n 1, 1) := by decide +kernel
theorem dX4_countLower_15 : decode prog_6_method_16_code 15 = .ok (.iload 4, 2) := by decide +kernel
theorem dX4_countLower_17 : decode prog_6_method_16_code 17 = .ok (.invokevirtual 54, 3) := by decide +kernel
theorem dX4_countLower_20 : decode prog_6_method_16_code 20 = .ok (.ifCond .eq 18, 3) := by decide +kernel
theorem dX4_countLower_23 : decode prog_6_method_16_code 23 = .ok (.aload_n 0, 1) := by decide +kernel
theorem dX4_countLower_24 : decode prog_6_method_16_code 24 = .ok (.iload_n 1, 1) := by decide +kernel
theorem dX4_countLower_25 : decode prog_6_method_16_code 25 = .ok (.iload 4, 2) := by decide +kernel
theorem dX4_countLower_27 : decode prog_6_method_16_code 27 = .ok (.invokevirtual 51, 3) := by decide +kernel
theorem dX4_countLower_30 : decode prog_6_method_16_code 30 = .ok (.iload_n 2, 1) := by decide +kernel
theorem dX4_countLower_31 : decode prog_6_method_16_code 31 = .ok (.if_icmp .ge 7, 3) := by decide +kernel
theorem dX4_countLower_34 : decode prog_6_method_16_code 34 = .ok (.iconst 1, 1) := by decide +kernel
theorem dX4_countLower_35 : decode prog_6_method_16_code 35 = .ok (.goto 4, 3) := by decide +kernel
theorem dX4_countLower_38 : decode prog_6_method_16_code 38 = .ok (.iconst 0, 1) := by decide +kernel
theorem dX4_countLower_39 : decode prog_6_method_16_code 39 = .ok (.iadd, 1) := by decide +kernel
theorem dX4_countLower_40 : decode prog_6_method_16_code 40 = .ok (.istore_n 3, 1) := by decide +kernel
theorem dX4_countLower_41 : decode prog_6_method_16_code 41 = .ok (.iinc 4 1, 3) := by decide +kernel
theorem dX4_countLower_44 : decode prog_6_method_16_code 44 = .ok (.goto (-39), 3) := by decide +kernel
theorem dX4_countLower_47 : decode prog_6_method_16_code 47 = .ok (.iload_n 3, 1) := by decide +kernel
theorem dX4_countLower_48 : decode prog_6_method_16_code 48 = .ok (.ireturn, 1) := by decide +kernel
theorem pnX5 : plainName RX5 = true := by decide +kernel
theorem nX5_init : zDs yX5_init 0 := ⟨by decide, by decide, by decide +kernel⟩
theorem dX5_init_0 : decode prog_7_method_1_code 0 = .ok (.aload_n 0, 1) := by decide +kernel
theorem dX5_init_1 : decode prog_7_method_1_code 1 = .ok (.invokespecial 1, 3) := by decide +kernel
theorem dX5_init_4 : decode prog_7_method_1_code 4 = .ok (.aload_n 0, 1) := by decide +kernel
theorem dX5_init_5 : decode prog_7_method_1_code 5 = .ok (.iconst 0, 1) := by decide +kernel
theorem dX5_init_6 : decode prog_7_method_1_code 6 = .ok (.putfield 7, 3) := by decide +kernel
theorem dX5_init_9 : decode prog_7_method_1_code 9 = .ok (.aload_n 0, 1) := by decide +kernel
theorem dX5_init_10 : decode prog_7_method_1_code 10 = .ok (.iconst 0, 1) := by decide +kernel
theorem dX5_init_11 : decode prog_7_method_1_code 11 = .ok (.putfield 13, 3) := by decide +kernel
theorem dX5_init_14 : decode prog_7_method_1_code 14 = .ok (.aload_n 0, 1) := by decide +kernel
theorem dX5_init_15 : decode prog_7_method_1_code 15 = .ok (.iconst 0, 1) := by decide +kernel
theorem dX5_init_16 : decode prog_7_method_1_code 16 = .ok (.putfield 16, 3) := by decide +kernel
theorem dX5_init_19 : decode prog_7_method_1_code 19 = .ok (.return_, 1) := by decide +kernel
theorem nX5_give : zDs yX5_give 2 := ⟨by decide, by decide, by decide +kernel⟩
theorem dX5_give_0 : decode prog_7_method_2_code 0 = .ok (.aload_n 0, 1) := by decide +kernel
theorem dX5_give_1 : decode prog_7_method_2_code 1 = .ok (.iload_n 1, 1) := by decide +kernel
theorem dX5_give_2 : decode prog_7_method_2_code 2 = .ok (.putfield 7, 3) := by decide +kernel
theorem dX5_give_5 : decode prog_7_method_2_code 5 = .ok (.aload_n 0, 1) := by decide +kernel
theorem dX5_give_6 : decode prog_7_method_2_code 6 = .ok (.iload_n 2, 1) := by decide +kernel
theorem dX5_give_7 : decode prog_7_method_2_code 7 = .ok (.putfield 13, 3) := by decide +kernel
theorem dX5_give_10 : decode prog_7_method_2_code 10 = .ok (.aload_n 0, 1) := by decide +kernel
theorem dX5_give_11 : decode prog_7_method_2_code 11 = .ok (.iconst 0, 1) := by decide +kernel
theorem dX5_give_12 : decode prog_7_method_2_code 12 = .ok (.putfield 16, 3) := by decide +kernel
theorem dX5_give_15 : decode prog_7_method_2_code 15 = .ok (.iconst 1, 1) := by decide +kernel
theorem dX5_give_16 : decode prog_7_method_2_code 16 = .ok (.ireturn, 1) := by decide +kernel
theorem pnX6 : plainName RX6 = true := by decide +kernel
theorem nX6_init : zDs yX6_init 0 := ⟨by decide, by decide, by decide +kernel⟩
theorem dX6_init_0 : decode prog_8_method_1_code 0 = .ok (.aload_n 0, 1) := by decide +kernel
theorem dX6_init_1 : decode prog_8_method_1_code 1 = .ok (.invokespecial 1, 3) := by decide +kernel
theorem dX6_init_4 : decode prog_8_method_1_code 4 = .ok (.aload_n 0, 1) := by decide +kernel
theorem dX6_init_5 : decode prog_8_method_1_code 5 = .ok (.bipush 100, 2) := by decide +kernel
theorem dX6_init_7 : decode prog_8_method_1_code 7 = .ok (.putfield 9, 3) := by decide +kernel
theorem dX6_init_10 : decode prog_8_method_1_code 10 = .ok (.aload_n 0, 1) := by decide +kernel
theorem dX6_init_11 : decode prog_8_method_1_code 11 = .ok (.new 13, 3) := by decide +kernel
theorem dX6_init_14 : decode prog_8_method_1_code 14 = .ok (.dup, 1) := by decide +kernel
theorem dX6_init_15 : decode prog_8_method_1_code 15 = .ok (.invokespecial 15, 3) := by decide +kernel
theorem dX6_init_18 : decode prog_8_method_1_code 18 = .ok (.putfield 16, 3) := by decide +kernel
theorem dX6_init_21 : decode prog_8_method_1_code 21 = .ok (.aload_n 0, 1) := by decide +kernel
theorem dX6_init_22 : decode prog_8_method_1_code 22 = .ok (.new 20, 3) := by decide +kernel
theorem dX6_init_25 : decode prog_8_method_1_code 25 = .ok (.dup, 1) := by decide +kernel
theorem dX6_init_26 : decode prog_8_method_1_code 26 = .ok (.invokespecial 22, 3) := by decide +kernel
theorem dX6_init_29 : decode prog_8_method_1_code 29 = .ok (.putfield 23, 3) := by decide +kernel
theorem dX6_init_32 : decode prog_8_method_1_code 32 = .ok (.aload_n 0, 1) := by decide +kernel
theorem dX6_init_33 : decode prog_8_method_1_code 33 = .ok (.new 27, 3) := by decide +kernel
theorem dX6_init_36 : decode prog_8_method_1_code 36 = .ok (.dup, 1) := by decide +kernel
theorem dX6_init_37 : decode prog_8_method_1_code 37 = .ok (.invokespecial 29, 3) := by decide +kernel
theorem dX6_init_40 : decode prog_8_method_1_code 40 = .ok (.putfield 30, 3) := by decide +kernel
theorem dX6_init_43 : decode prog_8_method_1_code 43 = .ok (.aload_n 0, 1) := by decide +kernel
theorem dX6_init_44 : decode prog_8_method_1_code 44 = .ok (.new 34, 3) := by decide +kernel
theorem dX6_init_47 : decode prog_8_method_1_code 47 = .ok (.dup, 1) := by decide +kernel
theorem dX6_init_48 : decode prog_8_method_1_code 48 = .ok (.invokespecial 36, 3) := by decide +kernel
theorem dX6_init_51 : decode prog_8_method_1_code 51 = .ok (.putfield 37, 3) := by decide +kernel
theorem dX6_init_54 : decode prog_8_method_1_code 54 = .ok (.aload_n 0, 1) := by decide +kernel
theorem dX6_init_55 : decode prog_8_method_1_code 55 = .ok (.new 41, 3) := by decide +kernel
theorem dX6_init_58 : decode prog_8_method_1_code 58 = .ok (.dup, 1) := by decide +kernel
theorem dX6_init_59 : decode prog_8_method_1_code 59 = .ok (.invokespecial 43, 3) := by decide +kernel
theorem dX6_init_62 : decode prog_8_method_1_code 62 = .ok (.putfield 44, 3) := by decide +kernel
theorem dX6_init_65 : decode prog_8_method_1_code 65 = .ok (.return_, 1) := by decide +kernel
theorem nX6_copyFrom : zDs yX6_copyFrom 1 := ⟨by decide, by decide, by decide +kernel⟩
theorem dX6_copyFrom_0 : decode prog_8_method_2_code 0 = .ok (.aload_n 0, 1) := by decide +kernel
theorem dX6_copyFrom_1 : decode prog_8_method_2_code 1 = .ok (.aload_n 1, 1) := by decide +kernel
theorem dX6_copyFrom_2 : decode prog_8_method_2_code 2 = .ok (.getfield 9, 3) := by decide +kernel
theorem dX6_copyFrom_5 : decode prog_8_method_2_code 5 = .ok (.putfield 9, 3) := by decide +kernel
theorem dX6_copyFrom_8 : decode prog_8_method_2_code 8 = .ok (.aload_n 0, 1) := by decide +kernel
theorem dX6_copyFrom_9 : decode prog_8_method_2_code 9 = .ok (.getfield 16, 3) := by decide +kernel
theorem dX6_copyFrom_12 : decode prog_8_method_2_code 12 = .ok (.aload_n 1, 1) := by decide +kernel
theorem dX6_copyFrom_13 : decode prog_8_method_2_code 13 = .ok (.getfield 16, 3) := by decide +kernel
theorem dX6_copyFrom_16 : decode prog_8_method_2_code 16 = .ok (.invokevirtual 48, 3) := by decide +kernel
theorem dX6_copyFrom_19 : decode prog_8_method_2_code 19 = .ok (.aload_n 0, 1) := by decide +kernel
theorem dX6_copyFrom_20 : decode prog_8_method_2_code 20 = .ok (.getfield 23, 3) := by decide +kernel
theorem dX6_copyFrom_23 : decode prog_8_method_2_code 23 = .ok (.aload_n 1, 1) := by decide +kernel
theorem dX6_copyFrom_24 : decode prog_8_method_2_code 24 = .ok (.getfield 23, 3) := by decide +kernel
theorem dX6_copyFrom_27 : decode prog_8_method_2_code 27 = .ok (.invokevirtual 52, 3) := by decide +kernel
theorem dX6_copyFrom_30 : decode prog_8_method_2_code 30 = .ok (.aload_n 0, 1) := by decide +kernel
theorem dX6_copyFrom_31 : decode prog_8_method_2_code 31 = .ok (.getfield 30, 3) := by decide +kernel
theorem dX6_copyFrom_34 : decode prog_8_method_2_code 34 = .ok (.aload_n 1, 1) := by decide +kernel
theorem dX6_copyFrom_35 : decode prog_8_method_2_code 35 = .ok (.getfield 30, 3) := by decide +kernel
theorem dX6_copyFrom_38 : decode prog_8_method_2_code 38 = .ok (.invokevirtual 55, 3) := by decide +kernel
theorem dX6_copyFrom_41 : decode prog_8_method_2_code 41 = .ok (.aload_n 0, 1) := by decide +kernel
theorem dX6_copyFrom_42 : decode prog_8_method_2_code 42 = .ok (.getfield 37, 3) := by decide +kernel
theorem dX6_copyFrom_45 : decode prog_8_method_2_code 45 = .ok (.aload_n 1, 1) := by decide +kernel
theorem dX6_copyFrom_46 : decode prog_8_method_2_code 46 = .ok (.getfield 37, 3) := by decide +kernel
theorem dX6_copyFrom_49 : decode prog_8_method_2_code 49 = .ok (.invokevirtual 58, 3) := by decide +kernel
theorem dX6_copyFrom_52 : decode prog_8_method_2_code 52 = .ok (.aload_n 0, 1) := by decide +kernel
theorem dX6_copyFrom_53 : decode prog_8_method_2_code 53 = .ok (.getfield 44, 3) := by decide +kernel
theorem dX6_copyFrom_56 : decode prog_8_method_2_code 56 = .ok (.aload_n 1, 1) := by decide +kernel
theorem dX6_copyFrom_57 : decode prog_8_method_2_code 57 = .ok (.getfield 44, 3) := by decide +kernel
theorem dX6_copyFrom_60 : decode prog_8_method_2_code 60 = .ok (.invokevirtual 61, 3) := by decide +kernel
theorem dX6_copyFrom_63 : decode prog_8_method_2_code 63 = .ok (.return_, 1) := by decide +kernel
theorem nX6_isOutside : zDs yX6_isOutside 3 := ⟨by decide, by decide, by decide +kernel⟩
theorem dX6_isOutside_0 : decode prog_8_method_3_code 0 = .ok (.iload_n 0, 1) := by decide +kernel
theorem dX6_isOutside_1 : decode prog_8_method_3_code 1 = .ok (.iload_n 1, 1) := by decide +kernel
theorem dX6_isOutside_2 : decode prog_8_method_3_code 2 = .ok (.if_icmp .lt 8, 3) := by decide +kernel
theorem dX6_isOutside_5 : decode prog_8_method_3_code 5 = .ok (.iload_n 0, 1) := by decide +kernel
theorem dX6_isOutside_6 : decode prog_8_method_3_code 6 = .ok (.iload_n 2, 1) := by decide +kernel
theorem dX6_isOutside_7 : decode prog_8_method_3_code 7 = .ok (.if_icmp .le 7, 3) := by decide +kernel
theorem dX6_isOutside_10 : decode prog_8_method_3_code 10 = .ok (.iconst 1, 1) := by decide +kernel
theorem dX6_isOutside_11 : decode prog_8_method_3_code 11 = .ok (.goto 4, 3) := by decide +kernel
theorem dX6_isOutside_14 : decode prog_8_method_3_code 14 = .ok (.iconst 0, 1) := by decide +kernel
theorem dX6_isOutside_15 : decode prog_8_method_3_code 15 = .ok (.ireturn, 1) := by decide +kernel
theorem nX6_refusesStone : zDs yX6_refusesStone 4 := ⟨by decide, by decide, by decide +kernel⟩
theorem dX6_refusesStone_0 : decode prog_8_method_4_code 0 = .ok (.iload_n 1, 1) := by decide +kernel
theorem dX6_refusesStone_1 : decode prog_8_method_4_code 1 = .ok (.iconst 0, 1) := by decide +kernel
theorem dX6_refusesStone_2 : decode prog_8_method_4_code 2 = .ok (.bipush 50, 2) := by decide +kernel
theorem dX6_refusesStone_4 : decode prog_8_method_4_code 4 = .ok (.invokestatic 64, 3) := by decide +kernel
theorem dX6_refusesStone_7 : decode prog_8_method_4_code 7 = .ok (.ifCond .ne 22, 3) := by decide +kernel
theorem dX6_refusesStone_10 : decode prog_8_method_4_code 10 = .ok (.iload_n 2, 1) := by decide +kernel
theorem dX6_refusesStone_11 : decode prog_8_method_4_code 11 = .ok (.iconst 0, 1) := by decide +kernel
theorem dX6_refusesStone_12 : decode prog_8_method_4_code 12 = .ok (.bipush 30, 2) := by decide +kernel
theorem dX6_refusesStone_14 : decode prog_8_method_4_code 14 = .ok (.invokestatic 64, 3) := by decide +kernel
theorem dX6_refusesStone_17 : decode prog_8_method_4_code 17 = .ok (.ifCond .ne 12, 3) := by decide +kernel
theorem dX6_refusesStone_20 : decode prog_8_method_4_code 20 = .ok (.iload_n 3, 1) := by decide +kernel
theorem dX6_refusesStone_21 : decode prog_8_method_4_code 21 = .ok (.iconst 1, 1) := by decide +kernel
theorem dX6_refusesStone_22 : decode prog_8_method_4_code 22 = .ok (.iconst 5, 1) := by decide +kernel
theorem dX6_refusesStone_23 : decode prog_8_method_4_code 23 = .ok (.invokestatic 64, 3) := by decide +kernel
theorem dX6_refusesStone_26 : decode prog_8_method_4_code 26 = .ok (.ifCond .eq 11, 3) := by decide +kernel
theorem dX6_refusesStone_29 : decode prog_8_method_4_code 29 = .ok (.aload 4, 2) := by decide +kernel
theorem dX6_refusesStone_31 : decode prog_8_method_4_code 31 = .ok (.iconst 1, 1) := by decide +kernel
theorem dX6_refusesStone_32 : decode prog_8_method_4_code 32 = .ok (.iconst 0, 1) := by decide +kernel
theorem dX6_refusesStone_33 : decode prog_8_method_4_code 33 = .ok (.invokevirtual 70, 3) := by decide +kernel
theorem dX6_refusesStone_36 : decode prog_8_method_4_code 36 = .ok (.ireturn, 1) := by decide +kernel
theorem dX6_refusesStone_37 : decode prog_8_method_4_code 37 = .ok (.aload_n 0, 1) := by decide +kernel
theorem dX6_refusesStone_38 : decode prog_8_method_4_code 38 = .ok (.getfield 16, 3) := by decide +kernel
theorem dX6_refusesStone_41 : decode prog_8_method_4_code 41 = .ok (.getfield 74, 3) := by decide +kernel
theorem dX6_refusesStone_44 : decode prog_8_method_4_code 44 = .ok (.bipush 6, 2) := by decide +kernel
theorem dX6_refusesStone_46 : decode prog_8_method_4_code 46 = .ok (.if_icmp .lt 18, 3) := by decide +kernel
theorem dX6_refusesStone_49 : decode prog_8_method_4_code 49 = .ok (.aload 4, 2) := by decide +kernel
theorem dX6_refusesStone_51 : decode prog_8_method_4_code 51 = .ok (.iconst 2, 1) := by decide +kernel
theorem dX6_refusesStone_52 : decode prog_8_method_4_code 52 = .ok (.bipush 6, 2) := by decide +kernel
theorem dX6_refusesStone_54 : decode prog_8_method_4_code 54 = .ok (.invokevirtual 70, 3) := by decide +kernel
theorem dX6_refusesStone_57 : decode prog_8_method_4_code 57 = .ok (.ifCond .eq 7, 3) := by decide +kernel
theorem dX6_refusesStone_60 : decode prog_8_method_4_code 60 = .ok (.iconst 1, 1) := by decide +kernel
theorem dX6_refusesStone_61 : decode prog_8_method_4_code 61 = .ok (.goto 4, 3) := by decide +kernel
theorem dX6_refusesStone_64 : decode prog_8_method_4_code 64 = .ok (.iconst 0, 1) := by decide +kernel
theorem dX6_refusesStone_65 : decode prog_8_method_4_code 65 = .ok (.ireturn, 1) := by decide +kernel
theorem nX6_refusesFlood : zDs yX6_refusesFlood 4 := ⟨by decide, by decide, by decide +kernel⟩
theorem dX6_refusesFlood_0 : decode prog_8_method_5_code 0 = .ok (.iload_n 1, 1) := by decide +kernel
theorem dX6_refusesFlood_1 : decode prog_8_method_5_code 1 = .ok (.iconst 0, 1) := by decide +kernel
theorem dX6_refusesFlood_2 : decode prog_8_method_5_code 2 = .ok (.aload_n 0, 1) := by decide +kernel
theorem dX6_refusesFlood_3 : decode prog_8_method_5_code 3 = .ok (.getfield 9, 3) := by decide +kernel
theorem dX6_refusesFlood_6 : decode prog_8_method_5_code 6 = .ok (.invokestatic 64, 3) := by decide +kernel
theorem dX6_refusesFlood_9 : decode prog_8_method_5_code 9 = .ok (.ifCond .ne 23, 3) := by decide +kernel
theorem dX6_refusesFlood_12 : decode prog_8_method_5_code 12 = .ok (.iload_n 2, 1) := by decide +kernel
theorem dX6_refusesFlood_13 : decode prog_8_method_5_code 13 = .ok (.iconst 1, 1) := by decide +kernel
theorem dX6_refusesFlood_14 : decode prog_8_method_5_code 14 = .ok (.bipush 99, 2) := by decide +kernel
theorem dX6_refusesFlood_16 : decode prog_8_method_5_code 16 = .ok (.invokestatic 64, 3) := by decide +kernel
theorem dX6_refusesFlood_19 : decode prog_8_method_5_code 19 = .ok (.ifCond .ne 13, 3) := by decide +kernel
theorem dX6_refusesFlood_22 : decode prog_8_method_5_code 22 = .ok (.iload_n 3, 1) := by decide +kernel
theorem dX6_refusesFlood_23 : decode prog_8_method_5_code 23 = .ok (.iconst 0, 1) := by decide +kernel
theorem dX6_refusesFlood_24 : decode prog_8_method_5_code 24 = .ok (.bipush 99, 2) := by decide +kernel
theorem dX6_refusesFlood_26 : decode prog_8_method_5_code 26 = .ok (.invokestatic 64, 3) := by decide +kernel
theorem dX6_refusesFlood_29 : decode prog_8_method_5_code 29 = .ok (.ifCond .eq 11, 3) := by decide +kernel
theorem dX6_refusesFlood_32 : decode prog_8_method_5_code 32 = .ok (.aload 4, 2) := by decide +kernel
theorem dX6_refusesFlood_34 : decode prog_8_method_5_code 34 = .ok (.iconst 1, 1) := by decide +kernel
theorem dX6_refusesFlood_35 : decode prog_8_method_5_code 35 = .ok (.iconst 0, 1) := by decide +kernel
theorem dX6_refusesFlood_36 : decode prog_8_method_5_code 36 = .ok (.invokevirtual 70, 3) := by decide +kernel
theorem dX6_refusesFlood_39 : decode prog_8_method_5_code 39 = .ok (.ireturn, 1) := by decide +kernel
theorem dX6_refusesFlood_40 : decode prog_8_method_5_code 40 = .ok (.aload_n 0, 1) := by decide +kernel
theorem dX6_refusesFlood_41 : decode prog_8_method_5_code 41 = .ok (.getfield 23, 3) := by decide +kernel
theorem dX6_refusesFlood_44 : decode prog_8_method_5_code 44 = .ok (.iload_n 1, 1) := by decide +kernel
theorem dX6_refusesFlood_45 : decode prog_8_method_5_code 45 = .ok (.invokevirtual 77, 3) := by decide +kernel
theorem dX6_refusesFlood_48 : decode prog_8_method_5_code 48 = .ok (.istore 5, 2) := by decide +kernel
theorem dX6_refusesFlood_50 : decode prog_8_method_5_code 50 = .ok (.iload 5, 2) := by decide +kernel
theorem dX6_refusesFlood_52 : decode prog_8_method_5_code 52 = .ok (.ifCond .lt 12, 3) := by decide +kernel
theorem dX6_refusesFlood_55 : decode prog_8_method_5_code 55 = .ok (.aload 4, 2) := by decide +kernel
theorem dX6_refusesFlood_57 : decode prog_8_method_5_code 57 = .ok (.iconst 4, 1) := by decide +kernel
theorem dX6_refusesFlood_58 : decode prog_8_method_5_code 58 = .ok (.iload 5, 2) := by decide +kernel
theorem dX6_refusesFlood_60 : decode prog_8_method_5_code 60 = .ok (.invokevirtual 70, 3) := by decide +kernel
theorem dX6_refusesFlood_63 : decode prog_8_method_5_code 63 = .ok (.ireturn, 1) := by decide +kernel
theorem dX6_refusesFlood_64 : decode prog_8_method_5_code 64 = .ok (.aload_n 0, 1) := by decide +kernel
theorem dX6_refusesFlood_65 : decode prog_8_method_5_code 65 = .ok (.getfield 23, 3) := by decide +kernel
theorem dX6_refusesFlood_68 : decode prog_8_method_5_code 68 = .ok (.getfield 81, 3) := by decide +kernel
theorem dX6_refusesFlood_71 : decode prog_8_method_5_code 71 = .ok (.bipush 12, 2) := by decide +kernel
theorem dX6_refusesFlood_73 : decode prog_8_method_5_code 73 = .ok (.if_icmp .lt 18, 3) := by decide +kernel
theorem dX6_refusesFlood_76 : decode prog_8_method_5_code 76 = .ok (.aload 4, 2) := by decide +kernel
theorem dX6_refusesFlood_78 : decode prog_8_method_5_code 78 = .ok (.iconst 2, 1) := by decide +kernel
theorem dX6_refusesFlood_79 : decode prog_8_method_5_code 79 = .ok (.bipush 12, 2) := by decide +kernel
theorem dX6_refusesFlood_81 : decode prog_8_method_5_code 81 = .ok (.invokevirtual 70, 3) := by decide +kernel
theorem dX6_refusesFlood_84 : decode prog_8_method_5_code 84 = .ok (.ifCond .eq 7, 3) := by decide +kernel
theorem dX6_refusesFlood_87 : decode prog_8_method_5_code 87 = .ok (.iconst 1, 1) := by decide +kernel
theorem dX6_refusesFlood_88 : decode prog_8_method_5_code 88 = .ok (.goto 4, 3) := by decide +kernel
theorem dX6_refusesFlood_91 : decode prog_8_method_5_code 91 = .ok (.iconst 0, 1) := by decide +kernel
theorem dX6_refusesFlood_92 : decode prog_8_method_5_code 92 = .ok (.ireturn, 1) := by decide +kernel
theorem nX6_refusesEpoch : zDs yX6_refusesEpoch 3 := ⟨by decide, by decide, by decide +kernel⟩
theorem dX6_refusesEpoch_0 : decode prog_8_method_6_code 0 = .ok (.iload_n 1, 1) := by decide +kernel
theorem dX6_refusesEpoch_1 : decode prog_8_method_6_code 1 = .ok (.iconst 0, 1) := by decide +kernel
theorem dX6_refusesEpoch_2 : decode prog_8_method_6_code 2 = .ok (.sipush 999, 3) := by decide +kernel
theorem dX6_refusesEpoch_5 : decode prog_8_method_6_code 5 = .ok (.invokestatic 64, 3) := by decide +kernel
theorem dX6_refusesEpoch_8 : decode prog_8_method_6_code 8 = .ok (.ifCond .ne 14, 3) := by decide +kernel
theorem dX6_refusesEpoch_11 : decode prog_8_method_6_code 11 = .ok (.iload_n 2, 1) := by decide +kernel
theorem dX6_refusesEpoch_12 : decode prog_8_method_6_code 12 = .ok (.bipush (-9), 2) := by decide +kernel
theorem dX6_refusesEpoch_14 : decode prog_8_method_6_code 14 = .ok (.bipush 9, 2) := by decide +kernel
theorem dX6_refusesEpoch_16 : decode prog_8_method_6_code 16 = .ok (.invokestatic 64, 3) := by decide +kernel
theorem dX6_refusesEpoch_19 : decode prog_8_method_6_code 19 = .ok (.ifCond .eq 10, 3) := by decide +kernel
theorem dX6_refusesEpoch_22 : decode prog_8_method_6_code 22 = .ok (.aload_n 3, 1) := by decide +kernel
theorem dX6_refusesEpoch_23 : decode prog_8_method_6_code 23 = .ok (.iconst 1, 1) := by decide +kernel
theorem dX6_refusesEpoch_24 : decode prog_8_method_6_code 24 = .ok (.iconst 0, 1) := by decide +kernel
theorem dX6_refusesEpoch_25 : decode prog_8_method_6_code 25 = .ok (.invokevirtual 70, 3) := by decide +kernel
theorem dX6_refusesEpoch_28 : decode prog_8_method_6_code 28 = .ok (.ireturn, 1) := by decide +kernel
theorem dX6_refusesEpoch_29 : decode prog_8_method_6_code 29 = .ok (.aload_n 0, 1) := by decide +kernel
theorem dX6_refusesEpoch_30 : decode prog_8_method_6_code 30 = .ok (.getfield 30, 3) := by decide +kernel
theorem dX6_refusesEpoch_33 : decode prog_8_method_6_code 33 = .ok (.getfield 82, 3) := by decide +kernel
theorem dX6_refusesEpoch_36 : decode prog_8_method_6_code 36 = .ok (.iconst 4, 1) := by decide +kernel
theorem dX6_refusesEpoch_37 : decode prog_8_method_6_code 37 = .ok (.if_icmp .lt 27, 3) := by decide +kernel
theorem dX6_refusesEpoch_40 : decode prog_8_method_6_code 40 = .ok (.aload_n 0, 1) := by decide +kernel
theorem dX6_refusesEpoch_41 : decode prog_8_method_6_code 41 = .ok (.getfield 30, 3) := by decide +kernel
theorem dX6_refusesEpoch_44 : decode prog_8_method_6_code 44 = .ok (.iload_n 1, 1) := by decide +kernel
theorem dX6_refusesEpoch_45 : decode prog_8_method_6_code 45 = .ok (.invokevirtual 83, 3) := by decide +kernel
theorem dX6_refusesEpoch_48 : decode prog_8_method_6_code 48 = .ok (.ifCond .ge 16, 3) := by decide +kernel
theorem dX6_refusesEpoch_51 : decode prog_8_method_6_code 51 = .ok (.aload_n 3, 1) := by decide +kernel
theorem dX6_refusesEpoch_52 : decode prog_8_method_6_code 52 = .ok (.iconst 2, 1) := by decide +kernel
theorem dX6_refusesEpoch_53 : decode prog_8_method_6_code 53 = .ok (.iconst 4, 1) := by decide +kernel
theorem dX6_refusesEpoch_54 : decode prog_8_method_6_code 54 = .ok (.invokevirtual 70, 3) := by decide +kernel
theorem dX6_refusesEpoch_57 : decode prog_8_method_6_code 57 = .ok (.ifCond .eq 7, 3) := by decide +kernel
theorem dX6_refusesEpoch_60 : decode prog_8_method_6_code 60 = .ok (.iconst 1, 1) := by decide +kernel
theorem dX6_refusesEpoch_61 : decode prog_8_method_6_code 61 = .ok (.goto 4, 3) := by decide +kernel
theorem dX6_refusesEpoch_64 : decode prog_8_method_6_code 64 = .ok (.iconst 0, 1) := by decide +kernel
theorem dX6_refusesEpoch_65 : decode prog_8_method_6_code 65 = .ok (.ireturn, 1) := by decide +kernel
theorem nX6_refusesChisel : zDs yX6_refusesChisel 1 := ⟨by decide, by decide, by decide +kernel⟩
theorem dX6_refusesChisel_0 : decode prog_8_method_7_code 0 = .ok (.aload_n 0, 1) := by decide +kernel
theorem dX6_refusesChisel_1 : decode prog_8_method_7_code 1 = .ok (.getfield 37, 3) := by decide +kernel
theorem dX6_refusesChisel_4 : decode prog_8_method_7_code 4 = .ok (.getfield 86, 3) := by decide +kernel
theorem dX6_refusesChisel_7 : decode prog_8_method_7_code 7 = .ok (.iconst 3, 1) := by decide +kernel
theorem dX6_refusesChisel_8 : decode prog_8_method_7_code 8 = .ok (.if_icmp .lt 16, 3) := by decide +kernel
theorem dX6_refusesChisel_11 : decode prog_8_method_7_code 11 = .ok (.aload_n 1, 1) := by decide +kernel
theorem dX6_refusesChisel_12 : decode prog_8_method_7_code 12 = .ok (.iconst 2, 1) := by decide +kernel
theorem dX6_refusesChisel_13 : decode prog_8_method_7_code 13 = .ok (.iconst 3, 1) := by decide +kernel
theorem dX6_refusesChisel_14 : decode prog_8_method_7_code 14 = .ok (.invokevirtual 70, 3) := by decide +kernel
theorem dX6_refusesChisel_17 : decode prog_8_method_7_code 17 = .ok (.ifCond .eq 7, 3) := by decide +kernel
theorem dX6_refusesChisel_20 : decode prog_8_method_7_code 20 = .ok (.iconst 1, 1) := by decide +kernel
theorem dX6_refusesChisel_21 : decode prog_8_method_7_code 21 = .ok (.goto 4, 3) := by decide +kernel
theorem dX6_refusesChisel_24 : decode prog_8_method_7_code 24 = .ok (.iconst 0, 1) := by decide +kernel
theorem dX6_refusesChisel_25 : decode prog_8_method_7_code 25 = .ok (.ireturn, 1) := by decide +kernel
theorem nX6_refusesCut : zDs yX6_refusesCut 4 := ⟨by decide, by decide, by decide +kernel⟩
theorem dX6_refusesCut_0 : decode prog_8_method_8_code 0 = .ok (.aload_n 0, 1) := by decide +kernel
theorem dX6_refusesCut_1 : decode prog_8_method_8_code 1 = .ok (.getfield 16, 3) := by decide +kernel
theorem dX6_refusesCut_4 : decode prog_8_method_8_code 4 = .ok (.iload_n 1, 1) := by decide +kernel
theorem dX6_refusesCut_5 : decode prog_8_method_8_code 5 = .ok (.invokevirtual 87, 3) := by decide +kernel
theorem dX6_refusesCut_8 : decode prog_8_method_8_code 8 = .ok (.ifCond .ne 11, 3) := by decide +kernel
theorem dX6_refusesCut_11 : decode prog_8_method_8_code 11 = .ok (.aload 4, 2) := by decide +kernel
theorem dX6_refusesCut_13 : decode prog_8_method_8_code 13 = .ok (.iconst 3, 1) := by decide +kernel
theorem dX6_refusesCut_14 : decode prog_8_method_8_code 14 = .ok (.iload_n 1, 1) := by decide +kernel
theorem dX6_refusesCut_15 : decode prog_8_method_8_code 15 = .ok (.invokevirtual 70, 3) := by decide +kernel
theorem dX6_refusesCut_18 : decode prog_8_method_8_code 18 = .ok (.ireturn, 1) := by decide +kernel
theorem dX6_refusesCut_19 : decode prog_8_method_8_code 19 = .ok (.aload_n 0, 1) := by decide +kernel
theorem dX6_refusesCut_20 : decode prog_8_method_8_code 20 = .ok (.getfield 23, 3) := by decide +kernel
theorem dX6_refusesCut_23 : decode prog_8_method_8_code 23 = .ok (.iload_n 2, 1) := by decide +kernel
theorem dX6_refusesCut_24 : decode prog_8_method_8_code 24 = .ok (.invokevirtual 91, 3) := by decide +kernel
theorem dX6_refusesCut_27 : decode prog_8_method_8_code 27 = .ok (.ifCond .ne 11, 3) := by decide +kernel
theorem dX6_refusesCut_30 : decode prog_8_method_8_code 30 = .ok (.aload 4, 2) := by decide +kernel
theorem dX6_refusesCut_32 : decode prog_8_method_8_code 32 = .ok (.iconst 3, 1) := by decide +kernel
theorem dX6_refusesCut_33 : decode prog_8_method_8_code 33 = .ok (.iload_n 2, 1) := by decide +kernel
theorem dX6_refusesCut_34 : decode prog_8_method_8_code 34 = .ok (.invokevirtual 70, 3) := by decide +kernel
theorem dX6_refusesCut_37 : decode prog_8_method_8_code 37 = .ok (.ireturn, 1) := by decide +kernel
theorem dX6_refusesCut_38 : decode prog_8_method_8_code 38 = .ok (.aload_n 0, 1) := by decide +kernel
theorem dX6_refusesCut_39 : decode prog_8_method_8_code 39 = .ok (.getfield 37, 3) := by decide +kernel
theorem dX6_refusesCut_42 : decode prog_8_method_8_code 42 = .ok (.iload_n 3, 1) := by decide +kernel
theorem dX6_refusesCut_43 : decode prog_8_method_8_code 43 = .ok (.invokevirtual 92, 3) := by decide +kernel
theorem dX6_refusesCut_46 : decode prog_8_method_8_code 46 = .ok (.ifCond .ne 11, 3) := by decide +kernel
theorem dX6_refusesCut_49 : decode prog_8_method_8_code 49 = .ok (.aload 4, 2) := by decide +kernel
theorem dX6_refusesCut_51 : decode prog_8_method_8_code 51 = .ok (.iconst 3, 1) := by decide +kernel
theorem dX6_refusesCut_52 : decode prog_8_method_8_code 52 = .ok (.iload_n 3, 1) := by decide +kernel
theorem dX6_refusesCut_53 : decode prog_8_method_8_code 53 = .ok (.invokevirtual 70, 3) := by decide +kernel
theorem dX6_refusesCut_56 : decode prog_8_method_8_code 56 = .ok (.ireturn, 1) := by decide +kernel
theorem dX6_refusesCut_57 : decode prog_8_method_8_code 57 = .ok (.aload_n 0, 1) := by decide +kernel
theorem dX6_refusesCut_58 : decode prog_8_method_8_code 58 = .ok (.getfield 44, 3) := by decide +kernel
theorem dX6_refusesCut_61 : decode prog_8_method_8_code 61 = .ok (.iload_n 1, 1) := by decide +kernel
theorem dX6_refusesCut_62 : decode prog_8_method_8_code 62 = .ok (.iload_n 2, 1) := by decide +kernel
theorem dX6_refusesCut_63 : decode prog_8_method_8_code 63 = .ok (.invokevirtual 93, 3) := by decide +kernel
theorem dX6_refusesCut_66 : decode prog_8_method_8_code 66 = .ok (.ifCond .eq 19, 3) := by decide +kernel
theorem dX6_refusesCut_69 : decode prog_8_method_8_code 69 = .ok (.aload 4, 2) := by decide +kernel
theorem dX6_refusesCut_71 : decode prog_8_method_8_code 71 = .ok (.iconst 5, 1) := by decide +kernel
theorem dX6_refusesCut_72 : decode prog_8_method_8_code 72 = .ok (.aload_n 0, 1) := by decide +kernel
theorem dX6_refusesCut_73 : decode prog_8_method_8_code 73 = .ok (.getfield 44, 3) := by decide +kernel
theorem dX6_refusesCut_76 : decode prog_8_method_8_code 76 = .ok (.iload_n 1, 1) := by decide +kernel
theorem dX6_refusesCut_77 : decode prog_8_method_8_code 77 = .ok (.iload_n 2, 1) := by decide +kernel
theorem dX6_refusesCut_78 : decode prog_8_method_8_code 78 = .ok (.invokevirtual 95, 3) := by decide +kernel
theorem dX6_refusesCut_81 : decode prog_8_method_8_code 81 = .ok (.invokevirtual 70, 3) := by decide +kernel
theorem dX6_refusesCut_84 : decode prog_8_method_8_code 84 = .ok (.ireturn, 1) := by decide +kernel
theorem dX6_refusesCut_85 : decode prog_8_method_8_code 85 = .ok (.aload_n 0, 1) := by decide +kernel
theorem dX6_refusesCut_86 : decode prog_8_method_8_code 86 = .ok (.iload_n 1, 1) := by decide +kernel
theorem dX6_refusesCut_87 : decode prog_8_method_8_code 87 = .ok (.iload_n 2, 1) := by decide +kernel
theorem dX6_refusesCut_88 : decode prog_8_method_8_code 88 = .ok (.invokevirtual 99, 3) := by decide +kernel
theorem dX6_refusesCut_91 : decode prog_8_method_8_code 91 = .ok (.istore 5, 2) := by decide +kernel
theorem dX6_refusesCut_93 : decode prog_8_method_8_code 93 = .ok (.iload 5, 2) := by decide +kernel
theorem dX6_refusesCut_95 : decode prog_8_method_8_code 95 = .ok (.iconst 1, 1) := by decide +kernel
theorem dX6_refusesCut_96 : decode prog_8_method_8_code 96 = .ok (.if_icmp .ge 15, 3) := by decide +kernel
theorem dX6_refusesCut_99 : decode prog_8_method_8_code 99 = .ok (.aload 4, 2) := by decide +kernel
theorem dX6_refusesCut_101 : decode prog_8_method_8_code 101 = .ok (.bipush 6, 2) := by decide +kernel
theorem dX6_refusesCut_103 : decode prog_8_method_8_code 103 = .ok (.iconst 1, 1) := by decide +kernel
theorem dX6_refusesCut_104 : decode prog_8_method_8_code 104 = .ok (.iload 5, 2) := by decide +kernel
theorem dX6_refusesCut_106 : decode prog_8_method_8_code 106 = .ok (.isub, 1) := by decide +kernel
theorem dX6_refusesCut_107 : decode prog_8_method_8_code 107 = .ok (.invokevirtual 70, 3) := by decide +kernel
theorem dX6_refusesCut_110 : decode prog_8_method_8_code 110 = .ok (.ireturn, 1) := by decide +kernel
theorem dX6_refusesCut_111 : decode prog_8_method_8_code 111 = .ok (.aload_n 0, 1) := by decide +kernel
theorem dX6_refusesCut_112 : decode prog_8_method_8_code 112 = .ok (.iload_n 1, 1) := by decide +kernel
theorem dX6_refusesCut_113 : decode prog_8_method_8_code 113 = .ok (.iload_n 2, 1) := by decide +kernel
theorem dX6_refusesCut_114 : decode prog_8_method_8_code 114 = .ok (.invokevirtual 102, 3) := by decide +kernel
theorem dX6_refusesCut_117 : decode prog_8_method_8_code 117 = .ok (.istore 6, 2) := by decide +kernel
theorem dX6_refusesCut_119 : decode prog_8_method_8_code 119 = .ok (.iload 6, 2) := by decide +kernel
theorem dX6_refusesCut_121 : decode prog_8_method_8_code 121 = .ok (.iconst 0, 1) := by decide +kernel
theorem dX6_refusesCut_122 : decode prog_8_method_8_code 122 = .ok (.bipush 99, 2) := by decide +kernel
theorem dX6_refusesCut_124 : decode prog_8_method_8_code 124 = .ok (.invokestatic 64, 3) := by decide +kernel
theorem dX6_refusesCut_127 : decode prog_8_method_8_code 127 = .ok (.ifCond .eq 13, 3) := by decide +kernel
theorem dX6_refusesCut_130 : decode prog_8_method_8_code 130 = .ok (.aload 4, 2) := by decide +kernel
theorem dX6_refusesCut_132 : decode prog_8_method_8_code 132 = .ok (.bipush 7, 2) := by decide +kernel
theorem dX6_refusesCut_134 : decode prog_8_method_8_code 134 = .ok (.iload 6, 2) := by decide +kernel
theorem dX6_refusesCut_136 : decode prog_8_method_8_code 136 = .ok (.invokevirtual 70, 3) := by decide +kernel
theorem dX6_refusesCut_139 : decode prog_8_method_8_code 139 = .ok (.ireturn, 1) := by decide +kernel
theorem dX6_refusesCut_140 : decode prog_8_method_8_code 140 = .ok (.aload_n 0, 1) := by decide +kernel
theorem dX6_refusesCut_141 : decode prog_8_method_8_code 141 = .ok (.getfield 37, 3) := by decide +kernel
theorem dX6_refusesCut_144 : decode prog_8_method_8_code 144 = .ok (.getfield 105, 3) := by decide +kernel
theorem dX6_refusesCut_147 : decode prog_8_method_8_code 147 = .ok (.iload_n 3, 1) := by decide +kernel
theorem dX6_refusesCut_148 : decode prog_8_method_8_code 148 = .ok (.invokestatic 109, 3) := by decide +kernel
theorem dX6_refusesCut_151 : decode prog_8_method_8_code 151 = .ok (.istore 7, 2) := by decide +kernel
theorem dX6_refusesCut_153 : decode prog_8_method_8_code 153 = .ok (.iload 7, 2) := by decide +kernel
theorem dX6_refusesCut_155 : decode prog_8_method_8_code 155 = .ok (.aload_n 0, 1) := by decide +kernel
theorem dX6_refusesCut_156 : decode prog_8_method_8_code 156 = .ok (.getfield 16, 3) := by decide +kernel
theorem dX6_refusesCut_159 : decode prog_8_method_8_code 159 = .ok (.getfield 115, 3) := by decide +kernel
theorem dX6_refusesCut_162 : decode prog_8_method_8_code 162 = .ok (.iload_n 1, 1) := by decide +kernel
theorem dX6_refusesCut_163 : decode prog_8_method_8_code 163 = .ok (.invokestatic 109, 3) := by decide +kernel
theorem dX6_refusesCut_166 : decode prog_8_method_8_code 166 = .ok (.if_icmp .ge 13, 3) := by decide +kernel
theorem dX6_refusesCut_169 : decode prog_8_method_8_code 169 = .ok (.aload 4, 2) := by decide +kernel
theorem dX6_refusesCut_171 : decode prog_8_method_8_code 171 = .ok (.bipush 8, 2) := by decide +kernel
theorem dX6_refusesCut_173 : decode prog_8_method_8_code 173 = .ok (.iload 7, 2) := by decide +kernel
theorem dX6_refusesCut_175 : decode prog_8_method_8_code 175 = .ok (.invokevirtual 70, 3) := by decide +kernel
theorem dX6_refusesCut_178 : decode prog_8_method_8_code 178 = .ok (.ireturn, 1) := by decide +kernel
theorem dX6_refusesCut_179 : decode prog_8_method_8_code 179 = .ok (.aload_n 0, 1) := by decide +kernel
theorem dX6_refusesCut_180 : decode prog_8_method_8_code 180 = .ok (.getfield 44, 3) := by decide +kernel
theorem dX6_refusesCut_183 : decode prog_8_method_8_code 183 = .ok (.iload_n 1, 1) := by decide +kernel
theorem dX6_refusesCut_184 : decode prog_8_method_8_code 184 = .ok (.iload 6, 2) := by decide +kernel
theorem dX6_refusesCut_186 : decode prog_8_method_8_code 186 = .ok (.invokevirtual 118, 3) := by decide +kernel
theorem dX6_refusesCut_189 : decode prog_8_method_8_code 189 = .ok (.istore 8, 2) := by decide +kernel
theorem dX6_refusesCut_191 : decode prog_8_method_8_code 191 = .ok (.iload 8, 2) := by decide +kernel
theorem dX6_refusesCut_193 : decode prog_8_method_8_code 193 = .ok (.ifCond .lt 13, 3) := by decide +kernel
theorem dX6_refusesCut_196 : decode prog_8_method_8_code 196 = .ok (.aload 4, 2) := by decide +kernel
theorem dX6_refusesCut_198 : decode prog_8_method_8_code 198 = .ok (.bipush 9, 2) := by decide +kernel
theorem dX6_refusesCut_200 : decode prog_8_method_8_code 200 = .ok (.iload 8, 2) := by decide +kernel
theorem dX6_refusesCut_202 : decode prog_8_method_8_code 202 = .ok (.invokevirtual 70, 3) := by decide +kernel
theorem dX6_refusesCut_205 : decode prog_8_method_8_code 205 = .ok (.ireturn, 1) := by decide +kernel
theorem dX6_refusesCut_206 : decode prog_8_method_8_code 206 = .ok (.aload_n 0, 1) := by decide +kernel
theorem dX6_refusesCut_207 : decode prog_8_method_8_code 207 = .ok (.getfield 44, 3) := by decide +kernel
theorem dX6_refusesCut_210 : decode prog_8_method_8_code 210 = .ok (.iload_n 1, 1) := by decide +kernel
theorem dX6_refusesCut_211 : decode prog_8_method_8_code 211 = .ok (.invokevirtual 121, 3) := by decide +kernel
theorem dX6_refusesCut_214 : decode prog_8_method_8_code 214 = .ok (.bipush 6, 2) := by decide +kernel
theorem dX6_refusesCut_216 : decode prog_8_method_8_code 216 = .ok (.if_icmp .lt 18, 3) := by decide +kernel
theorem dX6_refusesCut_219 : decode prog_8_method_8_code 219 = .ok (.aload 4, 2) := by decide +kernel
theorem dX6_refusesCut_221 : decode prog_8_method_8_code 221 = .ok (.iconst 2, 1) := by decide +kernel
theorem dX6_refusesCut_222 : decode prog_8_method_8_code 222 = .ok (.bipush 6, 2) := by decide +kernel
theorem dX6_refusesCut_224 : decode prog_8_method_8_code 224 = .ok (.invokevirtual 70, 3) := by decide +kernel
theorem dX6_refusesCut_227 : decode prog_8_method_8_code 227 = .ok (.ifCond .eq 7, 3) := by decide +kernel
theorem dX6_refusesCut_230 : decode prog_8_method_8_code 230 = .ok (.iconst 1, 1) := by decide +kernel
theorem dX6_refusesCut_231 : decode prog_8_method_8_code 231 = .ok (.goto 4, 3) := by decide +kernel
theorem dX6_refusesCut_234 : decode prog_8_method_8_code 234 = .ok (.iconst 0, 1) := by decide +kernel
theorem dX6_refusesCut_235 : decode prog_8_method_8_code 235 = .ok (.ireturn, 1) := by decide +kernel
theorem nX6_refusesEfface : zDs yX6_refusesEfface 3 := ⟨by decide, by decide, by decide +kernel⟩
theorem dX6_refusesEfface_0 : decode prog_8_method_9_code 0 = .ok (.aload_n 0, 1) := by decide +kernel
theorem dX6_refusesEfface_1 : decode prog_8_method_9_code 1 = .ok (.getfield 16, 3) := by decide +kernel
theorem dX6_refusesEfface_4 : decode prog_8_method_9_code 4 = .ok (.iload_n 1, 1) := by decide +kernel
theorem dX6_refusesEfface_5 : decode prog_8_method_9_code 5 = .ok (.invokevirtual 87, 3) := by decide +kernel
theorem dX6_refusesEfface_8 : decode prog_8_method_9_code 8 = .ok (.ifCond .ne 10, 3) := by decide +kernel
theorem dX6_refusesEfface_11 : decode prog_8_method_9_code 11 = .ok (.aload_n 3, 1) := by decide +kernel
theorem dX6_refusesEfface_12 : decode prog_8_method_9_code 12 = .ok (.iconst 3, 1) := by decide +kernel
theorem dX6_refusesEfface_13 : decode prog_8_method_9_code 13 = .ok (.iload_n 1, 1) := by decide +kernel
theorem dX6_refusesEfface_14 : decode prog_8_method_9_code 14 = .ok (.invokevirtual 70, 3) := by decide +kernel
theorem dX6_refusesEfface_17 : decode prog_8_method_9_code 17 = .ok (.ireturn, 1) := by decide +kernel
theorem dX6_refusesEfface_18 : decode prog_8_method_9_code 18 = .ok (.aload_n 0, 1) := by decide +kernel
theorem dX6_refusesEfface_19 : decode prog_8_method_9_code 19 = .ok (.getfield 23, 3) := by decide +kernel
theorem dX6_refusesEfface_22 : decode prog_8_method_9_code 22 = .ok (.iload_n 2, 1) := by decide +kernel
theorem dX6_refusesEfface_23 : decode prog_8_method_9_code 23 = .ok (.invokevirtual 91, 3) := by decide +kernel
theorem dX6_refusesEfface_26 : decode prog_8_method_9_code 26 = .ok (.ifCond .ne 10, 3) := by decide +kernel
theorem dX6_refusesEfface_29 : decode prog_8_method_9_code 29 = .ok (.aload_n 3, 1) := by decide +kernel
theorem dX6_refusesEfface_30 : decode prog_8_method_9_code 30 = .ok (.iconst 3, 1) := by decide +kernel
theorem dX6_refusesEfface_31 : decode prog_8_method_9_code 31 = .ok (.iload_n 2, 1) := by decide +kernel
theorem dX6_refusesEfface_32 : decode prog_8_method_9_code 32 = .ok (.invokevirtual 70, 3) := by decide +kernel
theorem dX6_refusesEfface_35 : decode prog_8_method_9_code 35 = .ok (.ireturn, 1) := by decide +kernel
theorem dX6_refusesEfface_36 : decode prog_8_method_9_code 36 = .ok (.aload_n 0, 1) := by decide +kernel
theorem dX6_refusesEfface_37 : decode prog_8_method_9_code 37 = .ok (.getfield 44, 3) := by decide +kernel
theorem dX6_refusesEfface_40 : decode prog_8_method_9_code 40 = .ok (.iload_n 1, 1) := by decide +kernel
theorem dX6_refusesEfface_41 : decode prog_8_method_9_code 41 = .ok (.iload_n 2, 1) := by decide +kernel
theorem dX6_refusesEfface_42 : decode prog_8_method_9_code 42 = .ok (.invokevirtual 93, 3) := by decide +kernel
theorem dX6_refusesEfface_45 : decode prog_8_method_9_code 45 = .ok (.ifCond .ne 17, 3) := by decide +kernel
theorem dX6_refusesEfface_48 : decode prog_8_method_9_code 48 = .ok (.aload_n 3, 1) := by decide +kernel
theorem dX6_refusesEfface_49 : decode prog_8_method_9_code 49 = .ok (.bipush 10, 2) := by decide +kernel
theorem dX6_refusesEfface_51 : decode prog_8_method_9_code 51 = .ok (.iload_n 2, 1) := by decide +kernel
theorem dX6_refusesEfface_52 : decode prog_8_method_9_code 52 = .ok (.invokevirtual 70, 3) := by decide +kernel
theorem dX6_refusesEfface_55 : decode prog_8_method_9_code 55 = .ok (.ifCond .eq 7, 3) := by decide +kernel
theorem dX6_refusesEfface_58 : decode prog_8_method_9_code 58 = .ok (.iconst 1, 1) := by decide +kernel
theorem dX6_refusesEfface_59 : decode prog_8_method_9_code 59 = .ok (.goto 4, 3) := by decide +kernel
theorem dX6_refusesEfface_62 : decode prog_8_method_9_code 62 = .ok (.iconst 0, 1) := by decide +kernel
theorem dX6_refusesEfface_63 : decode prog_8_method_9_code 63 = .ok (.ireturn, 1) := by decide +kernel
theorem nX6_refusesSharpen : zDs yX6_refusesSharpen 2 := ⟨by decide, by decide, by decide +kernel⟩
theorem dX6_refusesSharpen_0 : decode prog_8_method_10_code 0 = .ok (.aload_n 0, 1) := by decide +kernel
theorem dX6_refusesSharpen_1 : decode prog_8_method_10_code 1 = .ok (.getfield 37, 3) := by decide +kernel
theorem dX6_refusesSharpen_4 : decode prog_8_method_10_code 4 = .ok (.iload_n 1, 1) := by decide +kernel
theorem dX6_refusesSharpen_5 : decode prog_8_method_10_code 5 = .ok (.invokevirtual 92, 3) := by decide +kernel
theorem dX6_refusesSharpen_8 : decode prog_8_method_10_code 8 = .ok (.ifCond .ne 16, 3) := by decide +kernel
theorem dX6_refusesSharpen_11 : decode prog_8_method_10_code 11 = .ok (.aload_n 2, 1) := by decide +kernel
theorem dX6_refusesSharpen_12 : decode prog_8_method_10_code 12 = .ok (.iconst 3, 1) := by decide +kernel
theorem dX6_refusesSharpen_13 : decode prog_8_method_10_code 13 = .ok (.iload_n 1, 1) := by decide +kernel
theorem dX6_refusesSharpen_14 : decode prog_8_method_10_code 14 = .ok (.invokevirtual 70, 3) := by decide +kernel
theorem dX6_refusesSharpen_17 : decode prog_8_method_10_code 17 = .ok (.ifCond .eq 7, 3) := by decide +kernel
theorem dX6_refusesSharpen_20 : decode prog_8_method_10_code 20 = .ok (.iconst 1, 1) := by decide +kernel
theorem dX6_refusesSharpen_21 : decode prog_8_method_10_code 21 = .ok (.goto 4, 3) := by decide +kernel
theorem dX6_refusesSharpen_24 : decode prog_8_method_10_code 24 = .ok (.iconst 0, 1) := by decide +kernel
theorem dX6_refusesSharpen_25 : decode prog_8_method_10_code 25 = .ok (.ireturn, 1) := by decide +kernel
theorem nX6_refusesCheck : zDs yX6_refusesCheck 2 := ⟨by decide, by decide, by decide +kernel⟩
theorem dX6_refusesCheck_0 : decode prog_8_method_11_code 0 = .ok (.aload_n 0, 1) := by decide +kernel
theorem dX6_refusesCheck_1 : decode prog_8_method_11_code 1 = .ok (.getfield 16, 3) := by decide +kernel
theorem dX6_refusesCheck_4 : decode prog_8_method_11_code 4 = .ok (.iload_n 1, 1) := by decide +kernel
theorem dX6_refusesCheck_5 : decode prog_8_method_11_code 5 = .ok (.invokevirtual 87, 3) := by decide +kernel
theorem dX6_refusesCheck_8 : decode prog_8_method_11_code 8 = .ok (.ifCond .ne 16, 3) := by decide +kernel
theorem dX6_refusesCheck_11 : decode prog_8_method_11_code 11 = .ok (.aload_n 2, 1) := by decide +kernel
theorem dX6_refusesCheck_12 : decode prog_8_method_11_code 12 = .ok (.iconst 3, 1) := by decide +kernel
theorem dX6_refusesCheck_13 : decode prog_8_method_11_code 13 = .ok (.iload_n 1, 1) := by decide +kernel
theorem dX6_refusesCheck_14 : decode prog_8_method_11_code 14 = .ok (.invokevirtual 70, 3) := by decide +kernel
theorem dX6_refusesCheck_17 : decode prog_8_method_11_code 17 = .ok (.ifCond .eq 7, 3) := by decide +kernel
theorem dX6_refusesCheck_20 : decode prog_8_method_11_code 20 = .ok (.iconst 1, 1) := by decide +kernel
theorem dX6_refusesCheck_21 : decode prog_8_method_11_code 21 = .ok (.goto 4, 3) := by decide +kernel
theorem dX6_refusesCheck_24 : decode prog_8_method_11_code 24 = .ok (.iconst 0, 1) := by decide +kernel
theorem dX6_refusesCheck_25 : decode prog_8_method_11_code 25 = .ok (.ireturn, 1) := by decide +kernel
theorem nX6_refusesWitness : zDs yX6_refusesWitness 3 := ⟨by decide, by decide, by decide +kernel⟩
theorem dX6_refusesWitness_0 : decode prog_8_method_12_code 0 = .ok (.aload_n 0, 1) := by decide +kernel
theorem dX6_refusesWitness_1 : decode prog_8_method_12_code 1 = .ok (.getfield 23, 3) := by decide +kernel
theorem dX6_refusesWitness_4 : decode prog_8_method_12_code 4 = .ok (.iload_n 1, 1) := by decide +kernel
theorem dX6_refusesWitness_5 : decode prog_8_method_12_code 5 = .ok (.invokevirtual 91, 3) := by decide +kernel
theorem dX6_refusesWitness_8 : decode prog_8_method_12_code 8 = .ok (.ifCond .ne 10, 3) := by decide +kernel
theorem dX6_refusesWitness_11 : decode prog_8_method_12_code 11 = .ok (.aload_n 3, 1) := by decide +kernel
theorem dX6_refusesWitness_12 : decode prog_8_method_12_code 12 = .ok (.iconst 3, 1) := by decide +kernel
theorem dX6_refusesWitness_13 : decode prog_8_method_12_code 13 = .ok (.iload_n 1, 1) := by decide +kernel
theorem dX6_refusesWitness_14 : decode prog_8_method_12_code 14 = .ok (.invokevirtual 70, 3) := by decide +kernel
theorem dX6_refusesWitness_17 : decode prog_8_method_12_code 17 = .ok (.ireturn, 1) := by decide +kernel
theorem dX6_refusesWitness_18 : decode prog_8_method_12_code 18 = .ok (.iload_n 2, 1) := by decide +kernel
theorem dX6_refusesWitness_19 : decode prog_8_method_12_code 19 = .ok (.iconst 1, 1) := by decide +kernel
theorem dX6_refusesWitness_20 : decode prog_8_method_12_code 20 = .ok (.bipush 9, 2) := by decide +kernel
theorem dX6_refusesWitness_22 : decode prog_8_method_12_code 22 = .ok (.invokestatic 64, 3) := by decide +kernel
theorem dX6_refusesWitness_25 : decode prog_8_method_12_code 25 = .ok (.ifCond .eq 10, 3) := by decide +kernel
theorem dX6_refusesWitness_28 : decode prog_8_method_12_code 28 = .ok (.aload_n 3, 1) := by decide +kernel
theorem dX6_refusesWitness_29 : decode prog_8_method_12_code 29 = .ok (.iconst 1, 1) := by decide +kernel
theorem dX6_refusesWitness_30 : decode prog_8_method_12_code 30 = .ok (.iconst 0, 1) := by decide +kernel
theorem dX6_refusesWitness_31 : decode prog_8_method_12_code 31 = .ok (.invokevirtual 70, 3) := by decide +kernel
theorem dX6_refusesWitness_34 : decode prog_8_method_12_code 34 = .ok (.ireturn, 1) := by decide +kernel
theorem dX6_refusesWitness_35 : decode prog_8_method_12_code 35 = .ok (.aload_n 0, 1) := by decide +kernel
theorem dX6_refusesWitness_36 : decode prog_8_method_12_code 36 = .ok (.getfield 23, 3) := by decide +kernel
theorem dX6_refusesWitness_39 : decode prog_8_method_12_code 39 = .ok (.getfield 124, 3) := by decide +kernel
theorem dX6_refusesWitness_42 : decode prog_8_method_12_code 42 = .ok (.iload_n 1, 1) := by decide +kernel
theorem dX6_refusesWitness_43 : decode prog_8_method_12_code 43 = .ok (.invokestatic 109, 3) := by decide +kernel
theorem dX6_refusesWitness_46 : decode prog_8_method_12_code 46 = .ok (.iload_n 2, 1) := by decide +kernel
theorem dX6_refusesWitness_47 : decode prog_8_method_12_code 47 = .ok (.iadd, 1) := by decide +kernel
theorem dX6_refusesWitness_48 : decode prog_8_method_12_code 48 = .ok (.bipush 99, 2) := by decide +kernel
theorem dX6_refusesWitness_50 : decode prog_8_method_12_code 50 = .ok (.if_icmp .le 17, 3) := by decide +kernel
theorem dX6_refusesWitness_53 : decode prog_8_method_12_code 53 = .ok (.aload_n 3, 1) := by decide +kernel
theorem dX6_refusesWitness_54 : decode prog_8_method_12_code 54 = .ok (.iconst 2, 1) := by decide +kernel
theorem dX6_refusesWitness_55 : decode prog_8_method_12_code 55 = .ok (.bipush 99, 2) := by decide +kernel
theorem dX6_refusesWitness_57 : decode prog_8_method_12_code 57 = .ok (.invokevirtual 70, 3) := by decide +kernel
theorem dX6_refusesWitness_60 : decode prog_8_method_12_code 60 = .ok (.ifCond .eq 7, 3) := by decide +kernel
theorem dX6_refusesWitness_63 : decode prog_8_method_12_code 63 = .ok (.iconst 1, 1) := by decide +kernel
theorem dX6_refusesWitness_64 : decode prog_8_method_12_code 64 = .ok (.goto 4, 3) := by decide +kernel
theorem dX6_refusesWitness_67 : decode prog_8_method_12_code 67 = .ok (.iconst 0, 1) := by decide +kernel
theorem dX6_refusesWitness_68 : decode prog_8_method_12_code 68 = .ok (.ireturn, 1) := by decide +kernel
theorem nX6_refusesYears : zDs yX6_refusesYears 2 := ⟨by decide, by decide, by decide +kernel⟩
theorem dX6_refusesYears_0 : decode prog_8_method_13_code 0 = .ok (.iload_n 1, 1) := by decide +kernel
theorem dX6_refusesYears_1 : decode prog_8_method_13_code 1 = .ok (.iconst 1, 1) := by decide +kernel
theorem dX6_refusesYears_2 : decode prog_8_method_13_code 2 = .ok (.bipush 60, 2) := by decide +kernel
theorem dX6_refusesYears_4 : decode prog_8_method_13_code 4 = .ok (.invokestatic 64, 3) := by decide +kernel
theorem dX6_refusesYears_7 : decode prog_8_method_13_code 7 = .ok (.ifCond .eq 16, 3) := by decide +kernel
theorem dX6_refusesYears_10 : decode prog_8_method_13_code 10 = .ok (.aload_n 2, 1) := by decide +kernel
theorem dX6_refusesYears_11 : decode prog_8_method_13_code 11 = .ok (.iconst 1, 1) := by decide +kernel
theorem dX6_refusesYears_12 : decode prog_8_method_13_code 12 = .ok (.iconst 0, 1) := by decide +kernel
theorem dX6_refusesYears_13 : decode prog_8_method_13_code 13 = .ok (.invokevirtual 70, 3) := by decide +kernel
theorem dX6_refusesYears_16 : decode prog_8_method_13_code 16 = .ok (.ifCond .eq 7, 3) := by decide +kernel
theorem dX6_refusesYears_19 : decode prog_8_method_13_code 19 = .ok (.iconst 1, 1) := by decide +kernel
theorem dX6_refusesYears_20 : decode prog_8_method_13_code 20 = .ok (.goto 4, 3) := by decide +kernel
theorem dX6_refusesYears_23 : decode prog_8_method_13_code 23 = .ok (.iconst 0, 1) := by decide +kernel
theorem dX6_refusesYears_24 : decode prog_8_method_13_code 24 = .ok (.ireturn, 1) := by decide +kernel
theorem nX6_cutMark : zDs yX6_cutMark 3 := ⟨by decide, by decide, by decide +kernel⟩
theorem dX6_cutMark_0 : decode prog_8_method_14_code 0 = .ok (.aload_n 0, 1) := by decide +kernel
theorem dX6_cutMark_1 : decode prog_8_method_14_code 1 = .ok (.iload_n 1, 1) := by decide +kernel
theorem dX6_cutMark_2 : decode prog_8_method_14_code 2 = .ok (.iload_n 2, 1) := by decide +kernel
theorem dX6_cutMark_3 : decode prog_8_method_14_code 3 = .ok (.invokevirtual 102, 3) := by decide +kernel
theorem dX6_cutMark_6 : decode prog_8_method_14_code 6 = .ok (.istore 4, 2) := by decide +kernel
theorem dX6_cutMark_8 : decode prog_8_method_14_code 8 = .ok (.aload_n 0, 1) := by decide +kernel
theorem dX6_cutMark_9 : decode prog_8_method_14_code 9 = .ok (.getfield 37, 3) := by decide +kernel
theorem dX6_cutMark_12 : decode prog_8_method_14_code 12 = .ok (.getfield 105, 3) := by decide +kernel
theorem dX6_cutMark_15 : decode prog_8_method_14_code 15 = .ok (.iload_n 3, 1) := by decide +kernel
theorem dX6_cutMark_16 : decode prog_8_method_14_code 16 = .ok (.invokestatic 109, 3) := by decide +kernel
theorem dX6_cutMark_19 : decode prog_8_method_14_code 19 = .ok (.iconst 2, 1) := by decide +kernel
theorem dX6_cutMark_20 : decode prog_8_method_14_code 20 = .ok (.idiv, 1) := by decide +kernel
theorem dX6_cutMark_21 : decode prog_8_method_14_code 21 = .ok (.iconst 1, 1) := by decide +kernel
theorem dX6_cutMark_22 : decode prog_8_method_14_code 22 = .ok (.iadd, 1) := by decide +kernel
theorem dX6_cutMark_23 : decode prog_8_method_14_code 23 = .ok (.istore 5, 2) := by decide +kernel
theorem dX6_cutMark_25 : decode prog_8_method_14_code 25 = .ok (.aload_n 0, 1) := by decide +kernel
theorem dX6_cutMark_26 : decode prog_8_method_14_code 26 = .ok (.getfield 44, 3) := by decide +kernel
theorem dX6_cutMark_29 : decode prog_8_method_14_code 29 = .ok (.iload_n 1, 1) := by decide +kernel
theorem dX6_cutMark_30 : decode prog_8_method_14_code 30 = .ok (.iload_n 2, 1) := by decide +kernel
theorem dX6_cutMark_31 : decode prog_8_method_14_code 31 = .ok (.invokestatic 127, 3) := by decide +kernel
theorem dX6_cutMark_34 : decode prog_8_method_14_code 34 = .ok (.iload 4, 2) := by decide +kernel
theorem dX6_cutMark_36 : decode prog_8_method_14_code 36 = .ok (.iload 5, 2) := by decide +kernel
theorem dX6_cutMark_38 : decode prog_8_method_14_code 38 = .ok (.aload_n 0, 1) := by decide +kernel
theorem dX6_cutMark_39 : decode prog_8_method_14_code 39 = .ok (.getfield 9, 3) := by decide +kernel
theorem dX6_cutMark_42 : decode prog_8_method_14_code 42 = .ok (.invokevirtual 130, 3) := by decide +kernel
theorem dX6_cutMark_45 : decode prog_8_method_14_code 45 = .ok (.aload_n 0, 1) := by decide +kernel
theorem dX6_cutMark_46 : decode prog_8_method_14_code 46 = .ok (.getfield 37, 3) := by decide +kernel
theorem dX6_cutMark_49 : decode prog_8_method_14_code 49 = .ok (.iload_n 3, 1) := by decide +kernel
theorem dX6_cutMark_50 : decode prog_8_method_14_code 50 = .ok (.aload_n 0, 1) := by decide +kernel
theorem dX6_cutMark_51 : decode prog_8_method_14_code 51 = .ok (.getfield 16, 3) := by decide +kernel
theorem dX6_cutMark_54 : decode prog_8_method_14_code 54 = .ok (.getfield 115, 3) := by decide +kernel
theorem dX6_cutMark_57 : decode prog_8_method_14_code 57 = .ok (.iload_n 1, 1) := by decide +kernel
theorem dX6_cutMark_58 : decode prog_8_method_14_code 58 = .ok (.invokestatic 109, 3) := by decide +kernel
theorem dX6_cutMark_61 : decode prog_8_method_14_code 61 = .ok (.invokevirtual 134, 3) := by decide +kernel
theorem dX6_cutMark_64 : decode prog_8_method_14_code 64 = .ok (.iload 4, 2) := by decide +kernel
theorem dX6_cutMark_66 : decode prog_8_method_14_code 66 = .ok (.ireturn, 1) := by decide +kernel
theorem nX6_passYears : zDs yX6_passYears 1 := ⟨by decide, by decide, by decide +kernel⟩
theorem dX6_passYears_0 : decode prog_8_method_15_code 0 = .ok (.iconst 0, 1) := by decide +kernel
theorem dX6_passYears_1 : decode prog_8_method_15_code 1 = .ok (.istore_n 2, 1) := by decide +kernel
theorem dX6_passYears_2 : decode prog_8_method_15_code 2 = .ok (.iconst 0, 1) := by decide +kernel
theorem dX6_passYears_3 : decode prog_8_method_15_code 3 = .ok (.istore_n 3, 1) := by decide +kernel
theorem dX6_passYears_4 : decode prog_8_method_15_code 4 = .ok (.iload_n 3, 1) := by decide +kernel
theorem dX6_passYears_5 : decode prog_8_method_15_code 5 = .ok (.iload_n 1, 1) := by decide +kernel
theorem dX6_passYears_6 : decode prog_8_method_15_code 6 = .ok (.if_icmp .ge 54, 3) := by decide +kernel
theorem dX6_passYears_9 : decode prog_8_method_15_code 9 = .ok (.aload_n 0, 1) := by decide +kernel
theorem dX6_passYears_10 : decode prog_8_method_15_code 10 = .ok (.dup, 1) := by decide +kernel
theorem dX6_passYears_11 : decode prog_8_method_15_code 11 = .ok (.getfield 9, 3) := by decide +kernel
theorem dX6_passYears_14 : decode prog_8_method_15_code 14 = .ok (.iconst 1, 1) := by decide +kernel
theorem dX6_passYears_15 : decode prog_8_method_15_code 15 = .ok (.iadd, 1) := by decide +kernel
theorem dX6_passYears_16 : decode prog_8_method_15_code 16 = .ok (.putfield 9, 3) := by decide +kernel
theorem dX6_passYears_19 : decode prog_8_method_15_code 19 = .ok (.aload_n 0, 1) := by decide +kernel
theorem dX6_passYears_20 : decode prog_8_method_15_code 20 = .ok (.getfield 9, 3) := by decide +kernel
theorem dX6_passYears_23 : decode prog_8_method_15_code 23 = .ok (.iconst 3, 1) := by decide +kernel
theorem dX6_passYears_24 : decode prog_8_method_15_code 24 = .ok (.irem, 1) := by decide +kernel
theorem dX6_passYears_25 : decode prog_8_method_15_code 25 = .ok (.ifCond .ne 10, 3) := by decide +kernel
theorem dX6_passYears_28 : decode prog_8_method_15_code 28 = .ok (.aload_n 0, 1) := by decide +kernel
theorem dX6_passYears_29 : decode prog_8_method_15_code 29 = .ok (.getfield 16, 3) := by decide +kernel
theorem dX6_passYears_32 : decode prog_8_method_15_code 32 = .ok (.invokevirtual 138, 3) := by decide +kernel
theorem dX6_passYears_35 : decode prog_8_method_15_code 35 = .ok (.aload_n 0, 1) := by decide +kernel
theorem dX6_passYears_36 : decode prog_8_method_15_code 36 = .ok (.getfield 9, 3) := by decide +kernel
theorem dX6_passYears_39 : decode prog_8_method_15_code 39 = .ok (.iconst 5, 1) := by decide +kernel
theorem dX6_passYears_40 : decode prog_8_method_15_code 40 = .ok (.irem, 1) := by decide +kernel
theorem dX6_passYears_41 : decode prog_8_method_15_code 41 = .ok (.ifCond .ne 13, 3) := by decide +kernel
theorem dX6_passYears_44 : decode prog_8_method_15_code 44 = .ok (.iload_n 2, 1) := by decide +kernel
theorem dX6_passYears_45 : decode prog_8_method_15_code 45 = .ok (.aload_n 0, 1) := by decide +kernel
theorem dX6_passYears_46 : decode prog_8_method_15_code 46 = .ok (.getfield 44, 3) := by decide +kernel
theorem dX6_passYears_49 : decode prog_8_method_15_code 49 = .ok (.invokevirtual 141, 3) := by decide +kernel
theorem dX6_passYears_52 : decode prog_8_method_15_code 52 = .ok (.iadd, 1) := by decide +kernel
theorem dX6_passYears_53 : decode prog_8_method_15_code 53 = .ok (.istore_n 2, 1) := by decide +kernel
theorem dX6_passYears_54 : decode prog_8_method_15_code 54 = .ok (.iinc 3 1, 3) := by decide +kernel
theorem dX6_passYears_57 : decode prog_8_method_15_code 57 = .ok (.goto (-53), 3) := by decide +kernel
theorem dX6_passYears_60 : decode prog_8_method_15_code 60 = .ok (.iload_n 2, 1) := by decide +kernel
theorem dX6_passYears_61 : decode prog_8_method_15_code 61 = .ok (.ireturn, 1) := by decide +kernel
theorem nX6_errorAfter : zDs yX6_errorAfter 2 := ⟨by decide, by decide, by decide +kernel⟩
theorem dX6_errorAfter_0 : decode prog_8_method_16_code 0 = .ok (.aload_n 0, 1) := by decide +kernel
theorem dX6_errorAfter_1 : decode prog_8_method_16_code 1 = .ok (.getfield 16, 3) := by decide +kernel
theorem dX6_errorAfter_4 : decode prog_8_method_16_code 4 = .ok (.getfield 145, 3) := by decide +kernel
theorem dX6_errorAfter_7 : decode prog_8_method_16_code 7 = .ok (.iload_n 1, 1) := by decide +kernel
theorem dX6_errorAfter_8 : decode prog_8_method_16_code 8 = .ok (.invokestatic 109, 3) := by decide +kernel
theorem dX6_errorAfter_11 : decode prog_8_method_16_code 11 = .ok (.istore_n 3, 1) := by decide +kernel
theorem dX6_errorAfter_12 : decode prog_8_method_16_code 12 = .ok (.iconst 1, 1) := by decide +kernel
theorem dX6_errorAfter_13 : decode prog_8_method_16_code 13 = .ok (.istore 4, 2) := by decide +kernel
theorem dX6_errorAfter_15 : decode prog_8_method_16_code 15 = .ok (.iload 4, 2) := by decide +kernel
theorem dX6_errorAfter_17 : decode prog_8_method_16_code 17 = .ok (.iload_n 2, 1) := by decide +kernel
theorem dX6_errorAfter_18 : decode prog_8_method_16_code 18 = .ok (.if_icmp .gt 26, 3) := by decide +kernel
theorem dX6_errorAfter_21 : decode prog_8_method_16_code 21 = .ok (.aload_n 0, 1) := by decide +kernel
theorem dX6_errorAfter_22 : decode prog_8_method_16_code 22 = .ok (.getfield 9, 3) := by decide +kernel
theorem dX6_errorAfter_25 : decode prog_8_method_16_code 25 = .ok (.iload 4, 2) := by decide +kernel
theorem dX6_errorAfter_27 : decode prog_8_method_16_code 27 = .ok (.iadd, 1) := by decide +kernel
theorem dX6_errorAfter_28 : decode prog_8_method_16_code 28 = .ok (.iconst 3, 1) := by decide +kernel
theorem dX6_errorAfter_29 : decode prog_8_method_16_code 29 = .ok (.irem, 1) := by decide +kernel
theorem dX6_errorAfter_30 : decode prog_8_method_16_code 30 = .ok (.ifCond .ne 8, 3) := by decide +kernel
theorem dX6_errorAfter_33 : decode prog_8_method_16_code 33 = .ok (.iload_n 3, 1) := by decide +kernel
theorem dX6_errorAfter_34 : decode prog_8_method_16_code 34 = .ok (.invokestatic 148, 3) := by decide +kernel
theorem dX6_errorAfter_37 : decode prog_8_method_16_code 37 = .ok (.istore_n 3, 1) := by decide +kernel
theorem dX6_errorAfter_38 : decode prog_8_method_16_code 38 = .ok (.iinc 4 1, 3) := by decide +kernel
theorem dX6_errorAfter_41 : decode prog_8_method_16_code 41 = .ok (.goto (-26), 3) := by decide +kernel
theorem dX6_errorAfter_44 : decode prog_8_method_16_code 44 = .ok (.iload_n 3, 1) := by decide +kernel
theorem dX6_errorAfter_45 : decode prog_8_method_16_code 45 = .ok (.ireturn, 1) := by decide +kernel
theorem nX6_yearsLeft : zDs yX6_yearsLeft 2 := ⟨by decide, by decide, by decide +kernel⟩
theorem dX6_yearsLeft_0 : decode prog_8_method_17_code 0 = .ok (.aload_n 0, 1) := by decide +kernel
theorem dX6_yearsLeft_1 : decode prog_8_method_17_code 1 = .ok (.getfield 9, 3) := by decide +kernel
theorem dX6_yearsLeft_4 : decode prog_8_method_17_code 4 = .ok (.iconst 5, 1) := by decide +kernel
theorem dX6_yearsLeft_5 : decode prog_8_method_17_code 5 = .ok (.idiv, 1) := by decide +kernel
theorem dX6_yearsLeft_6 : decode prog_8_method_17_code 6 = .ok (.aload_n 0, 1) := by decide +kernel
theorem dX6_yearsLeft_7 : decode prog_8_method_17_code 7 = .ok (.getfield 44, 3) := by decide +kernel
theorem dX6_yearsLeft_10 : decode prog_8_method_17_code 10 = .ok (.iload_n 1, 1) := by decide +kernel
theorem dX6_yearsLeft_11 : decode prog_8_method_17_code 11 = .ok (.iload_n 2, 1) := by decide +kernel
theorem dX6_yearsLeft_12 : decode prog_8_method_17_code 12 = .ok (.invokevirtual 151, 3) := by decide +kernel
theorem dX6_yearsLeft_15 : decode prog_8_method_17_code 15 = .ok (.iadd, 1) := by decide +kernel
theorem dX6_yearsLeft_16 : decode prog_8_method_17_code 16 = .ok (.iconst 5, 1) := by decide +kernel
theorem dX6_yearsLeft_17 : decode prog_8_method_17_code 17 = .ok (.imul, 1) := by decide +kernel
theorem dX6_yearsLeft_18 : decode prog_8_method_17_code 18 = .ok (.istore_n 3, 1) := by decide +kernel
theorem dX6_yearsLeft_19 : decode prog_8_method_17_code 19 = .ok (.iload_n 3, 1) := by decide +kernel
theorem dX6_yearsLeft_20 : decode prog_8_method_17_code 20 = .ok (.aload_n 0, 1) := by decide +kernel
theorem dX6_yearsLeft_21 : decode prog_8_method_17_code 21 = .ok (.getfield 9, 3) := by decide +kernel
theorem dX6_yearsLeft_24 : decode prog_8_method_17_code 24 = .ok (.isub, 1) := by decide +kernel
theorem dX6_yearsLeft_25 : decode prog_8_method_17_code 25 = .ok (.ireturn, 1) := by decide +kernel
theorem nX6_levelAt : zDs yX6_levelAt 2 := ⟨by decide, by decide, by decide +kernel⟩
theorem dX6_levelAt_0 : decode prog_8_method_18_code 0 = .ok (.aload_n 0, 1) := by decide +kernel
theorem dX6_levelAt_1 : decode prog_8_method_18_code 1 = .ok (.getfield 23, 3) := by decide +kernel
theorem dX6_levelAt_4 : decode prog_8_method_18_code 4 = .ok (.getfield 154, 3) := by decide +kernel
theorem dX6_levelAt_7 : decode prog_8_method_18_code 7 = .ok (.iload_n 2, 1) := by decide +kernel
theorem dX6_levelAt_8 : decode prog_8_method_18_code 8 = .ok (.invokestatic 109, 3) := by decide +kernel
theorem dX6_levelAt_11 : decode prog_8_method_18_code 11 = .ok (.aload_n 0, 1) := by decide +kernel
theorem dX6_levelAt_12 : decode prog_8_method_18_code 12 = .ok (.getfield 16, 3) := by decide +kernel
theorem dX6_levelAt_15 : decode prog_8_method_18_code 15 = .ok (.iload_n 1, 1) := by decide +kernel
theorem dX6_levelAt_16 : decode prog_8_method_18_code 16 = .ok (.invokevirtual 157, 3) := by decide +kernel
theorem dX6_levelAt_19 : decode prog_8_method_18_code 19 = .ok (.isub, 1) := by decide +kernel
theorem dX6_levelAt_20 : decode prog_8_method_18_code 20 = .ok (.ireturn, 1) := by decide +kernel
theorem nX6_readingAt : zDs yX6_readingAt 2 := ⟨by decide, by decide, by decide +kernel⟩
theorem dX6_readingAt_0 : decode prog_8_method_19_code 0 = .ok (.aload_n 0, 1) := by decide +kernel
theorem dX6_readingAt_1 : decode prog_8_method_19_code 1 = .ok (.iload_n 1, 1) := by decide +kernel
theorem dX6_readingAt_2 : decode prog_8_method_19_code 2 = .ok (.iload_n 2, 1) := by decide +kernel
theorem dX6_readingAt_3 : decode prog_8_method_19_code 3 = .ok (.invokevirtual 99, 3) := by decide +kernel
theorem dX6_readingAt_6 : decode prog_8_method_19_code 6 = .ok (.aload_n 0, 1) := by decide +kernel
theorem dX6_readingAt_7 : decode prog_8_method_19_code 7 = .ok (.getfield 16, 3) := by decide +kernel
theorem dX6_readingAt_10 : decode prog_8_method_19_code 10 = .ok (.getfield 145, 3) := by decide +kernel
theorem dX6_readingAt_13 : decode prog_8_method_19_code 13 = .ok (.iload_n 1, 1) := by decide +kernel
theorem dX6_readingAt_14 : decode prog_8_method_19_code 14 = .ok (.invokestatic 109, 3) := by decide +kernel
theorem dX6_readingAt_17 : decode prog_8_method_19_code 17 = .ok (.iadd, 1) := by decide +kernel
theorem dX6_readingAt_18 : decode prog_8_method_19_code 18 = .ok (.aload_n 0, 1) := by decide +kernel
theorem dX6_readingAt_19 : decode prog_8_method_19_code 19 = .ok (.getfield 30, 3) := by decide +kernel
theorem dX6_readingAt_22 : decode prog_8_method_19_code 22 = .ok (.aload_n 0, 1) := by decide +kernel
theorem dX6_readingAt_23 : decode prog_8_method_19_code 23 = .ok (.getfield 9, 3) := by decide +kernel
theorem dX6_readingAt_26 : decode prog_8_method_19_code 26 = .ok (.invokevirtual 160, 3) := by decide +kernel
theorem dX6_readingAt_29 : decode prog_8_method_19_code 29 = .ok (.iadd, 1) := by decide +kernel
theorem dX6_readingAt_30 : decode prog_8_method_19_code 30 = .ok (.ireturn, 1) := by decide +kernel
theorem nX6_trueHeight : zDs yX6_trueHeight 2 := ⟨by decide, by decide, by decide +kernel⟩
theorem dX6_trueHeight_0 : decode prog_8_method_20_code 0 = .ok (.aload_n 0, 1) := by decide +kernel
theorem dX6_trueHeight_1 : decode prog_8_method_20_code 1 = .ok (.getfield 44, 3) := by decide +kernel
theorem dX6_trueHeight_4 : decode prog_8_method_20_code 4 = .ok (.iload_n 1, 1) := by decide +kernel
theorem dX6_trueHeight_5 : decode prog_8_method_20_code 5 = .ok (.iload_n 2, 1) := by decide +kernel
theorem dX6_trueHeight_6 : decode prog_8_method_20_code 6 = .ok (.invokevirtual 95, 3) := by decide +kernel
theorem dX6_trueHeight_9 : decode prog_8_method_20_code 9 = .ok (.aload_n 0, 1) := by decide +kernel
theorem dX6_trueHeight_10 : decode prog_8_method_20_code 10 = .ok (.getfield 30, 3) := by decide +kernel
theorem dX6_trueHeight_13 : decode prog_8_method_20_code 13 = .ok (.aload_n 0, 1) := by decide +kernel
theorem dX6_trueHeight_14 : decode prog_8_method_20_code 14 = .ok (.getfield 44, 3) := by decide +kernel
theorem dX6_trueHeight_17 : decode prog_8_method_20_code 17 = .ok (.iload_n 1, 1) := by decide +kernel
theorem dX6_trueHeight_18 : decode prog_8_method_20_code 18 = .ok (.iload_n 2, 1) := by decide +kernel
theorem dX6_trueHeight_19 : decode prog_8_method_20_code 19 = .ok (.invokevirtual 163, 3) := by decide +kernel
theorem dX6_trueHeight_22 : decode prog_8_method_20_code 22 = .ok (.invokevirtual 160, 3) := by decide +kernel
theorem dX6_trueHeight_25 : decode prog_8_method_20_code 25 = .ok (.isub, 1) := by decide +kernel
theorem dX6_trueHeight_26 : decode prog_8_method_20_code 26 = .ok (.ireturn, 1) := by decide +kernel
theorem nX6_areInDoubt : zDs yX6_areInDoubt 3 := ⟨by decide, by decide, by decide +kernel⟩
theorem dX6_areInDoubt_0 : decode prog_8_method_21_code 0 = .ok (.iload_n 2, 1) := by decide +kernel
theorem dX6_areInDoubt_1 : decode prog_8_method_21_code 1 = .ok (.iload_n 3, 1) := by decide +kernel
theorem dX6_areInDoubt_2 : decode prog_8_method_21_code 2 = .ok (.if_icmp .eq 27, 3) := by decide +kernel
theorem dX6_areInDoubt_5 : decode prog_8_method_21_code 5 = .ok (.aload_n 0, 1) := by decide +kernel
theorem dX6_areInDoubt_6 : decode prog_8_method_21_code 6 = .ok (.getfield 44, 3) := by decide +kernel
theorem dX6_areInDoubt_9 : decode prog_8_method_21_code 9 = .ok (.iload_n 1, 1) := by decide +kernel
theorem dX6_areInDoubt_10 : decode prog_8_method_21_code 10 = .ok (.iload_n 2, 1) := by decide +kernel
theorem dX6_areInDoubt_11 : decode prog_8_method_21_code 11 = .ok (.invokevirtual 93, 3) := by decide +kernel
theorem dX6_areInDoubt_14 : decode prog_8_method_21_code 14 = .ok (.ifCond .eq 15, 3) := by decide +kernel
theorem dX6_areInDoubt_17 : decode prog_8_method_21_code 17 = .ok (.aload_n 0, 1) := by decide +kernel
theorem dX6_areInDoubt_18 : decode prog_8_method_21_code 18 = .ok (.getfield 44, 3) := by decide +kernel
theorem dX6_areInDoubt_21 : decode prog_8_method_21_code 21 = .ok (.iload_n 1, 1) := by decide +kernel
theorem dX6_areInDoubt_22 : decode prog_8_method_21_code 22 = .ok (.iload_n 3, 1) := by decide +kernel
theorem dX6_areInDoubt_23 : decode prog_8_method_21_code 23 = .ok (.invokevirtual 93, 3) := by decide +kernel
theorem dX6_areInDoubt_26 : decode prog_8_method_21_code 26 = .ok (.ifCond .ne 5, 3) := by decide +kernel
theorem dX6_areInDoubt_29 : decode prog_8_method_21_code 29 = .ok (.iconst 0, 1) := by decide +kernel
theorem dX6_areInDoubt_30 : decode prog_8_method_21_code 30 = .ok (.ireturn, 1) := by decide +kernel
theorem dX6_areInDoubt_31 : decode prog_8_method_21_code 31 = .ok (.aload_n 0, 1) := by decide +kernel
theorem dX6_areInDoubt_32 : decode prog_8_method_21_code 32 = .ok (.getfield 23, 3) := by decide +kernel
theorem dX6_areInDoubt_35 : decode prog_8_method_21_code 35 = .ok (.getfield 154, 3) := by decide +kernel
theorem dX6_areInDoubt_38 : decode prog_8_method_21_code 38 = .ok (.iload_n 2, 1) := by decide +kernel
theorem dX6_areInDoubt_39 : decode prog_8_method_21_code 39 = .ok (.invokestatic 109, 3) := by decide +kernel
theorem dX6_areInDoubt_42 : decode prog_8_method_21_code 42 = .ok (.aload_n 0, 1) := by decide +kernel
theorem dX6_areInDoubt_43 : decode prog_8_method_21_code 43 = .ok (.getfield 23, 3) := by decide +kernel
theorem dX6_areInDoubt_46 : decode prog_8_method_21_code 46 = .ok (.getfield 154, 3) := by decide +kernel
theorem dX6_areInDoubt_49 : decode prog_8_method_21_code 49 = .ok (.iload_n 3, 1) := by decide +kernel
theorem dX6_areInDoubt_50 : decode prog_8_method_21_code 50 = .ok (.invokestatic 109, 3) := by decide +kernel
theorem dX6_areInDoubt_53 : decode prog_8_method_21_code 53 = .ok (.isub, 1) := by decide +kernel
theorem dX6_areInDoubt_54 : decode prog_8_method_21_code 54 = .ok (.istore 4, 2) := by decide +kernel
theorem dX6_areInDoubt_56 : decode prog_8_method_21_code 56 = .ok (.aload_n 0, 1) := by decide +kernel
theorem dX6_areInDoubt_57 : decode prog_8_method_21_code 57 = .ok (.iload_n 1, 1) := by decide +kernel
theorem dX6_areInDoubt_58 : decode prog_8_method_21_code 58 = .ok (.iload_n 2, 1) := by decide +kernel
theorem dX6_areInDoubt_59 : decode prog_8_method_21_code 59 = .ok (.invokevirtual 166, 3) := by decide +kernel
theorem dX6_areInDoubt_62 : decode prog_8_method_21_code 62 = .ok (.aload_n 0, 1) := by decide +kernel
theorem dX6_areInDoubt_63 : decode prog_8_method_21_code 63 = .ok (.iload_n 1, 1) := by decide +kernel
theorem dX6_areInDoubt_64 : decode prog_8_method_21_code 64 = .ok (.iload_n 3, 1) := by decide +kernel
theorem dX6_areInDoubt_65 : decode prog_8_method_21_code 65 = .ok (.invokevirtual 166, 3) := by decide +kernel
theorem dX6_areInDoubt_68 : decode prog_8_method_21_code 68 = .ok (.isub, 1) := by decide +kernel
theorem dX6_areInDoubt_69 : decode prog_8_method_21_code 69 = .ok (.istore 5, 2) := by decide +kernel
theorem dX6_areInDoubt_71 : decode prog_8_method_21_code 71 = .ok (.iload 4, 2) := by decide +kernel
theorem dX6_areInDoubt_73 : decode prog_8_method_21_code 73 = .ok (.ifCond .ne 14, 3) := by decide +kernel
theorem dX6_areInDoubt_76 : decode prog_8_method_21_code 76 = .ok (.iload 5, 2) := by decide +kernel
theorem dX6_areInDoubt_78 : decode prog_8_method_21_code 78 = .ok (.ifCond .eq 7, 3) := by decide +kernel
theorem dX6_areInDoubt_81 : decode prog_8_method_21_code 81 = .ok (.iconst 1, 1) := by decide +kernel
theorem dX6_areInDoubt_82 : decode prog_8_method_21_code 82 = .ok (.goto 4, 3) := by decide +kernel
theorem dX6_areInDoubt_85 : decode prog_8_method_21_code 85 = .ok (.iconst 0, 1) := by decide +kernel
theorem dX6_areInDoubt_86 : decode prog_8_method_21_code 86 = .ok (.ireturn, 1) := by decide +kernel
theorem dX6_areInDoubt_87 : decode prog_8_method_21_code 87 = .ok (.iload 4, 2) := by decide +kernel
theorem dX6_areInDoubt_89 : decode prog_8_method_21_code 89 = .ok (.ifCond .le 16, 3) := by decide +kernel
theorem dX6_areInDoubt_92 : decode prog_8_method_21_code 92 = .ok (.iload 5, 2) := by decide +kernel
theorem dX6_areInDoubt_94 : decode prog_8_method_21_code 94 = .ok (.ifCond .gt 7, 3) := by decide +kernel
theorem dX6_areInDoubt_97 : decode prog_8_method_21_code 97 = .ok (.iconst 1, 1) := by decide +kernel
theorem dX6_areInDoubt_98 : decode prog_8_method_21_code 98 = .ok (.goto 17, 3) := by decide +kernel
theorem dX6_areInDoubt_101 : decode prog_8_method_21_code 101 = .ok (.iconst 0, 1) := by decide +kernel
theorem dX6_areInDoubt_102 : decode prog_8_method_21_code 102 = .ok (.goto 13, 3) := by decide +kernel
theorem dX6_areInDoubt_105 : decode prog_8_method_21_code 105 = .ok (.iload 5, 2) := by decide +kernel
theorem dX6_areInDoubt_107 : decode prog_8_method_21_code 107 = .ok (.ifCond .lt 7, 3) := by decide +kernel
theorem dX6_areInDoubt_110 : decode prog_8_method_21_code 110 = .ok (.iconst 1, 1) := by decide +kernel
theorem dX6_areInDoubt_111 : decode prog_8_method_21_code 111 = .ok (.goto 4, 3) := by decide +kernel
theorem dX6_areInDoubt_114 : decode prog_8_method_21_code 114 = .ok (.iconst 0, 1) := by decide +kernel
theorem dX6_areInDoubt_115 : decode prog_8_method_21_code 115 = .ok (.ireturn, 1) := by decide +kernel
theorem nX6_doubtsOnStone : zDs yX6_doubtsOnStone 1 := ⟨by decide, by decide, by decide +kernel⟩
theorem dX6_doubtsOnStone_0 : decode prog_8_method_22_code 0 = .ok (.iconst 0, 1) := by decide +kernel
theorem dX6_doubtsOnStone_1 : decode prog_8_method_22_code 1 = .ok (.istore_n 2, 1) := by decide +kernel
theorem dX6_doubtsOnStone_2 : decode prog_8_method_22_code 2 = .ok (.iconst 0, 1) := by decide +kernel
theorem dX6_doubtsOnStone_3 : decode prog_8_method_22_code 3 = .ok (.istore_n 3, 1) := by decide +kernel
theorem dX6_doubtsOnStone_4 : decode prog_8_method_22_code 4 = .ok (.iload_n 3, 1) := by decide +kernel
theorem dX6_doubtsOnStone_5 : decode prog_8_method_22_code 5 = .ok (.aload_n 0, 1) := by decide +kernel
theorem dX6_doubtsOnStone_6 : decode prog_8_method_22_code 6 = .ok (.getfield 23, 3) := by decide +kernel
theorem dX6_doubtsOnStone_9 : decode prog_8_method_22_code 9 = .ok (.getfield 81, 3) := by decide +kernel
theorem dX6_doubtsOnStone_12 : decode prog_8_method_22_code 12 = .ok (.if_icmp .ge 43, 3) := by decide +kernel
theorem dX6_doubtsOnStone_15 : decode prog_8_method_22_code 15 = .ok (.iconst 0, 1) := by decide +kernel
theorem dX6_doubtsOnStone_16 : decode prog_8_method_22_code 16 = .ok (.istore 4, 2) := by decide +kernel
theorem dX6_doubtsOnStone_18 : decode prog_8_method_22_code 18 = .ok (.iload 4, 2) := by decide +kernel
theorem dX6_doubtsOnStone_20 : decode prog_8_method_22_code 20 = .ok (.iload_n 3, 1) := by decide +kernel
theorem dX6_doubtsOnStone_21 : decode prog_8_method_22_code 21 = .ok (.if_icmp .ge 28, 3) := by decide +kernel
theorem dX6_doubtsOnStone_24 : decode prog_8_method_22_code 24 = .ok (.iload_n 2, 1) := by decide +kernel
theorem dX6_doubtsOnStone_25 : decode prog_8_method_22_code 25 = .ok (.aload_n 0, 1) := by decide +kernel
theorem dX6_doubtsOnStone_26 : decode prog_8_method_22_code 26 = .ok (.iload_n 1, 1) := by decide +kernel
theorem dX6_doubtsOnStone_27 : decode prog_8_method_22_code 27 = .ok (.iload_n 3, 1) := by decide +kernel
theorem dX6_doubtsOnStone_28 : decode prog_8_method_22_code 28 = .ok (.iload 4, 2) := by decide +kernel
theorem dX6_doubtsOnStone_30 : decode prog_8_method_22_code 30 = .ok (.invokevirtual 169, 3) := by decide +kernel
theorem dX6_doubtsOnStone_33 : decode prog_8_method_22_code 33 = .ok (.ifCond .eq 7, 3) := by decide +kernel
theorem dX6_doubtsOnStone_36 : decode prog_8_method_22_code 36 = .ok (.iconst 1, 1) := by decide +kernel
theorem dX6_doubtsOnStone_37 : decode prog_8_method_22_code 37 = .ok (.goto 4, 3) := by decide +kernel
theorem dX6_doubtsOnStone_40 : decode prog_8_method_22_code 40 = .ok (.iconst 0, 1) := by decide +kernel
theorem dX6_doubtsOnStone_41 : decode prog_8_method_22_code 41 = .ok (.iadd, 1) := by decide +kernel
theorem dX6_doubtsOnStone_42 : decode prog_8_method_22_code 42 = .ok (.istore_n 2, 1) := by decide +kernel
theorem dX6_doubtsOnStone_43 : decode prog_8_method_22_code 43 = .ok (.iinc 4 1, 3) := by decide +kernel
theorem dX6_doubtsOnStone_46 : decode prog_8_method_22_code 46 = .ok (.goto (-28), 3) := by decide +kernel
theorem dX6_doubtsOnStone_49 : decode prog_8_method_22_code 49 = .ok (.iinc 3 1, 3) := by decide +kernel
theorem dX6_doubtsOnStone_52 : decode prog_8_method_22_code 52 = .ok (.goto (-48), 3) := by decide +kernel
theorem dX6_doubtsOnStone_55 : decode prog_8_method_22_code 55 = .ok (.iload_n 2, 1) := by decide +kernel
theorem dX6_doubtsOnStone_56 : decode prog_8_method_22_code 56 = .ok (.ireturn, 1) := by decide +kernel
theorem nX6_doubtsOfFlood : zDs yX6_doubtsOfFlood 1 := ⟨by decide, by decide, by decide +kernel⟩
theorem dX6_doubtsOfFlood_0 : decode prog_8_method_23_code 0 = .ok (.iconst 0, 1) := by decide +kernel
theorem dX6_doubtsOfFlood_1 : decode prog_8_method_23_code 1 = .ok (.istore_n 2, 1) := by decide +kernel
theorem dX6_doubtsOfFlood_2 : decode prog_8_method_23_code 2 = .ok (.iconst 0, 1) := by decide +kernel
theorem dX6_doubtsOfFlood_3 : decode prog_8_method_23_code 3 = .ok (.istore_n 3, 1) := by decide +kernel
theorem dX6_doubtsOfFlood_4 : decode prog_8_method_23_code 4 = .ok (.iload_n 3, 1) := by decide +kernel
theorem dX6_doubtsOfFlood_5 : decode prog_8_method_23_code 5 = .ok (.aload_n 0, 1) := by decide +kernel
theorem dX6_doubtsOfFlood_6 : decode prog_8_method_23_code 6 = .ok (.getfield 16, 3) := by decide +kernel
theorem dX6_doubtsOfFlood_9 : decode prog_8_method_23_code 9 = .ok (.getfield 74, 3) := by decide +kernel
theorem dX6_doubtsOfFlood_12 : decode prog_8_method_23_code 12 = .ok (.if_icmp .ge 49, 3) := by decide +kernel
theorem dX6_doubtsOfFlood_15 : decode prog_8_method_23_code 15 = .ok (.iconst 0, 1) := by decide +kernel
theorem dX6_doubtsOfFlood_16 : decode prog_8_method_23_code 16 = .ok (.istore 4, 2) := by decide +kernel
theorem dX6_doubtsOfFlood_18 : decode prog_8_method_23_code 18 = .ok (.iload 4, 2) := by decide +kernel
theorem dX6_doubtsOfFlood_20 : decode prog_8_method_23_code 20 = .ok (.aload_n 0, 1) := by decide +kernel
theorem dX6_doubtsOfFlood_21 : decode prog_8_method_23_code 21 = .ok (.getfield 23, 3) := by decide +kernel
theorem dX6_doubtsOfFlood_24 : decode prog_8_method_23_code 24 = .ok (.getfield 81, 3) := by decide +kernel
theorem dX6_doubtsOfFlood_27 : decode prog_8_method_23_code 27 = .ok (.if_icmp .ge 28, 3) := by decide +kernel
theorem dX6_doubtsOfFlood_30 : decode prog_8_method_23_code 30 = .ok (.iload_n 2, 1) := by decide +kernel
theorem dX6_doubtsOfFlood_31 : decode prog_8_method_23_code 31 = .ok (.aload_n 0, 1) := by decide +kernel
theorem dX6_doubtsOfFlood_32 : decode prog_8_method_23_code 32 = .ok (.iload_n 3, 1) := by decide +kernel
theorem dX6_doubtsOfFlood_33 : decode prog_8_method_23_code 33 = .ok (.iload_n 1, 1) := by decide +kernel
theorem dX6_doubtsOfFlood_34 : decode prog_8_method_23_code 34 = .ok (.iload 4, 2) := by decide +kernel
theorem dX6_doubtsOfFlood_36 : decode prog_8_method_23_code 36 = .ok (.invokevirtual 169, 3) := by decide +kernel
theorem dX6_doubtsOfFlood_39 : decode prog_8_method_23_code 39 = .ok (.ifCond .eq 7, 3) := by decide +kernel
theorem dX6_doubtsOfFlood_42 : decode prog_8_method_23_code 42 = .ok (.iconst 1, 1) := by decide +kernel
theorem dX6_doubtsOfFlood_43 : decode prog_8_method_23_code 43 = .ok (.goto 4, 3) := by decide +kernel
theorem dX6_doubtsOfFlood_46 : decode prog_8_method_23_code 46 = .ok (.iconst 0, 1) := by decide +kernel
theorem dX6_doubtsOfFlood_47 : decode prog_8_method_23_code 47 = .ok (.iadd, 1) := by decide +kernel
theorem dX6_doubtsOfFlood_48 : decode prog_8_method_23_code 48 = .ok (.istore_n 2, 1) := by decide +kernel
theorem dX6_doubtsOfFlood_49 : decode prog_8_method_23_code 49 = .ok (.iinc 4 1, 3) := by decide +kernel
theorem dX6_doubtsOfFlood_52 : decode prog_8_method_23_code 52 = .ok (.goto (-34), 3) := by decide +kernel
theorem dX6_doubtsOfFlood_55 : decode prog_8_method_23_code 55 = .ok (.iinc 3 1, 3) := by decide +kernel
theorem dX6_doubtsOfFlood_58 : decode prog_8_method_23_code 58 = .ok (.goto (-54), 3) := by decide +kernel
theorem dX6_doubtsOfFlood_61 : decode prog_8_method_23_code 61 = .ok (.iload_n 2, 1) := by decide +kernel
theorem dX6_doubtsOfFlood_62 : decode prog_8_method_23_code 62 = .ok (.ireturn, 1) := by decide +kernel
theorem nX6_doubtsByStones : zDs yX6_doubtsByStones 0 := ⟨by decide, by decide, by decide +kernel⟩
theorem dX6_doubtsByStones_0 : decode prog_8_method_24_code 0 = .ok (.iconst 0, 1) := by decide +kernel
theorem dX6_doubtsByStones_1 : decode prog_8_method_24_code 1 = .ok (.istore_n 1, 1) := by decide +kernel
theorem dX6_doubtsByStones_2 : decode prog_8_method_24_code 2 = .ok (.iconst 0, 1) := by decide +kernel
theorem dX6_doubtsByStones_3 : decode prog_8_method_24_code 3 = .ok (.istore_n 2, 1) := by decide +kernel
theorem dX6_doubtsByStones_4 : decode prog_8_method_24_code 4 = .ok (.iload_n 2, 1) := by decide +kernel
theorem dX6_doubtsByStones_5 : decode prog_8_method_24_code 5 = .ok (.aload_n 0, 1) := by decide +kernel
theorem dX6_doubtsByStones_6 : decode prog_8_method_24_code 6 = .ok (.getfield 16, 3) := by decide +kernel
theorem dX6_doubtsByStones_9 : decode prog_8_method_24_code 9 = .ok (.getfield 74, 3) := by decide +kernel
theorem dX6_doubtsByStones_12 : decode prog_8_method_24_code 12 = .ok (.if_icmp .ge 17, 3) := by decide +kernel
theorem dX6_doubtsByStones_15 : decode prog_8_method_24_code 15 = .ok (.iload_n 1, 1) := by decide +kernel
theorem dX6_doubtsByStones_16 : decode prog_8_method_24_code 16 = .ok (.aload_n 0, 1) := by decide +kernel
theorem dX6_doubtsByStones_17 : decode prog_8_method_24_code 17 = .ok (.iload_n 2, 1) := by decide +kernel
theorem dX6_doubtsByStones_18 : decode prog_8_method_24_code 18 = .ok (.invokevirtual 172, 3) := by decide +kernel
theorem dX6_doubtsByStones_21 : decode prog_8_method_24_code 21 = .ok (.iadd, 1) := by decide +kernel
theorem dX6_doubtsByStones_22 : decode prog_8_method_24_code 22 = .ok (.istore_n 1, 1) := by decide +kernel
theorem dX6_doubtsByStones_23 : decode prog_8_method_24_code 23 = .ok (.iinc 2 1, 3) := by decide +kernel
theorem dX6_doubtsByStones_26 : decode prog_8_method_24_code 26 = .ok (.goto (-22), 3) := by decide +kernel
theorem dX6_doubtsByStones_29 : decode prog_8_method_24_code 29 = .ok (.iload_n 1, 1) := by decide +kernel
theorem dX6_doubtsByStones_30 : decode prog_8_method_24_code 30 = .ok (.ireturn, 1) := by decide +kernel
theorem nX6_doubtsByFloods : zDs yX6_doubtsByFloods 0 := ⟨by decide, by decide, by decide +kernel⟩
theorem dX6_doubtsByFloods_0 : decode prog_8_method_25_code 0 = .ok (.iconst 0, 1) := by decide +kernel
theorem dX6_doubtsByFloods_1 : decode prog_8_method_25_code 1 = .ok (.istore_n 1, 1) := by decide +kernel
theorem dX6_doubtsByFloods_2 : decode prog_8_method_25_code 2 = .ok (.iconst 0, 1) := by decide +kernel
theorem dX6_doubtsByFloods_3 : decode prog_8_method_25_code 3 = .ok (.istore_n 2, 1) := by decide +kernel
theorem dX6_doubtsByFloods_4 : decode prog_8_method_25_code 4 = .ok (.iload_n 2, 1) := by decide +kernel
theorem dX6_doubtsByFloods_5 : decode prog_8_method_25_code 5 = .ok (.aload_n 0, 1) := by decide +kernel
theorem dX6_doubtsByFloods_6 : decode prog_8_method_25_code 6 = .ok (.getfield 23, 3) := by decide +kernel
theorem dX6_doubtsByFloods_9 : decode prog_8_method_25_code 9 = .ok (.getfield 81, 3) := by decide +kernel
theorem dX6_doubtsByFloods_12 : decode prog_8_method_25_code 12 = .ok (.if_icmp .ge 17, 3) := by decide +kernel
theorem dX6_doubtsByFloods_15 : decode prog_8_method_25_code 15 = .ok (.iload_n 1, 1) := by decide +kernel
theorem dX6_doubtsByFloods_16 : decode prog_8_method_25_code 16 = .ok (.aload_n 0, 1) := by decide +kernel
theorem dX6_doubtsByFloods_17 : decode prog_8_method_25_code 17 = .ok (.iload_n 2, 1) := by decide +kernel
theorem dX6_doubtsByFloods_18 : decode prog_8_method_25_code 18 = .ok (.invokevirtual 175, 3) := by decide +kernel
theorem dX6_doubtsByFloods_21 : decode prog_8_method_25_code 21 = .ok (.iadd, 1) := by decide +kernel
theorem dX6_doubtsByFloods_22 : decode prog_8_method_25_code 22 = .ok (.istore_n 1, 1) := by decide +kernel
theorem dX6_doubtsByFloods_23 : decode prog_8_method_25_code 23 = .ok (.iinc 2 1, 3) := by decide +kernel
theorem dX6_doubtsByFloods_26 : decode prog_8_method_25_code 26 = .ok (.goto (-22), 3) := by decide +kernel
theorem dX6_doubtsByFloods_29 : decode prog_8_method_25_code 29 = .ok (.iload_n 1, 1) := by decide +kernel
theorem dX6_doubtsByFloods_30 : decode prog_8_method_25_code 30 = .ok (.iconst 2, 1) := by decide +kernel
theorem dX6_doubtsByFloods_31 : decode prog_8_method_25_code 31 = .ok (.idiv, 1) := by decide +kernel
theorem dX6_doubtsByFloods_32 : decode prog_8_method_25_code 32 = .ok (.ireturn, 1) := by decide +kernel
theorem nX6_stonesInDoubt : zDs yX6_stonesInDoubt 0 := ⟨by decide, by decide, by decide +kernel⟩
theorem dX6_stonesInDoubt_0 : decode prog_8_method_26_code 0 = .ok (.iconst 0, 1) := by decide +kernel
theorem dX6_stonesInDoubt_1 : decode prog_8_method_26_code 1 = .ok (.istore_n 1, 1) := by decide +kernel
theorem dX6_stonesInDoubt_2 : decode prog_8_method_26_code 2 = .ok (.iconst 0, 1) := by decide +kernel
theorem dX6_stonesInDoubt_3 : decode prog_8_method_26_code 3 = .ok (.istore_n 2, 1) := by decide +kernel
theorem dX6_stonesInDoubt_4 : decode prog_8_method_26_code 4 = .ok (.iload_n 2, 1) := by decide +kernel
theorem dX6_stonesInDoubt_5 : decode prog_8_method_26_code 5 = .ok (.aload_n 0, 1) := by decide +kernel
theorem dX6_stonesInDoubt_6 : decode prog_8_method_26_code 6 = .ok (.getfield 16, 3) := by decide +kernel
theorem dX6_stonesInDoubt_9 : decode prog_8_method_26_code 9 = .ok (.getfield 74, 3) := by decide +kernel
theorem dX6_stonesInDoubt_12 : decode prog_8_method_26_code 12 = .ok (.if_icmp .ge 25, 3) := by decide +kernel
theorem dX6_stonesInDoubt_15 : decode prog_8_method_26_code 15 = .ok (.iload_n 1, 1) := by decide +kernel
theorem dX6_stonesInDoubt_16 : decode prog_8_method_26_code 16 = .ok (.aload_n 0, 1) := by decide +kernel
theorem dX6_stonesInDoubt_17 : decode prog_8_method_26_code 17 = .ok (.iload_n 2, 1) := by decide +kernel
theorem dX6_stonesInDoubt_18 : decode prog_8_method_26_code 18 = .ok (.invokevirtual 172, 3) := by decide +kernel
theorem dX6_stonesInDoubt_21 : decode prog_8_method_26_code 21 = .ok (.ifCond .le 7, 3) := by decide +kernel
theorem dX6_stonesInDoubt_24 : decode prog_8_method_26_code 24 = .ok (.iconst 1, 1) := by decide +kernel
theorem dX6_stonesInDoubt_25 : decode prog_8_method_26_code 25 = .ok (.goto 4, 3) := by decide +kernel
theorem dX6_stonesInDoubt_28 : decode prog_8_method_26_code 28 = .ok (.iconst 0, 1) := by decide +kernel
theorem dX6_stonesInDoubt_29 : decode prog_8_method_26_code 29 = .ok (.iadd, 1) := by decide +kernel
theorem dX6_stonesInDoubt_30 : decode prog_8_method_26_code 30 = .ok (.istore_n 1, 1) := by decide +kernel
theorem dX6_stonesInDoubt_31 : decode prog_8_method_26_code 31 = .ok (.iinc 2 1, 3) := by decide +kernel
theorem dX6_stonesInDoubt_34 : decode prog_8_method_26_code 34 = .ok (.goto (-30), 3) := by decide +kernel
theorem dX6_stonesInDoubt_37 : decode prog_8_method_26_code 37 = .ok (.iload_n 1, 1) := by decide +kernel
theorem dX6_stonesInDoubt_38 : decode prog_8_method_26_code 38 = .ok (.ireturn, 1) := by decide +kernel
theorem nX6_creditOf : zDs yX6_creditOf 1 := ⟨by decide, by decide, by decide +kernel⟩
theorem dX6_creditOf_0 : decode prog_8_method_27_code 0 = .ok (.iconst 0, 1) := by decide +kernel
theorem dX6_creditOf_1 : decode prog_8_method_27_code 1 = .ok (.bipush 10, 2) := by decide +kernel
theorem dX6_creditOf_3 : decode prog_8_method_27_code 3 = .ok (.aload_n 0, 1) := by decide +kernel
theorem dX6_creditOf_4 : decode prog_8_method_27_code 4 = .ok (.getfield 23, 3) := by decide +kernel
theorem dX6_creditOf_7 : decode prog_8_method_27_code 7 = .ok (.getfield 124, 3) := by decide +kernel
theorem dX6_creditOf_10 : decode prog_8_method_27_code 10 = .ok (.iload_n 1, 1) := by decide +kernel
theorem dX6_creditOf_11 : decode prog_8_method_27_code 11 = .ok (.invokestatic 109, 3) := by decide +kernel
theorem dX6_creditOf_14 : decode prog_8_method_27_code 14 = .ok (.imul, 1) := by decide +kernel
theorem dX6_creditOf_15 : decode prog_8_method_27_code 15 = .ok (.iconst 5, 1) := by decide +kernel
theorem dX6_creditOf_16 : decode prog_8_method_27_code 16 = .ok (.aload_n 0, 1) := by decide +kernel
theorem dX6_creditOf_17 : decode prog_8_method_27_code 17 = .ok (.iload_n 1, 1) := by decide +kernel
theorem dX6_creditOf_18 : decode prog_8_method_27_code 18 = .ok (.invokevirtual 175, 3) := by decide +kernel
theorem dX6_creditOf_21 : decode prog_8_method_27_code 21 = .ok (.imul, 1) := by decide +kernel
theorem dX6_creditOf_22 : decode prog_8_method_27_code 22 = .ok (.isub, 1) := by decide +kernel
theorem dX6_creditOf_23 : decode prog_8_method_27_code 23 = .ok (.invokestatic 178, 3) := by decide +kernel
theorem dX6_creditOf_26 : decode prog_8_method_27_code 26 = .ok (.ireturn, 1) := by decide +kernel
theorem nX6_floodAtRank : zDs yX6_floodAtRank 2 := ⟨by decide, by decide, by decide +kernel⟩
theorem dX6_floodAtRank_0 : decode prog_8_method_28_code 0 = .ok (.iconst 0, 1) := by decide +kernel
theorem dX6_floodAtRank_1 : decode prog_8_method_28_code 1 = .ok (.istore_n 3, 1) := by decide +kernel
theorem dX6_floodAtRank_2 : decode prog_8_method_28_code 2 = .ok (.iload_n 3, 1) := by decide +kernel
theorem dX6_floodAtRank_3 : decode prog_8_method_28_code 3 = .ok (.aload_n 0, 1) := by decide +kernel
theorem dX6_floodAtRank_4 : decode prog_8_method_28_code 4 = .ok (.getfield 23, 3) := by decide +kernel
theorem dX6_floodAtRank_7 : decode prog_8_method_28_code 7 = .ok (.getfield 81, 3) := by decide +kernel
theorem dX6_floodAtRank_10 : decode prog_8_method_28_code 10 = .ok (.if_icmp .ge 62, 3) := by decide +kernel
theorem dX6_floodAtRank_13 : decode prog_8_method_28_code 13 = .ok (.iconst 0, 1) := by decide +kernel
theorem dX6_floodAtRank_14 : decode prog_8_method_28_code 14 = .ok (.istore 4, 2) := by decide +kernel
theorem dX6_floodAtRank_16 : decode prog_8_method_28_code 16 = .ok (.iconst 0, 1) := by decide +kernel
theorem dX6_floodAtRank_17 : decode prog_8_method_28_code 17 = .ok (.istore 5, 2) := by decide +kernel
theorem dX6_floodAtRank_19 : decode prog_8_method_28_code 19 = .ok (.iload 5, 2) := by decide +kernel
theorem dX6_floodAtRank_21 : decode prog_8_method_28_code 21 = .ok (.aload_n 0, 1) := by decide +kernel
theorem dX6_floodAtRank_22 : decode prog_8_method_28_code 22 = .ok (.getfield 23, 3) := by decide +kernel
theorem dX6_floodAtRank_25 : decode prog_8_method_28_code 25 = .ok (.getfield 81, 3) := by decide +kernel
theorem dX6_floodAtRank_28 : decode prog_8_method_28_code 28 = .ok (.if_icmp .ge 30, 3) := by decide +kernel
theorem dX6_floodAtRank_31 : decode prog_8_method_28_code 31 = .ok (.iload 4, 2) := by decide +kernel
theorem dX6_floodAtRank_33 : decode prog_8_method_28_code 33 = .ok (.aload_n 0, 1) := by decide +kernel
theorem dX6_floodAtRank_34 : decode prog_8_method_28_code 34 = .ok (.iload 5, 2) := by decide +kernel
theorem dX6_floodAtRank_36 : decode prog_8_method_28_code 36 = .ok (.iload_n 3, 1) := by decide +kernel
theorem dX6_floodAtRank_37 : decode prog_8_method_28_code 37 = .ok (.aload_n 2, 1) := by decide +kernel
theorem dX6_floodAtRank_38 : decode prog_8_method_28_code 38 = .ok (.invokevirtual 183, 3) := by decide +kernel
theorem dX6_floodAtRank_41 : decode prog_8_method_28_code 41 = .ok (.ifCond .eq 7, 3) := by decide +kernel
theorem dX6_floodAtRank_44 : decode prog_8_method_28_code 44 = .ok (.iconst 1, 1) := by decide +kernel
theorem dX6_floodAtRank_45 : decode prog_8_method_28_code 45 = .ok (.goto 4, 3) := by decide +kernel
theorem dX6_floodAtRank_48 : decode prog_8_method_28_code 48 = .ok (.iconst 0, 1) := by decide +kernel
theorem dX6_floodAtRank_49 : decode prog_8_method_28_code 49 = .ok (.iadd, 1) := by decide +kernel
theorem dX6_floodAtRank_50 : decode prog_8_method_28_code 50 = .ok (.istore 4, 2) := by decide +kernel
theorem dX6_floodAtRank_52 : decode prog_8_method_28_code 52 = .ok (.iinc 5 1, 3) := by decide +kernel
theorem dX6_floodAtRank_55 : decode prog_8_method_28_code 55 = .ok (.goto (-36), 3) := by decide +kernel
theorem dX6_floodAtRank_58 : decode prog_8_method_28_code 58 = .ok (.iload 4, 2) := by decide +kernel
theorem dX6_floodAtRank_60 : decode prog_8_method_28_code 60 = .ok (.iload_n 1, 1) := by decide +kernel
theorem dX6_floodAtRank_61 : decode prog_8_method_28_code 61 = .ok (.if_icmp .ne 5, 3) := by decide +kernel
theorem dX6_floodAtRank_64 : decode prog_8_method_28_code 64 = .ok (.iload_n 3, 1) := by decide +kernel
theorem dX6_floodAtRank_65 : decode prog_8_method_28_code 65 = .ok (.ireturn, 1) := by decide +kernel
theorem dX6_floodAtRank_66 : decode prog_8_method_28_code 66 = .ok (.iinc 3 1, 3) := by decide +kernel
theorem dX6_floodAtRank_69 : decode prog_8_method_28_code 69 = .ok (.goto (-67), 3) := by decide +kernel
theorem dX6_floodAtRank_72 : decode prog_8_method_28_code 72 = .ok (.iconst (-1), 1) := by decide +kernel
theorem dX6_floodAtRank_73 : decode prog_8_method_28_code 73 = .ok (.ireturn, 1) := by decide +kernel
theorem nX6_isAhead : zDs yX6_isAhead 3 := ⟨by decide, by decide, by decide +kernel⟩
theorem dX6_isAhead_0 : decode prog_8_method_29_code 0 = .ok (.aload_n 3, 1) := by decide +kernel
theorem dX6_isAhead_1 : decode prog_8_method_29_code 1 = .ok (.iload_n 1, 1) := by decide +kernel
theorem dX6_isAhead_2 : decode prog_8_method_29_code 2 = .ok (.invokestatic 109, 3) := by decide +kernel
theorem dX6_isAhead_5 : decode prog_8_method_29_code 5 = .ok (.aload_n 3, 1) := by decide +kernel
theorem dX6_isAhead_6 : decode prog_8_method_29_code 6 = .ok (.iload_n 2, 1) := by decide +kernel
theorem dX6_isAhead_7 : decode prog_8_method_29_code 7 = .ok (.invokestatic 109, 3) := by decide +kernel
theorem dX6_isAhead_10 : decode prog_8_method_29_code 10 = .ok (.isub, 1) := by decide +kernel
theorem dX6_isAhead_11 : decode prog_8_method_29_code 11 = .ok (.istore 4, 2) := by decide +kernel
theorem dX6_isAhead_13 : decode prog_8_method_29_code 13 = .ok (.iload 4, 2) := by decide +kernel
theorem dX6_isAhead_15 : decode prog_8_method_29_code 15 = .ok (.ifCond .eq 14, 3) := by decide +kernel
theorem dX6_isAhead_18 : decode prog_8_method_29_code 18 = .ok (.iload 4, 2) := by decide +kernel
theorem dX6_isAhead_20 : decode prog_8_method_29_code 20 = .ok (.ifCond .le 7, 3) := by decide +kernel
theorem dX6_isAhead_23 : decode prog_8_method_29_code 23 = .ok (.iconst 1, 1) := by decide +kernel
theorem dX6_isAhead_24 : decode prog_8_method_29_code 24 = .ok (.goto 4, 3) := by decide +kernel
theorem dX6_isAhead_27 : decode prog_8_method_29_code 27 = .ok (.iconst 0, 1) := by decide +kernel
theorem dX6_isAhead_28 : decode prog_8_method_29_code 28 = .ok (.ireturn, 1) := by decide +kernel
theorem dX6_isAhead_29 : decode prog_8_method_29_code 29 = .ok (.aload_n 0, 1) := by decide +kernel
theorem dX6_isAhead_30 : decode prog_8_method_29_code 30 = .ok (.getfield 23, 3) := by decide +kernel
theorem dX6_isAhead_33 : decode prog_8_method_29_code 33 = .ok (.getfield 154, 3) := by decide +kernel
theorem dX6_isAhead_36 : decode prog_8_method_29_code 36 = .ok (.iload_n 1, 1) := by decide +kernel
theorem dX6_isAhead_37 : decode prog_8_method_29_code 37 = .ok (.invokestatic 109, 3) := by decide +kernel
theorem dX6_isAhead_40 : decode prog_8_method_29_code 40 = .ok (.aload_n 0, 1) := by decide +kernel
theorem dX6_isAhead_41 : decode prog_8_method_29_code 41 = .ok (.getfield 23, 3) := by decide +kernel
theorem dX6_isAhead_44 : decode prog_8_method_29_code 44 = .ok (.getfield 154, 3) := by decide +kernel
theorem dX6_isAhead_47 : decode prog_8_method_29_code 47 = .ok (.iload_n 2, 1) := by decide +kernel
theorem dX6_isAhead_48 : decode prog_8_method_29_code 48 = .ok (.invokestatic 109, 3) := by decide +kernel
theorem dX6_isAhead_51 : decode prog_8_method_29_code 51 = .ok (.isub, 1) := by decide +kernel
theorem dX6_isAhead_52 : decode prog_8_method_29_code 52 = .ok (.istore 5, 2) := by decide +kernel
theorem dX6_isAhead_54 : decode prog_8_method_29_code 54 = .ok (.iload 5, 2) := by decide +kernel
theorem dX6_isAhead_56 : decode prog_8_method_29_code 56 = .ok (.ifCond .eq 14, 3) := by decide +kernel
theorem dX6_isAhead_59 : decode prog_8_method_29_code 59 = .ok (.iload 5, 2) := by decide +kernel
theorem dX6_isAhead_61 : decode prog_8_method_29_code 61 = .ok (.ifCond .le 7, 3) := by decide +kernel
theorem dX6_isAhead_64 : decode prog_8_method_29_code 64 = .ok (.iconst 1, 1) := by decide +kernel
theorem dX6_isAhead_65 : decode prog_8_method_29_code 65 = .ok (.goto 4, 3) := by decide +kernel
theorem dX6_isAhead_68 : decode prog_8_method_29_code 68 = .ok (.iconst 0, 1) := by decide +kernel
theorem dX6_isAhead_69 : decode prog_8_method_29_code 69 = .ok (.ireturn, 1) := by decide +kernel
theorem dX6_isAhead_70 : decode prog_8_method_29_code 70 = .ok (.aload_n 0, 1) := by decide +kernel
theorem dX6_isAhead_71 : decode prog_8_method_29_code 71 = .ok (.getfield 23, 3) := by decide +kernel
theorem dX6_isAhead_74 : decode prog_8_method_29_code 74 = .ok (.getfield 187, 3) := by decide +kernel
theorem dX6_isAhead_77 : decode prog_8_method_29_code 77 = .ok (.iload_n 1, 1) := by decide +kernel
theorem dX6_isAhead_78 : decode prog_8_method_29_code 78 = .ok (.invokestatic 109, 3) := by decide +kernel
theorem dX6_isAhead_81 : decode prog_8_method_29_code 81 = .ok (.aload_n 0, 1) := by decide +kernel
theorem dX6_isAhead_82 : decode prog_8_method_29_code 82 = .ok (.getfield 23, 3) := by decide +kernel
theorem dX6_isAhead_85 : decode prog_8_method_29_code 85 = .ok (.getfield 187, 3) := by decide +kernel
theorem dX6_isAhead_88 : decode prog_8_method_29_code 88 = .ok (.iload_n 2, 1) := by decide +kernel
theorem dX6_isAhead_89 : decode prog_8_method_29_code 89 = .ok (.invokestatic 109, 3) := by decide +kernel
theorem dX6_isAhead_92 : decode prog_8_method_29_code 92 = .ok (.if_icmp .ge 7, 3) := by decide +kernel
theorem dX6_isAhead_95 : decode prog_8_method_29_code 95 = .ok (.iconst 1, 1) := by decide +kernel
theorem dX6_isAhead_96 : decode prog_8_method_29_code 96 = .ok (.goto 4, 3) := by decide +kernel
theorem dX6_isAhead_99 : decode prog_8_method_29_code 99 = .ok (.iconst 0, 1) := by decide +kernel
theorem dX6_isAhead_100 : decode prog_8_method_29_code 100 = .ok (.ireturn, 1) := by decide +kernel
theorem nX6_crestsTold : zDs yX6_crestsTold 1 := ⟨by decide, by decide, by decide +kernel⟩
theorem dX6_crestsTold_0 : decode prog_8_method_30_code 0 = .ok (.iconst 0, 1) := by decide +kernel
theorem dX6_crestsTold_1 : decode prog_8_method_30_code 1 = .ok (.istore_n 2, 1) := by decide +kernel
theorem dX6_crestsTold_2 : decode prog_8_method_30_code 2 = .ok (.iconst 0, 1) := by decide +kernel
theorem dX6_crestsTold_3 : decode prog_8_method_30_code 3 = .ok (.istore_n 3, 1) := by decide +kernel
theorem dX6_crestsTold_4 : decode prog_8_method_30_code 4 = .ok (.iload_n 3, 1) := by decide +kernel
theorem dX6_crestsTold_5 : decode prog_8_method_30_code 5 = .ok (.aload_n 0, 1) := by decide +kernel
theorem dX6_crestsTold_6 : decode prog_8_method_30_code 6 = .ok (.getfield 16, 3) := by decide +kernel
theorem dX6_crestsTold_9 : decode prog_8_method_30_code 9 = .ok (.getfield 74, 3) := by decide +kernel
theorem dX6_crestsTold_12 : decode prog_8_method_30_code 12 = .ok (.if_icmp .ge 39, 3) := by decide +kernel
theorem dX6_crestsTold_15 : decode prog_8_method_30_code 15 = .ok (.aload_n 0, 1) := by decide +kernel
theorem dX6_crestsTold_16 : decode prog_8_method_30_code 16 = .ok (.getfield 44, 3) := by decide +kernel
theorem dX6_crestsTold_19 : decode prog_8_method_30_code 19 = .ok (.iload_n 3, 1) := by decide +kernel
theorem dX6_crestsTold_20 : decode prog_8_method_30_code 20 = .ok (.iload_n 1, 1) := by decide +kernel
theorem dX6_crestsTold_21 : decode prog_8_method_30_code 21 = .ok (.invokevirtual 93, 3) := by decide +kernel
theorem dX6_crestsTold_24 : decode prog_8_method_30_code 24 = .ok (.ifCond .eq 21, 3) := by decide +kernel
theorem dX6_crestsTold_27 : decode prog_8_method_30_code 27 = .ok (.iload_n 2, 1) := by decide +kernel
theorem dX6_crestsTold_28 : decode prog_8_method_30_code 28 = .ok (.aload_n 0, 1) := by decide +kernel
theorem dX6_crestsTold_29 : decode prog_8_method_30_code 29 = .ok (.iload_n 3, 1) := by decide +kernel
theorem dX6_crestsTold_30 : decode prog_8_method_30_code 30 = .ok (.iload_n 1, 1) := by decide +kernel
theorem dX6_crestsTold_31 : decode prog_8_method_30_code 31 = .ok (.invokevirtual 166, 3) := by decide +kernel
theorem dX6_crestsTold_34 : decode prog_8_method_30_code 34 = .ok (.aload_n 0, 1) := by decide +kernel
theorem dX6_crestsTold_35 : decode prog_8_method_30_code 35 = .ok (.getfield 16, 3) := by decide +kernel
theorem dX6_crestsTold_38 : decode prog_8_method_30_code 38 = .ok (.iload_n 3, 1) := by decide +kernel
theorem dX6_crestsTold_39 : decode prog_8_method_30_code 39 = .ok (.invokevirtual 157, 3) := by decide +kernel
theorem dX6_crestsTold_42 : decode prog_8_method_30_code 42 = .ok (.iadd, 1) := by decide +kernel
theorem dX6_crestsTold_43 : decode prog_8_method_30_code 43 = .ok (.iadd, 1) := by decide +kernel
theorem dX6_crestsTold_44 : decode prog_8_method_30_code 44 = .ok (.istore_n 2, 1) := by decide +kernel
theorem dX6_crestsTold_45 : decode prog_8_method_30_code 45 = .ok (.iinc 3 1, 3) := by decide +kernel
theorem dX6_crestsTold_48 : decode prog_8_method_30_code 48 = .ok (.goto (-44), 3) := by decide +kernel
theorem dX6_crestsTold_51 : decode prog_8_method_30_code 51 = .ok (.iload_n 2, 1) := by decide +kernel
theorem dX6_crestsTold_52 : decode prog_8_method_30_code 52 = .ok (.ireturn, 1) := by decide +kernel
theorem pnX7 : plainName RX7 = true := by decide +kernel
theorem nX7_at : zDs yX7_at 2 := ⟨by decide, by decide, by decide +kernel⟩
theorem dX7_at_0 : decode prog_9_method_2_code 0 = .ok (.iload_n 1, 1) := by decide +kernel
theorem dX7_at_1 : decode prog_9_method_2_code 1 = .ok (.ifCond .lt 15, 3) := by decide +kernel
theorem dX7_at_4 : decode prog_9_method_2_code 4 = .ok (.iload_n 1, 1) := by decide +kernel
theorem dX7_at_5 : decode prog_9_method_2_code 5 = .ok (.aload_n 0, 1) := by decide +kernel
theorem dX7_at_6 : decode prog_9_method_2_code 6 = .ok (.arraylength, 1) := by decide +kernel
theorem dX7_at_7 : decode prog_9_method_2_code 7 = .ok (.if_icmp .ge 9, 3) := by decide +kernel
theorem dX7_at_10 : decode prog_9_method_2_code 10 = .ok (.aload_n 0, 1) := by decide +kernel
theorem dX7_at_11 : decode prog_9_method_2_code 11 = .ok (.iload_n 1, 1) := by decide +kernel
theorem dX7_at_12 : decode prog_9_method_2_code 12 = .ok (.iaload, 1) := by decide +kernel
theorem dX7_at_13 : decode prog_9_method_2_code 13 = .ok (.goto 4, 3) := by decide +kernel
theorem dX7_at_16 : decode prog_9_method_2_code 16 = .ok (.iconst 0, 1) := by decide +kernel
theorem dX7_at_17 : decode prog_9_method_2_code 17 = .ok (.ireturn, 1) := by decide +kernel
theorem nX7_set : zDs yX7_set 3 := ⟨by decide, by decide, by decide +kernel⟩
theorem dX7_set_0 : decode prog_9_method_3_code 0 = .ok (.iload_n 1, 1) := by decide +kernel
theorem dX7_set_1 : decode prog_9_method_3_code 1 = .ok (.ifCond .lt 13, 3) := by decide +kernel
theorem dX7_set_4 : decode prog_9_method_3_code 4 = .ok (.iload_n 1, 1) := by decide +kernel
theorem dX7_set_5 : decode prog_9_method_3_code 5 = .ok (.aload_n 0, 1) := by decide +kernel
theorem dX7_set_6 : decode prog_9_method_3_code 6 = .ok (.arraylength, 1) := by decide +kernel
theorem dX7_set_7 : decode prog_9_method_3_code 7 = .ok (.if_icmp .ge 7, 3) := by decide +kernel
theorem dX7_set_10 : decode prog_9_method_3_code 10 = .ok (.aload_n 0, 1) := by decide +kernel
theorem dX7_set_11 : decode prog_9_method_3_code 11 = .ok (.iload_n 1, 1) := by decide +kernel
theorem dX7_set_12 : decode prog_9_method_3_code 12 = .ok (.iload_n 2, 1) := by decide +kernel
theorem dX7_set_13 : decode prog_9_method_3_code 13 = .ok (.iastore, 1) := by decide +kernel
theorem dX7_set_14 : decode prog_9_method_3_code 14 = .ok (.return_, 1) := by decide +kernel
theorem nX7_copy : zDs yX7_copy 2 := ⟨by decide, by decide, by decide +kernel⟩
theorem dX7_copy_0 : decode prog_9_method_4_code 0 = .ok (.aload_n 0, 1) := by decide +kernel
theorem dX7_copy_1 : decode prog_9_method_4_code 1 = .ok (.iconst 0, 1) := by decide +kernel
theorem dX7_copy_2 : decode prog_9_method_4_code 2 = .ok (.aload_n 1, 1) := by decide +kernel
theorem dX7_copy_3 : decode prog_9_method_4_code 3 = .ok (.iconst 0, 1) := by decide +kernel
theorem dX7_copy_4 : decode prog_9_method_4_code 4 = .ok (.aload_n 0, 1) := by decide +kernel
theorem dX7_copy_5 : decode prog_9_method_4_code 5 = .ok (.arraylength, 1) := by decide +kernel
theorem dX7_copy_6 : decode prog_9_method_4_code 6 = .ok (.aload_n 1, 1) := by decide +kernel
theorem dX7_copy_7 : decode prog_9_method_4_code 7 = .ok (.arraylength, 1) := by decide +kernel
theorem dX7_copy_8 : decode prog_9_method_4_code 8 = .ok (.invokestatic 7, 3) := by decide +kernel
theorem dX7_copy_11 : decode prog_9_method_4_code 11 = .ok (.invokestatic 13, 3) := by decide +kernel
theorem dX7_copy_14 : decode prog_9_method_4_code 14 = .ok (.return_, 1) := by decide +kernel
theorem pnX8 : plainName RX8 = true := by decide +kernel
theorem nX8_init : zDs yX8_init 0 := ⟨by decide, by decide, by decide +kernel⟩
theorem dX8_init_0 : decode prog_10_method_1_code 0 = .ok (.aload_n 0, 1) := by decide +kernel
theorem dX8_init_1 : decode prog_10_method_1_code 1 = .ok (.invokespecial 1, 3) := by decide +kernel
theorem dX8_init_4 : decode prog_10_method_1_code 4 = .ok (.aload_n 0, 1) := by decide +kernel
theorem dX8_init_5 : decode prog_10_method_1_code 5 = .ok (.iconst 0, 1) := by decide +kernel
theorem dX8_init_6 : decode prog_10_method_1_code 6 = .ok (.putfield 7, 3) := by decide +kernel
theorem dX8_init_9 : decode prog_10_method_1_code 9 = .ok (.aload_n 0, 1) := by decide +kernel
theorem dX8_init_10 : decode prog_10_method_1_code 10 = .ok (.bipush 6, 2) := by decide +kernel
theorem dX8_init_12 : decode prog_10_method_1_code 12 = .ok (.newarray .int, 2) := by decide +kernel
theorem dX8_init_14 : decode prog_10_method_1_code 14 = .ok (.putfield 13, 3) := by decide +kernel
theorem dX8_init_17 : decode prog_10_method_1_code 17 = .ok (.aload_n 0, 1) := by decide +kernel
theorem dX8_init_18 : decode prog_10_method_1_code 18 = .ok (.bipush 6, 2) := by decide +kernel
theorem dX8_init_20 : decode prog_10_method_1_code 20 = .ok (.newarray .int, 2) := by decide +kernel
theorem dX8_init_22 : decode prog_10_method_1_code 22 = .ok (.putfield 17, 3) := by decide +kernel
theorem dX8_init_25 : decode prog_10_method_1_code 25 = .ok (.aload_n 0, 1) := by decide +kernel
theorem dX8_init_26 : decode prog_10_method_1_code 26 = .ok (.bipush 6, 2) := by decide +kernel
theorem dX8_init_28 : decode prog_10_method_1_code 28 = .ok (.newarray .int, 2) := by decide +kernel
theorem dX8_init_30 : decode prog_10_method_1_code 30 = .ok (.putfield 20, 3) := by decide +kernel
theorem dX8_init_33 : decode prog_10_method_1_code 33 = .ok (.aload_n 0, 1) := by decide +kernel
theorem dX8_init_34 : decode prog_10_method_1_code 34 = .ok (.bipush 6, 2) := by decide +kernel
theorem dX8_init_36 : decode prog_10_method_1_code 36 = .ok (.newarray .int, 2) := by decide +kernel
theorem dX8_init_38 : decode prog_10_method_1_code 38 = .ok (.putfield 23, 3) := by decide +kernel
theorem dX8_init_41 : decode prog_10_method_1_code 41 = .ok (.return_, 1) := by decide +kernel
theorem nX8_copyFrom : zDs yX8_copyFrom 1 := ⟨by decide, by decide, by decide +kernel⟩
theorem dX8_copyFrom_0 : decode prog_10_method_2_code 0 = .ok (.aload_n 0, 1) := by decide +kernel
theorem dX8_copyFrom_1 : decode prog_10_method_2_code 1 = .ok (.aload_n 1, 1) := by decide +kernel
theorem dX8_copyFrom_2 : decode prog_10_method_2_code 2 = .ok (.getfield 7, 3) := by decide +kernel
theorem dX8_copyFrom_5 : decode prog_10_method_2_code 5 = .ok (.putfield 7, 3) := by decide +kernel
theorem dX8_copyFrom_8 : decode prog_10_method_2_code 8 = .ok (.aload_n 1, 1) := by decide +kernel
theorem dX8_copyFrom_9 : decode prog_10_method_2_code 9 = .ok (.getfield 13, 3) := by decide +kernel
theorem dX8_copyFrom_12 : decode prog_10_method_2_code 12 = .ok (.aload_n 0, 1) := by decide +kernel
theorem dX8_copyFrom_13 : decode prog_10_method_2_code 13 = .ok (.getfield 13, 3) := by decide +kernel
theorem dX8_copyFrom_16 : decode prog_10_method_2_code 16 = .ok (.invokestatic 26, 3) := by decide +kernel
theorem dX8_copyFrom_19 : decode prog_10_method_2_code 19 = .ok (.aload_n 1, 1) := by decide +kernel
theorem dX8_copyFrom_20 : decode prog_10_method_2_code 20 = .ok (.getfield 17, 3) := by decide +kernel
theorem dX8_copyFrom_23 : decode prog_10_method_2_code 23 = .ok (.aload_n 0, 1) := by decide +kernel
theorem dX8_copyFrom_24 : decode prog_10_method_2_code 24 = .ok (.getfield 17, 3) := by decide +kernel
theorem dX8_copyFrom_27 : decode prog_10_method_2_code 27 = .ok (.invokestatic 26, 3) := by decide +kernel
theorem dX8_copyFrom_30 : decode prog_10_method_2_code 30 = .ok (.aload_n 1, 1) := by decide +kernel
theorem dX8_copyFrom_31 : decode prog_10_method_2_code 31 = .ok (.getfield 20, 3) := by decide +kernel
theorem dX8_copyFrom_34 : decode prog_10_method_2_code 34 = .ok (.aload_n 0, 1) := by decide +kernel
theorem dX8_copyFrom_35 : decode prog_10_method_2_code 35 = .ok (.getfield 20, 3) := by decide +kernel
theorem dX8_copyFrom_38 : decode prog_10_method_2_code 38 = .ok (.invokestatic 26, 3) := by decide +kernel
theorem dX8_copyFrom_41 : decode prog_10_method_2_code 41 = .ok (.aload_n 1, 1) := by decide +kernel
theorem dX8_copyFrom_42 : decode prog_10_method_2_code 42 = .ok (.getfield 23, 3) := by decide +kernel
theorem dX8_copyFrom_45 : decode prog_10_method_2_code 45 = .ok (.aload_n 0, 1) := by decide +kernel
theorem dX8_copyFrom_46 : decode prog_10_method_2_code 46 = .ok (.getfield 23, 3) := by decide +kernel
theorem dX8_copyFrom_49 : decode prog_10_method_2_code 49 = .ok (.invokestatic 26, 3) := by decide +kernel
theorem dX8_copyFrom_52 : decode prog_10_method_2_code 52 = .ok (.return_, 1) := by decide +kernel
theorem nX8_has : zDs yX8_has 1 := ⟨by decide, by decide, by decide +kernel⟩
theorem dX8_has_0 : decode prog_10_method_3_code 0 = .ok (.iload_n 1, 1) := by decide +kernel
theorem dX8_has_1 : decode prog_10_method_3_code 1 = .ok (.ifCond .lt 15, 3) := by decide +kernel
theorem dX8_has_4 : decode prog_10_method_3_code 4 = .ok (.iload_n 1, 1) := by decide +kernel
theorem dX8_has_5 : decode prog_10_method_3_code 5 = .ok (.aload_n 0, 1) := by decide +kernel
theorem dX8_has_6 : decode prog_10_method_3_code 6 = .ok (.getfield 7, 3) := by decide +kernel
theorem dX8_has_9 : decode prog_10_method_3_code 9 = .ok (.if_icmp .ge 7, 3) := by decide +kernel
theorem dX8_has_12 : decode prog_10_method_3_code 12 = .ok (.iconst 1, 1) := by decide +kernel
theorem dX8_has_13 : decode prog_10_method_3_code 13 = .ok (.goto 4, 3) := by decide +kernel
theorem dX8_has_16 : decode prog_10_method_3_code 16 = .ok (.iconst 0, 1) := by decide +kernel
theorem dX8_has_17 : decode prog_10_method_3_code 17 = .ok (.ireturn, 1) := by decide +kernel
theorem nX8_add : zDs yX8_add 3 := ⟨by decide, by decide, by decide +kernel⟩
theorem dX8_add_0 : decode prog_10_method_4_code 0 = .ok (.aload_n 0, 1) := by decide +kernel
theorem dX8_add_1 : decode prog_10_method_4_code 1 = .ok (.getfield 7, 3) := by decide +kernel
theorem dX8_add_4 : decode prog_10_method_4_code 4 = .ok (.istore 4, 2) := by decide +kernel
theorem dX8_add_6 : decode prog_10_method_4_code 6 = .ok (.aload_n 0, 1) := by decide +kernel
theorem dX8_add_7 : decode prog_10_method_4_code 7 = .ok (.getfield 13, 3) := by decide +kernel
theorem dX8_add_10 : decode prog_10_method_4_code 10 = .ok (.iload 4, 2) := by decide +kernel
theorem dX8_add_12 : decode prog_10_method_4_code 12 = .ok (.iload_n 1, 1) := by decide +kernel
theorem dX8_add_13 : decode prog_10_method_4_code 13 = .ok (.invokestatic 32, 3) := by decide +kernel
theorem dX8_add_16 : decode prog_10_method_4_code 16 = .ok (.aload_n 0, 1) := by decide +kernel
theorem dX8_add_17 : decode prog_10_method_4_code 17 = .ok (.getfield 17, 3) := by decide +kernel
theorem dX8_add_20 : decode prog_10_method_4_code 20 = .ok (.iload 4, 2) := by decide +kernel
theorem dX8_add_22 : decode prog_10_method_4_code 22 = .ok (.iload_n 2, 1) := by decide +kernel
theorem dX8_add_23 : decode prog_10_method_4_code 23 = .ok (.invokestatic 32, 3) := by decide +kernel
theorem dX8_add_26 : decode prog_10_method_4_code 26 = .ok (.aload_n 0, 1) := by decide +kernel
theorem dX8_add_27 : decode prog_10_method_4_code 27 = .ok (.getfield 20, 3) := by decide +kernel
theorem dX8_add_30 : decode prog_10_method_4_code 30 = .ok (.iload 4, 2) := by decide +kernel
theorem dX8_add_32 : decode prog_10_method_4_code 32 = .ok (.iload_n 3, 1) := by decide +kernel
theorem dX8_add_33 : decode prog_10_method_4_code 33 = .ok (.invokestatic 32, 3) := by decide +kernel
theorem dX8_add_36 : decode prog_10_method_4_code 36 = .ok (.aload_n 0, 1) := by decide +kernel
theorem dX8_add_37 : decode prog_10_method_4_code 37 = .ok (.getfield 23, 3) := by decide +kernel
theorem dX8_add_40 : decode prog_10_method_4_code 40 = .ok (.iload 4, 2) := by decide +kernel
theorem dX8_add_42 : decode prog_10_method_4_code 42 = .ok (.iconst 0, 1) := by decide +kernel
theorem dX8_add_43 : decode prog_10_method_4_code 43 = .ok (.invokestatic 32, 3) := by decide +kernel
theorem dX8_add_46 : decode prog_10_method_4_code 46 = .ok (.aload_n 0, 1) := by decide +kernel
theorem dX8_add_47 : decode prog_10_method_4_code 47 = .ok (.iload 4, 2) := by decide +kernel
theorem dX8_add_49 : decode prog_10_method_4_code 49 = .ok (.iconst 1, 1) := by decide +kernel
theorem dX8_add_50 : decode prog_10_method_4_code 50 = .ok (.iadd, 1) := by decide +kernel
theorem dX8_add_51 : decode prog_10_method_4_code 51 = .ok (.putfield 7, 3) := by decide +kernel
theorem dX8_add_54 : decode prog_10_method_4_code 54 = .ok (.iload 4, 2) := by decide +kernel
theorem dX8_add_56 : decode prog_10_method_4_code 56 = .ok (.ireturn, 1) := by decide +kernel
theorem nX8_setRight : zDs yX8_setRight 1 := ⟨by decide, by decide, by decide +kernel⟩
theorem dX8_setRight_0 : decode prog_10_method_5_code 0 = .ok (.aload_n 0, 1) := by decide +kernel
theorem dX8_setRight_1 : decode prog_10_method_5_code 1 = .ok (.getfield 23, 3) := by decide +kernel
theorem dX8_setRight_4 : decode prog_10_method_5_code 4 = .ok (.iload_n 1, 1) := by decide +kernel
theorem dX8_setRight_5 : decode prog_10_method_5_code 5 = .ok (.invokestatic 36, 3) := by decide +kernel
theorem dX8_setRight_8 : decode prog_10_method_5_code 8 = .ok (.istore_n 2, 1) := by decide +kernel
theorem dX8_setRight_9 : decode prog_10_method_5_code 9 = .ok (.aload_n 0, 1) := by decide +kernel
theorem dX8_setRight_10 : decode prog_10_method_5_code 10 = .ok (.getfield 23, 3) := by decide +kernel
theorem dX8_setRight_13 : decode prog_10_method_5_code 13 = .ok (.iload_n 1, 1) := by decide +kernel
theorem dX8_setRight_14 : decode prog_10_method_5_code 14 = .ok (.iconst 0, 1) := by decide +kernel
theorem dX8_setRight_15 : decode prog_10_method_5_code 15 = .ok (.invokestatic 32, 3) := by decide +kernel
theorem dX8_setRight_18 : decode prog_10_method_5_code 18 = .ok (.iload_n 2, 1) := by decide +kernel
theorem dX8_setRight_19 : decode prog_10_method_5_code 19 = .ok (.ireturn, 1) := by decide +kernel
theorem nX8_driftAll : zDs yX8_driftAll 0 := ⟨by decide, by decide, by decide +kernel⟩
theorem dX8_driftAll_0 : decode prog_10_method_6_code 0 = .ok (.iconst 0, 1) := by decide +kernel
theorem dX8_driftAll_1 : decode prog_10_method_6_code 1 = .ok (.istore_n 1, 1) := by decide +kernel
theorem dX8_driftAll_2 : decode prog_10_method_6_code 2 = .ok (.iload_n 1, 1) := by decide +kernel
theorem dX8_driftAll_3 : decode prog_10_method_6_code 3 = .ok (.aload_n 0, 1) := by decide +kernel
theorem dX8_driftAll_4 : decode prog_10_method_6_code 4 = .ok (.getfield 7, 3) := by decide +kernel
theorem dX8_driftAll_7 : decode prog_10_method_6_code 7 = .ok (.if_icmp .ge 28, 3) := by decide +kernel
theorem dX8_driftAll_10 : decode prog_10_method_6_code 10 = .ok (.aload_n 0, 1) := by decide +kernel
theorem dX8_driftAll_11 : decode prog_10_method_6_code 11 = .ok (.getfield 23, 3) := by decide +kernel
theorem dX8_driftAll_14 : decode prog_10_method_6_code 14 = .ok (.iload_n 1, 1) := by decide +kernel
theorem dX8_driftAll_15 : decode prog_10_method_6_code 15 = .ok (.aload_n 0, 1) := by decide +kernel
theorem dX8_driftAll_16 : decode prog_10_method_6_code 16 = .ok (.getfield 23, 3) := by decide +kernel
theorem dX8_driftAll_19 : decode prog_10_method_6_code 19 = .ok (.iload_n 1, 1) := by decide +kernel
theorem dX8_driftAll_20 : decode prog_10_method_6_code 20 = .ok (.invokestatic 36, 3) := by decide +kernel
theorem dX8_driftAll_23 : decode prog_10_method_6_code 23 = .ok (.invokestatic 40, 3) := by decide +kernel
theorem dX8_driftAll_26 : decode prog_10_method_6_code 26 = .ok (.invokestatic 32, 3) := by decide +kernel
theorem dX8_driftAll_29 : decode prog_10_method_6_code 29 = .ok (.iinc 1 1, 3) := by decide +kernel
theorem dX8_driftAll_32 : decode prog_10_method_6_code 32 = .ok (.goto (-30), 3) := by decide +kernel
theorem dX8_driftAll_35 : decode prog_10_method_6_code 35 = .ok (.return_, 1) := by decide +kernel
theorem nX8_drift : zDs yX8_drift 1 := ⟨by decide, by decide, by decide +kernel⟩
theorem dX8_drift_0 : decode prog_10_method_7_code 0 = .ok (.iload_n 0, 1) := by decide +kernel
theorem dX8_drift_1 : decode prog_10_method_7_code 1 = .ok (.ifCond .lt 14, 3) := by decide +kernel
theorem dX8_drift_4 : decode prog_10_method_7_code 4 = .ok (.iload_n 0, 1) := by decide +kernel
theorem dX8_drift_5 : decode prog_10_method_7_code 5 = .ok (.iconst 1, 1) := by decide +kernel
theorem dX8_drift_6 : decode prog_10_method_7_code 6 = .ok (.iadd, 1) := by decide +kernel
theorem dX8_drift_7 : decode prog_10_method_7_code 7 = .ok (.bipush 9, 2) := by decide +kernel
theorem dX8_drift_9 : decode prog_10_method_7_code 9 = .ok (.invokestatic 44, 3) := by decide +kernel
theorem dX8_drift_12 : decode prog_10_method_7_code 12 = .ok (.goto 11, 3) := by decide +kernel
theorem dX8_drift_15 : decode prog_10_method_7_code 15 = .ok (.iload_n 0, 1) := by decide +kernel
theorem dX8_drift_16 : decode prog_10_method_7_code 16 = .ok (.iconst 1, 1) := by decide +kernel
theorem dX8_drift_17 : decode prog_10_method_7_code 17 = .ok (.isub, 1) := by decide +kernel
theorem dX8_drift_18 : decode prog_10_method_7_code 18 = .ok (.bipush (-9), 2) := by decide +kernel
theorem dX8_drift_20 : decode prog_10_method_7_code 20 = .ok (.invokestatic 50, 3) := by decide +kernel
theorem dX8_drift_23 : decode prog_10_method_7_code 23 = .ok (.ireturn, 1) := by decide +kernel
theorem nX8_loss : zDs yX8_loss 1 := ⟨by decide, by decide, by decide +kernel⟩
theorem dX8_loss_0 : decode prog_10_method_8_code 0 = .ok (.aload_n 0, 1) := by decide +kernel
theorem dX8_loss_1 : decode prog_10_method_8_code 1 = .ok (.getfield 13, 3) := by decide +kernel
theorem dX8_loss_4 : decode prog_10_method_8_code 4 = .ok (.iload_n 1, 1) := by decide +kernel
theorem dX8_loss_5 : decode prog_10_method_8_code 5 = .ok (.invokestatic 36, 3) := by decide +kernel
theorem dX8_loss_8 : decode prog_10_method_8_code 8 = .ok (.iconst 5, 1) := by decide +kernel
theorem dX8_loss_9 : decode prog_10_method_8_code 9 = .ok (.idiv, 1) := by decide +kernel
theorem dX8_loss_10 : decode prog_10_method_8_code 10 = .ok (.aload_n 0, 1) := by decide +kernel
theorem dX8_loss_11 : decode prog_10_method_8_code 11 = .ok (.getfield 17, 3) := by decide +kernel
theorem dX8_loss_14 : decode prog_10_method_8_code 14 = .ok (.iload_n 1, 1) := by decide +kernel
theorem dX8_loss_15 : decode prog_10_method_8_code 15 = .ok (.invokestatic 36, 3) := by decide +kernel
theorem dX8_loss_18 : decode prog_10_method_8_code 18 = .ok (.iadd, 1) := by decide +kernel
theorem dX8_loss_19 : decode prog_10_method_8_code 19 = .ok (.ireturn, 1) := by decide +kernel
theorem pnX9 : plainName RX9 = true := by decide +kernel
theorem nX9_init : zDs yX9_init 0 := ⟨by decide, by decide, by decide +kernel⟩
theorem dX9_init_0 : decode prog_11_method_1_code 0 = .ok (.aload_n 0, 1) := by decide +kernel
theorem dX9_init_1 : decode prog_11_method_1_code 1 = .ok (.invokespecial 1, 3) := by decide +kernel
theorem dX9_init_4 : decode prog_11_method_1_code 4 = .ok (.aload_n 0, 1) := by decide +kernel
theorem dX9_init_5 : decode prog_11_method_1_code 5 = .ok (.bipush 60, 2) := by decide +kernel
theorem dX9_init_7 : decode prog_11_method_1_code 7 = .ok (.newarray .char, 2) := by decide +kernel
theorem dX9_init_9 : decode prog_11_method_1_code 9 = .ok (.putfield 9, 3) := by decide +kernel
theorem dX9_init_12 : decode prog_11_method_1_code 12 = .ok (.aload_n 0, 1) := by decide +kernel
theorem dX9_init_13 : decode prog_11_method_1_code 13 = .ok (.iconst 0, 1) := by decide +kernel
theorem dX9_init_14 : decode prog_11_method_1_code 14 = .ok (.putfield 13, 3) := by decide +kernel
theorem dX9_init_17 : decode prog_11_method_1_code 17 = .ok (.aload_n 0, 1) := by decide +kernel
theorem dX9_init_18 : decode prog_11_method_1_code 18 = .ok (.bipush 60, 2) := by decide +kernel
theorem dX9_init_20 : decode prog_11_method_1_code 20 = .ok (.newarray .int, 2) := by decide +kernel
theorem dX9_init_22 : decode prog_11_method_1_code 22 = .ok (.putfield 17, 3) := by decide +kernel
theorem dX9_init_25 : decode prog_11_method_1_code 25 = .ok (.aload_n 0, 1) := by decide +kernel
theorem dX9_init_26 : decode prog_11_method_1_code 26 = .ok (.sipush 180, 3) := by decide +kernel
theorem dX9_init_29 : decode prog_11_method_1_code 29 = .ok (.newarray .int, 2) := by decide +kernel
theorem dX9_init_31 : decode prog_11_method_1_code 31 = .ok (.putfield 21, 3) := by decide +kernel
theorem dX9_init_34 : decode prog_11_method_1_code 34 = .ok (.aload_n 0, 1) := by decide +kernel
theorem dX9_init_35 : decode prog_11_method_1_code 35 = .ok (.iconst 0, 1) := by decide +kernel
theorem dX9_init_36 : decode prog_11_method_1_code 36 = .ok (.putfield 24, 3) := by decide +kernel
theorem dX9_init_39 : decode prog_11_method_1_code 39 = .ok (.aload_n 0, 1) := by decide +kernel
theorem dX9_init_40 : decode prog_11_method_1_code 40 = .ok (.iconst 0, 1) := by decide +kernel
theorem dX9_init_41 : decode prog_11_method_1_code 41 = .ok (.putfield 27, 3) := by decide +kernel
theorem dX9_init_44 : decode prog_11_method_1_code 44 = .ok (.return_, 1) := by decide +kernel
theorem nX9_isFull : zDs yX9_isFull 0 := ⟨by decide, by decide, by decide +kernel⟩
theorem dX9_isFull_0 : decode prog_11_method_2_code 0 = .ok (.aload_n 0, 1) := by decide +kernel
theorem dX9_isFull_1 : decode prog_11_method_2_code 1 = .ok (.getfield 13, 3) := by decide +kernel
theorem dX9_isFull_4 : decode prog_11_method_2_code 4 = .ok (.bipush 60, 2) := by decide +kernel
theorem dX9_isFull_6 : decode prog_11_method_2_code 6 = .ok (.if_icmp .lt 7, 3) := by decide +kernel
theorem dX9_isFull_9 : decode prog_11_method_2_code 9 = .ok (.iconst 1, 1) := by decide +kernel
theorem dX9_isFull_10 : decode prog_11_method_2_code 10 = .ok (.goto 4, 3) := by decide +kernel
theorem dX9_isFull_13 : decode prog_11_method_2_code 13 = .ok (.iconst 0, 1) := by decide +kernel
theorem dX9_isFull_14 : decode prog_11_method_2_code 14 = .ok (.ireturn, 1) := by decide +kernel
theorem nX9_put : zDs yX9_put 1 := ⟨by decide, by decide, by decide +kernel⟩
theorem dX9_put_0 : decode prog_11_method_3_code 0 = .ok (.aload_n 0, 1) := by decide +kernel
theorem dX9_put_1 : decode prog_11_method_3_code 1 = .ok (.getfield 13, 3) := by decide +kernel
theorem dX9_put_4 : decode prog_11_method_3_code 4 = .ok (.ifCond .lt 35, 3) := by decide +kernel
theorem dX9_put_7 : decode prog_11_method_3_code 7 = .ok (.aload_n 0, 1) := by decide +kernel
theorem dX9_put_8 : decode prog_11_method_3_code 8 = .ok (.getfield 13, 3) := by decide +kernel
theorem dX9_put_11 : decode prog_11_method_3_code 11 = .ok (.aload_n 0, 1) := by decide +kernel
theorem dX9_put_12 : decode prog_11_method_3_code 12 = .ok (.getfield 9, 3) := by decide +kernel
theorem dX9_put_15 : decode prog_11_method_3_code 15 = .ok (.arraylength, 1) := by decide +kernel
theorem dX9_put_16 : decode prog_11_method_3_code 16 = .ok (.if_icmp .ge 23, 3) := by decide +kernel
theorem dX9_put_19 : decode prog_11_method_3_code 19 = .ok (.aload_n 0, 1) := by decide +kernel
theorem dX9_put_20 : decode prog_11_method_3_code 20 = .ok (.getfield 9, 3) := by decide +kernel
theorem dX9_put_23 : decode prog_11_method_3_code 23 = .ok (.aload_n 0, 1) := by decide +kernel
theorem dX9_put_24 : decode prog_11_method_3_code 24 = .ok (.getfield 13, 3) := by decide +kernel
theorem dX9_put_27 : decode prog_11_method_3_code 27 = .ok (.iload_n 1, 1) := by decide +kernel
theorem dX9_put_28 : decode prog_11_method_3_code 28 = .ok (.castore, 1) := by decide +kernel
theorem dX9_put_29 : decode prog_11_method_3_code 29 = .ok (.aload_n 0, 1) := by decide +kernel
theorem dX9_put_30 : decode prog_11_method_3_code 30 = .ok (.dup, 1) := by decide +kernel
theorem dX9_put_31 : decode prog_11_method_3_code 31 = .ok (.getfield 13, 3) := by decide +kernel
theorem dX9_put_34 : decode prog_11_method_3_code 34 = .ok (.iconst 1, 1) := by decide +kernel
theorem dX9_put_35 : decode prog_11_method_3_code 35 = .ok (.iadd, 1) := by decide +kernel
theorem dX9_put_36 : decode prog_11_method_3_code 36 = .ok (.putfield 13, 3) := by decide +kernel
theorem dX9_put_39 : decode prog_11_method_3_code 39 = .ok (.aload_n 0, 1) := by decide +kernel
theorem dX9_put_40 : decode prog_11_method_3_code 40 = .ok (.getfield 13, 3) := by decide +kernel
theorem dX9_put_43 : decode prog_11_method_3_code 43 = .ok (.ireturn, 1) := by decide +kernel
theorem nX9_empty : zDs yX9_empty 0 := ⟨by decide, by decide, by decide +kernel⟩
theorem dX9_empty_0 : decode prog_11_method_4_code 0 = .ok (.aload_n 0, 1) := by decide +kernel
theorem dX9_empty_1 : decode prog_11_method_4_code 1 = .ok (.iconst 0, 1) := by decide +kernel
theorem dX9_empty_2 : decode prog_11_method_4_code 2 = .ok (.putfield 13, 3) := by decide +kernel
theorem dX9_empty_5 : decode prog_11_method_4_code 5 = .ok (.return_, 1) := by decide +kernel
theorem nX9_kindOf : zDs yX9_kindOf 1 := ⟨by decide, by decide, by decide +kernel⟩
theorem dX9_kindOf_0 : decode prog_11_method_5_code 0 = .ok (.aload_n 0, 1) := by decide +kernel
theorem dX9_kindOf_1 : decode prog_11_method_5_code 1 = .ok (.getfield 17, 3) := by decide +kernel
theorem dX9_kindOf_4 : decode prog_11_method_5_code 4 = .ok (.iload_n 1, 1) := by decide +kernel
theorem dX9_kindOf_5 : decode prog_11_method_5_code 5 = .ok (.invokestatic 30, 3) := by decide +kernel
theorem dX9_kindOf_8 : decode prog_11_method_5_code 8 = .ok (.ireturn, 1) := by decide +kernel
theorem nX9_numberOf : zDs yX9_numberOf 2 := ⟨by decide, by decide, by decide +kernel⟩
theorem dX9_numberOf_0 : decode prog_11_method_6_code 0 = .ok (.aload_n 0, 1) := by decide +kernel
theorem dX9_numberOf_1 : decode prog_11_method_6_code 1 = .ok (.getfield 21, 3) := by decide +kernel
theorem dX9_numberOf_4 : decode prog_11_method_6_code 4 = .ok (.iload_n 1, 1) := by decide +kernel
theorem dX9_numberOf_5 : decode prog_11_method_6_code 5 = .ok (.iconst 3, 1) := by decide +kernel
theorem dX9_numberOf_6 : decode prog_11_method_6_code 6 = .ok (.imul, 1) := by decide +kernel
theorem dX9_numberOf_7 : decode prog_11_method_6_code 7 = .ok (.iload_n 2, 1) := by decide +kernel
theorem dX9_numberOf_8 : decode prog_11_method_6_code 8 = .ok (.iadd, 1) := by decide +kernel
theorem dX9_numberOf_9 : decode prog_11_method_6_code 9 = .ok (.invokestatic 30, 3) := by decide +kernel
theorem dX9_numberOf_12 : decode prog_11_method_6_code 12 = .ok (.ireturn, 1) := by decide +kernel
theorem nX9_scan : zDs yX9_scan 0 := ⟨by decide, by decide, by decide +kernel⟩
theorem dX9_scan_0 : decode prog_11_method_7_code 0 = .ok (.aload_n 0, 1) := by decide +kernel
theorem dX9_scan_1 : decode prog_11_method_7_code 1 = .ok (.iconst 0, 1) := by decide +kernel
theorem dX9_scan_2 : decode prog_11_method_7_code 2 = .ok (.putfield 27, 3) := by decide +kernel
theorem dX9_scan_5 : decode prog_11_method_7_code 5 = .ok (.aload_n 0, 1) := by decide +kernel
theorem dX9_scan_6 : decode prog_11_method_7_code 6 = .ok (.iconst 0, 1) := by decide +kernel
theorem dX9_scan_7 : decode prog_11_method_7_code 7 = .ok (.putfield 24, 3) := by decide +kernel
theorem dX9_scan_10 : decode prog_11_method_7_code 10 = .ok (.iconst 0, 1) := by decide +kernel
theorem dX9_scan_11 : decode prog_11_method_7_code 11 = .ok (.istore_n 1, 1) := by decide +kernel
theorem dX9_scan_12 : decode prog_11_method_7_code 12 = .ok (.iload_n 1, 1) := by decide +kernel
theorem dX9_scan_13 : decode prog_11_method_7_code 13 = .ok (.bipush 60, 2) := by decide +kernel
theorem dX9_scan_15 : decode prog_11_method_7_code 15 = .ok (.if_icmp .ge 66, 3) := by decide +kernel
theorem dX9_scan_18 : decode prog_11_method_7_code 18 = .ok (.aload_n 0, 1) := by decide +kernel
theorem dX9_scan_19 : decode prog_11_method_7_code 19 = .ok (.iload_n 1, 1) := by decide +kernel
theorem dX9_scan_20 : decode prog_11_method_7_code 20 = .ok (.invokevirtual 36, 3) := by decide +kernel
theorem dX9_scan_23 : decode prog_11_method_7_code 23 = .ok (.ifCond .ne 8, 3) := by decide +kernel
theorem dX9_scan_26 : decode prog_11_method_7_code 26 = .ok (.aload_n 0, 1) := by decide +kernel
theorem dX9_scan_27 : decode prog_11_method_7_code 27 = .ok (.getfield 27, 3) := by decide +kernel
theorem dX9_scan_30 : decode prog_11_method_7_code 30 = .ok (.ireturn, 1) := by decide +kernel
theorem dX9_scan_31 : decode prog_11_method_7_code 31 = .ok (.aload_n 0, 1) := by decide +kernel
theorem dX9_scan_32 : decode prog_11_method_7_code 32 = .ok (.getfield 27, 3) := by decide +kernel
theorem dX9_scan_35 : decode prog_11_method_7_code 35 = .ok (.aload_n 0, 1) := by decide +kernel
theorem dX9_scan_36 : decode prog_11_method_7_code 36 = .ok (.getfield 13, 3) := by decide +kernel
theorem dX9_scan_39 : decode prog_11_method_7_code 39 = .ok (.if_icmp .lt 12, 3) := by decide +kernel
theorem dX9_scan_42 : decode prog_11_method_7_code 42 = .ok (.aload_n 0, 1) := by decide +kernel
theorem dX9_scan_43 : decode prog_11_method_7_code 43 = .ok (.iload_n 1, 1) := by decide +kernel
theorem dX9_scan_44 : decode prog_11_method_7_code 44 = .ok (.iconst 1, 1) := by decide +kernel
theorem dX9_scan_45 : decode prog_11_method_7_code 45 = .ok (.iadd, 1) := by decide +kernel
theorem dX9_scan_46 : decode prog_11_method_7_code 46 = .ok (.putfield 24, 3) := by decide +kernel
theorem dX9_scan_49 : decode prog_11_method_7_code 49 = .ok (.iconst (-1), 1) := by decide +kernel
theorem dX9_scan_50 : decode prog_11_method_7_code 50 = .ok (.ireturn, 1) := by decide +kernel
theorem dX9_scan_51 : decode prog_11_method_7_code 51 = .ok (.aload_n 0, 1) := by decide +kernel
theorem dX9_scan_52 : decode prog_11_method_7_code 52 = .ok (.invokevirtual 40, 3) := by decide +kernel
theorem dX9_scan_55 : decode prog_11_method_7_code 55 = .ok (.bipush 59, 2) := by decide +kernel
theorem dX9_scan_57 : decode prog_11_method_7_code 57 = .ok (.if_icmp .eq 8, 3) := by decide +kernel
theorem dX9_scan_60 : decode prog_11_method_7_code 60 = .ok (.aload_n 0, 1) := by decide +kernel
theorem dX9_scan_61 : decode prog_11_method_7_code 61 = .ok (.getfield 27, 3) := by decide +kernel
theorem dX9_scan_64 : decode prog_11_method_7_code 64 = .ok (.ireturn, 1) := by decide +kernel
theorem dX9_scan_65 : decode prog_11_method_7_code 65 = .ok (.aload_n 0, 1) := by decide +kernel
theorem dX9_scan_66 : decode prog_11_method_7_code 66 = .ok (.dup, 1) := by decide +kernel
theorem dX9_scan_67 : decode prog_11_method_7_code 67 = .ok (.getfield 27, 3) := by decide +kernel
theorem dX9_scan_70 : decode prog_11_method_7_code 70 = .ok (.iconst 1, 1) := by decide +kernel
theorem dX9_scan_71 : decode prog_11_method_7_code 71 = .ok (.iadd, 1) := by decide +kernel
theorem dX9_scan_72 : decode prog_11_method_7_code 72 = .ok (.putfield 27, 3) := by decide +kernel
theorem dX9_scan_75 : decode prog_11_method_7_code 75 = .ok (.iinc 1 1, 3) := by decide +kernel
theorem dX9_scan_78 : decode prog_11_method_7_code 78 = .ok (.goto (-66), 3) := by decide +kernel
theorem dX9_scan_81 : decode prog_11_method_7_code 81 = .ok (.aload_n 0, 1) := by decide +kernel
theorem dX9_scan_82 : decode prog_11_method_7_code 82 = .ok (.getfield 27, 3) := by decide +kernel
theorem dX9_scan_85 : decode prog_11_method_7_code 85 = .ok (.ireturn, 1) := by decide +kernel
theorem nX9_signHere : zDs yX9_signHere 0 := ⟨by decide, by decide, by decide +kernel⟩
theorem dX9_signHere_0 : decode prog_11_method_8_code 0 = .ok (.aload_n 0, 1) := by decide +kernel
theorem dX9_signHere_1 : decode prog_11_method_8_code 1 = .ok (.getfield 27, 3) := by decide +kernel
theorem dX9_signHere_4 : decode prog_11_method_8_code 4 = .ok (.ifCond .lt 38, 3) := by decide +kernel
theorem dX9_signHere_7 : decode prog_11_method_8_code 7 = .ok (.aload_n 0, 1) := by decide +kernel
theorem dX9_signHere_8 : decode prog_11_method_8_code 8 = .ok (.getfield 27, 3) := by decide +kernel
theorem dX9_signHere_11 : decode prog_11_method_8_code 11 = .ok (.aload_n 0, 1) := by decide +kernel
theorem dX9_signHere_12 : decode prog_11_method_8_code 12 = .ok (.getfield 13, 3) := by decide +kernel
theorem dX9_signHere_15 : decode prog_11_method_8_code 15 = .ok (.if_icmp .ge 27, 3) := by decide +kernel
theorem dX9_signHere_18 : decode prog_11_method_8_code 18 = .ok (.aload_n 0, 1) := by decide +kernel
theorem dX9_signHere_19 : decode prog_11_method_8_code 19 = .ok (.getfield 27, 3) := by decide +kernel
theorem dX9_signHere_22 : decode prog_11_method_8_code 22 = .ok (.aload_n 0, 1) := by decide +kernel
theorem dX9_signHere_23 : decode prog_11_method_8_code 23 = .ok (.getfield 9, 3) := by decide +kernel
theorem dX9_signHere_26 : decode prog_11_method_8_code 26 = .ok (.arraylength, 1) := by decide +kernel
theorem dX9_signHere_27 : decode prog_11_method_8_code 27 = .ok (.if_icmp .ge 15, 3) := by decide +kernel
theorem dX9_signHere_30 : decode prog_11_method_8_code 30 = .ok (.aload_n 0, 1) := by decide +kernel
theorem dX9_signHere_31 : decode prog_11_method_8_code 31 = .ok (.getfield 9, 3) := by decide +kernel
theorem dX9_signHere_34 : decode prog_11_method_8_code 34 = .ok (.aload_n 0, 1) := by decide +kernel
theorem dX9_signHere_35 : decode prog_11_method_8_code 35 = .ok (.getfield 27, 3) := by decide +kernel
theorem dX9_signHere_38 : decode prog_11_method_8_code 38 = .ok (.caload, 1) := by decide +kernel
theorem dX9_signHere_39 : decode prog_11_method_8_code 39 = .ok (.goto 4, 3) := by decide +kernel
theorem dX9_signHere_42 : decode prog_11_method_8_code 42 = .ok (.iconst 0, 1) := by decide +kernel
theorem dX9_signHere_43 : decode prog_11_method_8_code 43 = .ok (.ireturn, 1) := by decide +kernel
theorem nX9_formOf : zDs yX9_formOf 1 := ⟨by decide, by decide, by decide +kernel⟩
theorem dX9_formOf_0 : decode prog_11_method_9_code 0 = .ok (.iload_n 0, 1) := by decide +kernel
theorem dX9_formOf_1 : decode prog_11_method_9_code 1 = .ok (.tableswitch 93 107 121 #[81, 93, 75, 93, 93, 93, 93, 93, 84, 93, 93, 93, 87, 78, 90], 75) := by decide +kernel
theorem dX9_formOf_76 : decode prog_11_method_9_code 76 = .ok (.ldc 44, 2) := by decide +kernel
theorem dX9_formOf_78 : decode prog_11_method_9_code 78 = .ok (.areturn, 1) := by decide +kernel
theorem dX9_formOf_79 : decode prog_11_method_9_code 79 = .ok (.ldc 46, 2) := by decide +kernel
theorem dX9_formOf_81 : decode prog_11_method_9_code 81 = .ok (.areturn, 1) := by decide +kernel
theorem dX9_formOf_82 : decode prog_11_method_9_code 82 = .ok (.ldc 48, 2) := by decide +kernel
theorem dX9_formOf_84 : decode prog_11_method_9_code 84 = .ok (.areturn, 1) := by decide +kernel
theorem dX9_formOf_85 : decode prog_11_method_9_code 85 = .ok (.ldc 48, 2) := by decide +kernel
theorem dX9_formOf_87 : decode prog_11_method_9_code 87 = .ok (.areturn, 1) := by decide +kernel
theorem dX9_formOf_88 : decode prog_11_method_9_code 88 = .ok (.ldc 50, 2) := by decide +kernel
theorem dX9_formOf_90 : decode prog_11_method_9_code 90 = .ok (.areturn, 1) := by decide +kernel
theorem dX9_formOf_91 : decode prog_11_method_9_code 91 = .ok (.ldc 52, 2) := by decide +kernel
theorem dX9_formOf_93 : decode prog_11_method_9_code 93 = .ok (.areturn, 1) := by decide +kernel
theorem dX9_formOf_94 : decode prog_11_method_9_code 94 = .ok (.ldc 54, 2) := by decide +kernel
theorem dX9_formOf_96 : decode prog_11_method_9_code 96 = .ok (.areturn, 1) := by decide +kernel
theorem nX9_readCommand : zDs yX9_readCommand 1 := ⟨by decide, by decide, by decide +kernel⟩
theorem dX9_readCommand_0 : decode prog_11_method_10_code 0 = .ok (.aload_n 0, 1) := by decide +kernel
theorem dX9_readCommand_1 : decode prog_11_method_10_code 1 = .ok (.invokevirtual 40, 3) := by decide +kernel
theorem dX9_readCommand_4 : decode prog_11_method_10_code 4 = .ok (.istore_n 2, 1) := by decide +kernel
theorem dX9_readCommand_5 : decode prog_11_method_10_code 5 = .ok (.iload_n 2, 1) := by decide +kernel
theorem dX9_readCommand_6 : decode prog_11_method_10_code 6 = .ok (.invokestatic 56, 3) := by decide +kernel
theorem dX9_readCommand_9 : decode prog_11_method_10_code 9 = .ok (.astore_n 3, 1) := by decide +kernel
theorem dX9_readCommand_10 : decode prog_11_method_10_code 10 = .ok (.aload_n 3, 1) := by decide +kernel
theorem dX9_readCommand_11 : decode prog_11_method_10_code 11 = .ok (.invokevirtual 60, 3) := by decide +kernel
theorem dX9_readCommand_14 : decode prog_11_method_10_code 14 = .ok (.ifCond .eq 5, 3) := by decide +kernel
theorem dX9_readCommand_17 : decode prog_11_method_10_code 17 = .ok (.iconst 0, 1) := by decide +kernel
theorem dX9_readCommand_18 : decode prog_11_method_10_code 18 = .ok (.ireturn, 1) := by decide +kernel
theorem dX9_readCommand_19 : decode prog_11_method_10_code 19 = .ok (.aload_n 0, 1) := by decide +kernel
theorem dX9_readCommand_20 : decode prog_11_method_10_code 20 = .ok (.dup, 1) := by decide +kernel
theorem dX9_readCommand_21 : decode prog_11_method_10_code 21 = .ok (.getfield 27, 3) := by decide +kernel
theorem dX9_readCommand_24 : decode prog_11_method_10_code 24 = .ok (.iconst 1, 1) := by decide +kernel
theorem dX9_readCommand_25 : decode prog_11_method_10_code 25 = .ok (.iadd, 1) := by decide +kernel
theorem dX9_readCommand_26 : decode prog_11_method_10_code 26 = .ok (.putfield 27, 3) := by decide +kernel
theorem dX9_readCommand_29 : decode prog_11_method_10_code 29 = .ok (.aload_n 0, 1) := by decide +kernel
theorem dX9_readCommand_30 : decode prog_11_method_10_code 30 = .ok (.getfield 17, 3) := by decide +kernel
theorem dX9_readCommand_33 : decode prog_11_method_10_code 33 = .ok (.iload_n 1, 1) := by decide +kernel
theorem dX9_readCommand_34 : decode prog_11_method_10_code 34 = .ok (.iload_n 2, 1) := by decide +kernel
theorem dX9_readCommand_35 : decode prog_11_method_10_code 35 = .ok (.invokestatic 66, 3) := by decide +kernel
theorem dX9_readCommand_38 : decode prog_11_method_10_code 38 = .ok (.iload_n 1, 1) := by decide +kernel
theorem dX9_readCommand_39 : decode prog_11_method_10_code 39 = .ok (.iconst 3, 1) := by decide +kernel
theorem dX9_readCommand_40 : decode prog_11_method_10_code 40 = .ok (.imul, 1) := by decide +kernel
theorem dX9_readCommand_41 : decode prog_11_method_10_code 41 = .ok (.istore 4, 2) := by decide +kernel
theorem dX9_readCommand_43 : decode prog_11_method_10_code 43 = .ok (.iconst 0, 1) := by decide +kernel
theorem dX9_readCommand_44 : decode prog_11_method_10_code 44 = .ok (.istore 5, 2) := by decide +kernel
theorem dX9_readCommand_46 : decode prog_11_method_10_code 46 = .ok (.iload 5, 2) := by decide +kernel
theorem dX9_readCommand_48 : decode prog_11_method_10_code 48 = .ok (.aload_n 3, 1) := by decide +kernel
theorem dX9_readCommand_49 : decode prog_11_method_10_code 49 = .ok (.invokevirtual 70, 3) := by decide +kernel
theorem dX9_readCommand_52 : decode prog_11_method_10_code 52 = .ok (.if_icmp .ge 98, 3) := by decide +kernel
theorem dX9_readCommand_55 : decode prog_11_method_10_code 55 = .ok (.aload_n 3, 1) := by decide +kernel
theorem dX9_readCommand_56 : decode prog_11_method_10_code 56 = .ok (.iload 5, 2) := by decide +kernel
theorem dX9_readCommand_58 : decode prog_11_method_10_code 58 = .ok (.invokevirtual 73, 3) := by decide +kernel
theorem dX9_readCommand_61 : decode prog_11_method_10_code 61 = .ok (.istore 6, 2) := by decide +kernel
theorem dX9_readCommand_63 : decode prog_11_method_10_code 63 = .ok (.iload 6, 2) := by decide +kernel
theorem dX9_readCommand_65 : decode prog_11_method_10_code 65 = .ok (.bipush 49, 2) := by decide +kernel
theorem dX9_readCommand_67 : decode prog_11_method_10_code 67 = .ok (.if_icmp .eq 10, 3) := by decide +kernel
theorem dX9_readCommand_70 : decode prog_11_method_10_code 70 = .ok (.iload 6, 2) := by decide +kernel
theorem dX9_readCommand_72 : decode prog_11_method_10_code 72 = .ok (.bipush 50, 2) := by decide +kernel
theorem dX9_readCommand_74 : decode prog_11_method_10_code 74 = .ok (.if_icmp .ne 46, 3) := by decide +kernel
theorem dX9_readCommand_77 : decode prog_11_method_10_code 77 = .ok (.aload_n 0, 1) := by decide +kernel
theorem dX9_readCommand_78 : decode prog_11_method_10_code 78 = .ok (.invokevirtual 40, 3) := by decide +kernel
theorem dX9_readCommand_81 : decode prog_11_method_10_code 81 = .ok (.invokestatic 77, 3) := by decide +kernel
theorem dX9_readCommand_84 : decode prog_11_method_10_code 84 = .ok (.ifCond .ne 5, 3) := by decide +kernel
theorem dX9_readCommand_87 : decode prog_11_method_10_code 87 = .ok (.iconst 0, 1) := by decide +kernel
theorem dX9_readCommand_88 : decode prog_11_method_10_code 88 = .ok (.ireturn, 1) := by decide +kernel
theorem dX9_readCommand_89 : decode prog_11_method_10_code 89 = .ok (.aload_n 0, 1) := by decide +kernel
theorem dX9_readCommand_90 : decode prog_11_method_10_code 90 = .ok (.getfield 21, 3) := by decide +kernel
theorem dX9_readCommand_93 : decode prog_11_method_10_code 93 = .ok (.iload 4, 2) := by decide +kernel
theorem dX9_readCommand_95 : decode prog_11_method_10_code 95 = .ok (.aload_n 0, 1) := by decide +kernel
theorem dX9_readCommand_96 : decode prog_11_method_10_code 96 = .ok (.iload 6, 2) := by decide +kernel
theorem dX9_readCommand_98 : decode prog_11_method_10_code 98 = .ok (.bipush 50, 2) := by decide +kernel
theorem dX9_readCommand_100 : decode prog_11_method_10_code 100 = .ok (.if_icmp .ne 7, 3) := by decide +kernel
theorem dX9_readCommand_103 : decode prog_11_method_10_code 103 = .ok (.iconst 1, 1) := by decide +kernel
theorem dX9_readCommand_104 : decode prog_11_method_10_code 104 = .ok (.goto 4, 3) := by decide +kernel
theorem dX9_readCommand_107 : decode prog_11_method_10_code 107 = .ok (.iconst 0, 1) := by decide +kernel
theorem dX9_readCommand_108 : decode prog_11_method_10_code 108 = .ok (.invokevirtual 81, 3) := by decide +kernel
theorem dX9_readCommand_111 : decode prog_11_method_10_code 111 = .ok (.invokestatic 66, 3) := by decide +kernel
theorem dX9_readCommand_114 : decode prog_11_method_10_code 114 = .ok (.iinc 4 1, 3) := by decide +kernel
theorem dX9_readCommand_117 : decode prog_11_method_10_code 117 = .ok (.goto 27, 3) := by decide +kernel
theorem dX9_readCommand_120 : decode prog_11_method_10_code 120 = .ok (.aload_n 0, 1) := by decide +kernel
theorem dX9_readCommand_121 : decode prog_11_method_10_code 121 = .ok (.invokevirtual 40, 3) := by decide +kernel
theorem dX9_readCommand_124 : decode prog_11_method_10_code 124 = .ok (.iload 6, 2) := by decide +kernel
theorem dX9_readCommand_126 : decode prog_11_method_10_code 126 = .ok (.if_icmp .ne 16, 3) := by decide +kernel
theorem dX9_readCommand_129 : decode prog_11_method_10_code 129 = .ok (.aload_n 0, 1) := by decide +kernel
theorem dX9_readCommand_130 : decode prog_11_method_10_code 130 = .ok (.dup, 1) := by decide +kernel
theorem dX9_readCommand_131 : decode prog_11_method_10_code 131 = .ok (.getfield 27, 3) := by decide +kernel
theorem dX9_readCommand_134 : decode prog_11_method_10_code 134 = .ok (.iconst 1, 1) := by decide +kernel
theorem dX9_readCommand_135 : decode prog_11_method_10_code 135 = .ok (.iadd, 1) := by decide +kernel
theorem dX9_readCommand_136 : decode prog_11_method_10_code 136 = .ok (.putfield 27, 3) := by decide +kernel
theorem dX9_readCommand_139 : decode prog_11_method_10_code 139 = .ok (.goto 5, 3) := by decide +kernel
theorem dX9_readCommand_142 : decode prog_11_method_10_code 142 = .ok (.iconst 0, 1) := by decide +kernel
theorem dX9_readCommand_143 : decode prog_11_method_10_code 143 = .ok (.ireturn, 1) := by decide +kernel
theorem dX9_readCommand_144 : decode prog_11_method_10_code 144 = .ok (.iinc 5 1, 3) := by decide +kernel
theorem dX9_readCommand_147 : decode prog_11_method_10_code 147 = .ok (.goto (-101), 3) := by decide +kernel
theorem dX9_readCommand_150 : decode prog_11_method_10_code 150 = .ok (.iconst 1, 1) := by decide +kernel
theorem dX9_readCommand_151 : decode prog_11_method_10_code 151 = .ok (.ireturn, 1) := by decide +kernel
theorem nX9_isDigit : zDs yX9_isDigit 1 := ⟨by decide, by decide, by decide +kernel⟩
theorem dX9_isDigit_0 : decode prog_11_method_11_code 0 = .ok (.iload_n 0, 1) := by decide +kernel
theorem dX9_isDigit_1 : decode prog_11_method_11_code 1 = .ok (.bipush 48, 2) := by decide +kernel
theorem dX9_isDigit_3 : decode prog_11_method_11_code 3 = .ok (.if_icmp .lt 13, 3) := by decide +kernel
theorem dX9_isDigit_6 : decode prog_11_method_11_code 6 = .ok (.iload_n 0, 1) := by decide +kernel
theorem dX9_isDigit_7 : decode prog_11_method_11_code 7 = .ok (.bipush 57, 2) := by decide +kernel
theorem dX9_isDigit_9 : decode prog_11_method_11_code 9 = .ok (.if_icmp .gt 7, 3) := by decide +kernel
theorem dX9_isDigit_12 : decode prog_11_method_11_code 12 = .ok (.iconst 1, 1) := by decide +kernel
theorem dX9_isDigit_13 : decode prog_11_method_11_code 13 = .ok (.goto 4, 3) := by decide +kernel
theorem dX9_isDigit_16 : decode prog_11_method_11_code 16 = .ok (.iconst 0, 1) := by decide +kernel
theorem dX9_isDigit_17 : decode prog_11_method_11_code 17 = .ok (.ireturn, 1) := by decide +kernel
theorem nX9_readNumber : zDs yX9_readNumber 1 := ⟨by decide, by decide, by decide +kernel⟩
theorem dX9_readNumber_0 : decode prog_11_method_12_code 0 = .ok (.aload_n 0, 1) := by decide +kernel
theorem dX9_readNumber_1 : decode prog_11_method_12_code 1 = .ok (.invokevirtual 85, 3) := by decide +kernel
theorem dX9_readNumber_4 : decode prog_11_method_12_code 4 = .ok (.istore_n 2, 1) := by decide +kernel
theorem dX9_readNumber_5 : decode prog_11_method_12_code 5 = .ok (.iload_n 1, 1) := by decide +kernel
theorem dX9_readNumber_6 : decode prog_11_method_12_code 6 = .ok (.ifCond .eq 23, 3) := by decide +kernel
theorem dX9_readNumber_9 : decode prog_11_method_12_code 9 = .ok (.aload_n 0, 1) := by decide +kernel
theorem dX9_readNumber_10 : decode prog_11_method_12_code 10 = .ok (.invokevirtual 40, 3) := by decide +kernel
theorem dX9_readNumber_13 : decode prog_11_method_12_code 13 = .ok (.invokestatic 77, 3) := by decide +kernel
theorem dX9_readNumber_16 : decode prog_11_method_12_code 16 = .ok (.ifCond .eq 13, 3) := by decide +kernel
theorem dX9_readNumber_19 : decode prog_11_method_12_code 19 = .ok (.bipush 10, 2) := by decide +kernel
theorem dX9_readNumber_21 : decode prog_11_method_12_code 21 = .ok (.iload_n 2, 1) := by decide +kernel
theorem dX9_readNumber_22 : decode prog_11_method_12_code 22 = .ok (.imul, 1) := by decide +kernel
theorem dX9_readNumber_23 : decode prog_11_method_12_code 23 = .ok (.aload_n 0, 1) := by decide +kernel
theorem dX9_readNumber_24 : decode prog_11_method_12_code 24 = .ok (.invokevirtual 85, 3) := by decide +kernel
theorem dX9_readNumber_27 : decode prog_11_method_12_code 27 = .ok (.iadd, 1) := by decide +kernel
theorem dX9_readNumber_28 : decode prog_11_method_12_code 28 = .ok (.istore_n 2, 1) := by decide +kernel
theorem dX9_readNumber_29 : decode prog_11_method_12_code 29 = .ok (.iload_n 2, 1) := by decide +kernel
theorem dX9_readNumber_30 : decode prog_11_method_12_code 30 = .ok (.ireturn, 1) := by decide +kernel
theorem nX9_readDigit : zDs yX9_readDigit 0 := ⟨by decide, by decide, by decide +kernel⟩
theorem dX9_readDigit_0 : decode prog_11_method_13_code 0 = .ok (.aload_n 0, 1) := by decide +kernel
theorem dX9_readDigit_1 : decode prog_11_method_13_code 1 = .ok (.invokevirtual 40, 3) := by decide +kernel
theorem dX9_readDigit_4 : decode prog_11_method_13_code 4 = .ok (.bipush 48, 2) := by decide +kernel
theorem dX9_readDigit_6 : decode prog_11_method_13_code 6 = .ok (.isub, 1) := by decide +kernel
theorem dX9_readDigit_7 : decode prog_11_method_13_code 7 = .ok (.istore_n 1, 1) := by decide +kernel
theorem dX9_readDigit_8 : decode prog_11_method_13_code 8 = .ok (.aload_n 0, 1) := by decide +kernel
theorem dX9_readDigit_9 : decode prog_11_method_13_code 9 = .ok (.dup, 1) := by decide +kernel
theorem dX9_readDigit_10 : decode prog_11_method_13_code 10 = .ok (.getfield 27, 3) := by decide +kernel
theorem dX9_readDigit_13 : decode prog_11_method_13_code 13 = .ok (.iconst 1, 1) := by decide +kernel
theorem dX9_readDigit_14 : decode prog_11_method_13_code 14 = .ok (.iadd, 1) := by decide +kernel
theorem dX9_readDigit_15 : decode prog_11_method_13_code 15 = .ok (.putfield 27, 3) := by decide +kernel
theorem dX9_readDigit_18 : decode prog_11_method_13_code 18 = .ok (.iload_n 1, 1) := by decide +kernel
theorem dX9_readDigit_19 : decode prog_11_method_13_code 19 = .ok (.ireturn, 1) := by decide +kernel
theorem pnX10 : plainName RX10 = true := by decide +kernel
theorem nX10_init : zDs yX10_init 0 := ⟨by decide, by decide, by decide +kernel⟩
theorem dX10_init_0 : decode prog_1_method_1_code 0 = .ok (.aload_n 0, 1) := by decide +kernel
theorem dX10_init_1 : decode prog_1_method_1_code 1 = .ok (.invokespecial 1, 3) := by decide +kernel
theorem dX10_init_4 : decode prog_1_method_1_code 4 = .ok (.aload_n 0, 1) := by decide +kernel
theorem dX10_init_5 : decode prog_1_method_1_code 5 = .ok (.new 7, 3) := by decide +kernel
theorem dX10_init_8 : decode prog_1_method_1_code 8 = .ok (.dup, 1) := by decide +kernel
theorem dX10_init_9 : decode prog_1_method_1_code 9 = .ok (.invokespecial 9, 3) := by decide +kernel
theorem dX10_init_12 : decode prog_1_method_1_code 12 = .ok (.putfield 10, 3) := by decide +kernel
theorem dX10_init_15 : decode prog_1_method_1_code 15 = .ok (.aload_n 0, 1) := by decide +kernel
theorem dX10_init_16 : decode prog_1_method_1_code 16 = .ok (.new 7, 3) := by decide +kernel
theorem dX10_init_19 : decode prog_1_method_1_code 19 = .ok (.dup, 1) := by decide +kernel
theorem dX10_init_20 : decode prog_1_method_1_code 20 = .ok (.invokespecial 9, 3) := by decide +kernel
theorem dX10_init_23 : decode prog_1_method_1_code 23 = .ok (.putfield 16, 3) := by decide +kernel
theorem dX10_init_26 : decode prog_1_method_1_code 26 = .ok (.aload_n 0, 1) := by decide +kernel
theorem dX10_init_27 : decode prog_1_method_1_code 27 = .ok (.new 7, 3) := by decide +kernel
theorem dX10_init_30 : decode prog_1_method_1_code 30 = .ok (.dup, 1) := by decide +kernel
theorem dX10_init_31 : decode prog_1_method_1_code 31 = .ok (.invokespecial 9, 3) := by decide +kernel
theorem dX10_init_34 : decode prog_1_method_1_code 34 = .ok (.putfield 19, 3) := by decide +kernel
theorem dX10_init_37 : decode prog_1_method_1_code 37 = .ok (.aload_n 0, 1) := by decide +kernel
theorem dX10_init_38 : decode prog_1_method_1_code 38 = .ok (.iconst 0, 1) := by decide +kernel
theorem dX10_init_39 : decode prog_1_method_1_code 39 = .ok (.putfield 22, 3) := by decide +kernel
theorem dX10_init_42 : decode prog_1_method_1_code 42 = .ok (.aload_n 0, 1) := by decide +kernel
theorem dX10_init_43 : decode prog_1_method_1_code 43 = .ok (.new 26, 3) := by decide +kernel
theorem dX10_init_46 : decode prog_1_method_1_code 46 = .ok (.dup, 1) := by decide +kernel
theorem dX10_init_47 : decode prog_1_method_1_code 47 = .ok (.bipush 8, 2) := by decide +kernel
theorem dX10_init_49 : decode prog_1_method_1_code 49 = .ok (.invokespecial 28, 3) := by decide +kernel
theorem dX10_init_52 : decode prog_1_method_1_code 52 = .ok (.putfield 31, 3) := by decide +kernel
theorem dX10_init_55 : decode prog_1_method_1_code 55 = .ok (.aload_n 0, 1) := by decide +kernel
theorem dX10_init_56 : decode prog_1_method_1_code 56 = .ok (.new 35, 3) := by decide +kernel
theorem dX10_init_59 : decode prog_1_method_1_code 59 = .ok (.dup, 1) := by decide +kernel
theorem dX10_init_60 : decode prog_1_method_1_code 60 = .ok (.invokespecial 37, 3) := by decide +kernel
theorem dX10_init_63 : decode prog_1_method_1_code 63 = .ok (.putfield 38, 3) := by decide +kernel
theorem dX10_init_66 : decode prog_1_method_1_code 66 = .ok (.aload_n 0, 1) := by decide +kernel
theorem dX10_init_67 : decode prog_1_method_1_code 67 = .ok (.new 42, 3) := by decide +kernel
theorem dX10_init_70 : decode prog_1_method_1_code 70 = .ok (.dup, 1) := by decide +kernel
theorem dX10_init_71 : decode prog_1_method_1_code 71 = .ok (.invokespecial 44, 3) := by decide +kernel
theorem dX10_init_74 : decode prog_1_method_1_code 74 = .ok (.putfield 45, 3) := by decide +kernel
theorem dX10_init_77 : decode prog_1_method_1_code 77 = .ok (.aload_n 0, 1) := by decide +kernel
theorem dX10_init_78 : decode prog_1_method_1_code 78 = .ok (.iconst (-1), 1) := by decide +kernel
theorem dX10_init_79 : decode prog_1_method_1_code 79 = .ok (.putfield 49, 3) := by decide +kernel
theorem dX10_init_82 : decode prog_1_method_1_code 82 = .ok (.aload_n 0, 1) := by decide +kernel
theorem dX10_init_83 : decode prog_1_method_1_code 83 = .ok (.new 53, 3) := by decide +kernel
theorem dX10_init_86 : decode prog_1_method_1_code 86 = .ok (.dup, 1) := by decide +kernel
theorem dX10_init_87 : decode prog_1_method_1_code 87 = .ok (.invokespecial 55, 3) := by decide +kernel
theorem dX10_init_90 : decode prog_1_method_1_code 90 = .ok (.putfield 56, 3) := by decide +kernel
theorem dX10_init_93 : decode prog_1_method_1_code 93 = .ok (.aload_n 0, 1) := by decide +kernel
theorem dX10_init_94 : decode prog_1_method_1_code 94 = .ok (.bipush 12, 2) := by decide +kernel
theorem dX10_init_96 : decode prog_1_method_1_code 96 = .ok (.newarray .int, 2) := by decide +kernel
theorem dX10_init_98 : decode prog_1_method_1_code 98 = .ok (.putfield 62, 3) := by decide +kernel
theorem dX10_init_101 : decode prog_1_method_1_code 101 = .ok (.return_, 1) := by decide +kernel
theorem nX10_stone : zDs yX10_stone 3 := ⟨by decide, by decide, by decide +kernel⟩
theorem dX10_stone_0 : decode prog_1_method_2_code 0 = .ok (.aload_n 0, 1) := by decide +kernel
theorem dX10_stone_1 : decode prog_1_method_2_code 1 = .ok (.getfield 10, 3) := by decide +kernel
theorem dX10_stone_4 : decode prog_1_method_2_code 4 = .ok (.iload_n 1, 1) := by decide +kernel
theorem dX10_stone_5 : decode prog_1_method_2_code 5 = .ok (.iload_n 2, 1) := by decide +kernel
theorem dX10_stone_6 : decode prog_1_method_2_code 6 = .ok (.iload_n 3, 1) := by decide +kernel
theorem dX10_stone_7 : decode prog_1_method_2_code 7 = .ok (.aload_n 0, 1) := by decide +kernel
theorem dX10_stone_8 : decode prog_1_method_2_code 8 = .ok (.getfield 38, 3) := by decide +kernel
theorem dX10_stone_11 : decode prog_1_method_2_code 11 = .ok (.invokevirtual 66, 3) := by decide +kernel
theorem dX10_stone_14 : decode prog_1_method_2_code 14 = .ok (.ifCond .eq 13, 3) := by decide +kernel
theorem dX10_stone_17 : decode prog_1_method_2_code 17 = .ok (.new 70, 3) := by decide +kernel
theorem dX10_stone_20 : decode prog_1_method_2_code 20 = .ok (.dup, 1) := by decide +kernel
theorem dX10_stone_21 : decode prog_1_method_2_code 21 = .ok (.ldc 72, 2) := by decide +kernel
theorem dX10_stone_23 : decode prog_1_method_2_code 23 = .ok (.invokespecial 74, 3) := by decide +kernel
theorem dX10_stone_26 : decode prog_1_method_2_code 26 = .ok (.athrow, 1) := by decide +kernel
theorem dX10_stone_27 : decode prog_1_method_2_code 27 = .ok (.aload_n 0, 1) := by decide +kernel
theorem dX10_stone_28 : decode prog_1_method_2_code 28 = .ok (.getfield 31, 3) := by decide +kernel
theorem dX10_stone_31 : decode prog_1_method_2_code 31 = .ok (.aload_n 0, 1) := by decide +kernel
theorem dX10_stone_32 : decode prog_1_method_2_code 32 = .ok (.getfield 10, 3) := by decide +kernel
theorem dX10_stone_35 : decode prog_1_method_2_code 35 = .ok (.invokevirtual 77, 3) := by decide +kernel
theorem dX10_stone_38 : decode prog_1_method_2_code 38 = .ok (.aload_n 0, 1) := by decide +kernel
theorem dX10_stone_39 : decode prog_1_method_2_code 39 = .ok (.getfield 10, 3) := by decide +kernel
theorem dX10_stone_42 : decode prog_1_method_2_code 42 = .ok (.getfield 81, 3) := by decide +kernel
theorem dX10_stone_45 : decode prog_1_method_2_code 45 = .ok (.iload_n 1, 1) := by decide +kernel
theorem dX10_stone_46 : decode prog_1_method_2_code 46 = .ok (.iload_n 2, 1) := by decide +kernel
theorem dX10_stone_47 : decode prog_1_method_2_code 47 = .ok (.iload_n 3, 1) := by decide +kernel
theorem dX10_stone_48 : decode prog_1_method_2_code 48 = .ok (.invokevirtual 85, 3) := by decide +kernel
theorem dX10_stone_51 : decode prog_1_method_2_code 51 = .ok (.ireturn, 1) := by decide +kernel
theorem nX10_flood : zDs yX10_flood 3 := ⟨by decide, by decide, by decide +kernel⟩
theorem dX10_flood_0 : decode prog_1_method_3_code 0 = .ok (.aload_n 0, 1) := by decide +kernel
theorem dX10_flood_1 : decode prog_1_method_3_code 1 = .ok (.getfield 10, 3) := by decide +kernel
theorem dX10_flood_4 : decode prog_1_method_3_code 4 = .ok (.iload_n 1, 1) := by decide +kernel
theorem dX10_flood_5 : decode prog_1_method_3_code 5 = .ok (.iload_n 2, 1) := by decide +kernel
theorem dX10_flood_6 : decode prog_1_method_3_code 6 = .ok (.iload_n 3, 1) := by decide +kernel
theorem dX10_flood_7 : decode prog_1_method_3_code 7 = .ok (.aload_n 0, 1) := by decide +kernel
theorem dX10_flood_8 : decode prog_1_method_3_code 8 = .ok (.getfield 38, 3) := by decide +kernel
theorem dX10_flood_11 : decode prog_1_method_3_code 11 = .ok (.invokevirtual 91, 3) := by decide +kernel
theorem dX10_flood_14 : decode prog_1_method_3_code 14 = .ok (.ifCond .eq 13, 3) := by decide +kernel
theorem dX10_flood_17 : decode prog_1_method_3_code 17 = .ok (.new 70, 3) := by decide +kernel
theorem dX10_flood_20 : decode prog_1_method_3_code 20 = .ok (.dup, 1) := by decide +kernel
theorem dX10_flood_21 : decode prog_1_method_3_code 21 = .ok (.ldc 94, 2) := by decide +kernel
theorem dX10_flood_23 : decode prog_1_method_3_code 23 = .ok (.invokespecial 74, 3) := by decide +kernel
theorem dX10_flood_26 : decode prog_1_method_3_code 26 = .ok (.athrow, 1) := by decide +kernel
theorem dX10_flood_27 : decode prog_1_method_3_code 27 = .ok (.aload_n 0, 1) := by decide +kernel
theorem dX10_flood_28 : decode prog_1_method_3_code 28 = .ok (.getfield 31, 3) := by decide +kernel
theorem dX10_flood_31 : decode prog_1_method_3_code 31 = .ok (.aload_n 0, 1) := by decide +kernel
theorem dX10_flood_32 : decode prog_1_method_3_code 32 = .ok (.getfield 10, 3) := by decide +kernel
theorem dX10_flood_35 : decode prog_1_method_3_code 35 = .ok (.invokevirtual 77, 3) := by decide +kernel
theorem dX10_flood_38 : decode prog_1_method_3_code 38 = .ok (.aload_n 0, 1) := by decide +kernel
theorem dX10_flood_39 : decode prog_1_method_3_code 39 = .ok (.getfield 10, 3) := by decide +kernel
theorem dX10_flood_42 : decode prog_1_method_3_code 42 = .ok (.getfield 96, 3) := by decide +kernel
theorem dX10_flood_45 : decode prog_1_method_3_code 45 = .ok (.iload_n 1, 1) := by decide +kernel
theorem dX10_flood_46 : decode prog_1_method_3_code 46 = .ok (.iload_n 2, 1) := by decide +kernel
theorem dX10_flood_47 : decode prog_1_method_3_code 47 = .ok (.iload_n 3, 1) := by decide +kernel
theorem dX10_flood_48 : decode prog_1_method_3_code 48 = .ok (.invokevirtual 100, 3) := by decide +kernel
theorem dX10_flood_51 : decode prog_1_method_3_code 51 = .ok (.ireturn, 1) := by decide +kernel
theorem nX10_epoch : zDs yX10_epoch 2 := ⟨by decide, by decide, by decide +kernel⟩
theorem dX10_epoch_0 : decode prog_1_method_4_code 0 = .ok (.aload_n 0, 1) := by decide +kernel
theorem dX10_epoch_1 : decode prog_1_method_4_code 1 = .ok (.getfield 10, 3) := by decide +kernel
theorem dX10_epoch_4 : decode prog_1_method_4_code 4 = .ok (.iload_n 1, 1) := by decide +kernel
theorem dX10_epoch_5 : decode prog_1_method_4_code 5 = .ok (.iload_n 2, 1) := by decide +kernel
theorem dX10_epoch_6 : decode prog_1_method_4_code 6 = .ok (.aload_n 0, 1) := by decide +kernel
theorem dX10_epoch_7 : decode prog_1_method_4_code 7 = .ok (.getfield 38, 3) := by decide +kernel
theorem dX10_epoch_10 : decode prog_1_method_4_code 10 = .ok (.invokevirtual 101, 3) := by decide +kernel
theorem dX10_epoch_13 : decode prog_1_method_4_code 13 = .ok (.ifCond .eq 13, 3) := by decide +kernel
theorem dX10_epoch_16 : decode prog_1_method_4_code 16 = .ok (.new 70, 3) := by decide +kernel
theorem dX10_epoch_19 : decode prog_1_method_4_code 19 = .ok (.dup, 1) := by decide +kernel
theorem dX10_epoch_20 : decode prog_1_method_4_code 20 = .ok (.ldc 105, 2) := by decide +kernel
theorem dX10_epoch_22 : decode prog_1_method_4_code 22 = .ok (.invokespecial 74, 3) := by decide +kernel
theorem dX10_epoch_25 : decode prog_1_method_4_code 25 = .ok (.athrow, 1) := by decide +kernel
theorem dX10_epoch_26 : decode prog_1_method_4_code 26 = .ok (.aload_n 0, 1) := by decide +kernel
theorem dX10_epoch_27 : decode prog_1_method_4_code 27 = .ok (.getfield 31, 3) := by decide +kernel
theorem dX10_epoch_30 : decode prog_1_method_4_code 30 = .ok (.aload_n 0, 1) := by decide +kernel
theorem dX10_epoch_31 : decode prog_1_method_4_code 31 = .ok (.getfield 10, 3) := by decide +kernel
theorem dX10_epoch_34 : decode prog_1_method_4_code 34 = .ok (.invokevirtual 77, 3) := by decide +kernel
theorem dX10_epoch_37 : decode prog_1_method_4_code 37 = .ok (.aload_n 0, 1) := by decide +kernel
theorem dX10_epoch_38 : decode prog_1_method_4_code 38 = .ok (.getfield 10, 3) := by decide +kernel
theorem dX10_epoch_41 : decode prog_1_method_4_code 41 = .ok (.getfield 107, 3) := by decide +kernel
theorem dX10_epoch_44 : decode prog_1_method_4_code 44 = .ok (.iload_n 1, 1) := by decide +kernel
theorem dX10_epoch_45 : decode prog_1_method_4_code 45 = .ok (.iload_n 2, 1) := by decide +kernel
theorem dX10_epoch_46 : decode prog_1_method_4_code 46 = .ok (.invokevirtual 111, 3) := by decide +kernel
theorem dX10_epoch_49 : decode prog_1_method_4_code 49 = .ok (.ireturn, 1) := by decide +kernel
theorem nX10_chisel : zDs yX10_chisel 0 := ⟨by decide, by decide, by decide +kernel⟩
theorem dX10_chisel_0 : decode prog_1_method_5_code 0 = .ok (.aload_n 0, 1) := by decide +kernel
theorem dX10_chisel_1 : decode prog_1_method_5_code 1 = .ok (.getfield 10, 3) := by decide +kernel
theorem dX10_chisel_4 : decode prog_1_method_5_code 4 = .ok (.aload_n 0, 1) := by decide +kernel
theorem dX10_chisel_5 : decode prog_1_method_5_code 5 = .ok (.getfield 38, 3) := by decide +kernel
theorem dX10_chisel_8 : decode prog_1_method_5_code 8 = .ok (.invokevirtual 117, 3) := by decide +kernel
theorem dX10_chisel_11 : decode prog_1_method_5_code 11 = .ok (.ifCond .eq 13, 3) := by decide +kernel
theorem dX10_chisel_14 : decode prog_1_method_5_code 14 = .ok (.new 70, 3) := by decide +kernel
theorem dX10_chisel_17 : decode prog_1_method_5_code 17 = .ok (.dup, 1) := by decide +kernel
theorem dX10_chisel_18 : decode prog_1_method_5_code 18 = .ok (.ldc 121, 2) := by decide +kernel
theorem dX10_chisel_20 : decode prog_1_method_5_code 20 = .ok (.invokespecial 74, 3) := by decide +kernel
theorem dX10_chisel_23 : decode prog_1_method_5_code 23 = .ok (.athrow, 1) := by decide +kernel
theorem dX10_chisel_24 : decode prog_1_method_5_code 24 = .ok (.aload_n 0, 1) := by decide +kernel
theorem dX10_chisel_25 : decode prog_1_method_5_code 25 = .ok (.getfield 31, 3) := by decide +kernel
theorem dX10_chisel_28 : decode prog_1_method_5_code 28 = .ok (.aload_n 0, 1) := by decide +kernel
theorem dX10_chisel_29 : decode prog_1_method_5_code 29 = .ok (.getfield 10, 3) := by decide +kernel
theorem dX10_chisel_32 : decode prog_1_method_5_code 32 = .ok (.invokevirtual 77, 3) := by decide +kernel
theorem dX10_chisel_35 : decode prog_1_method_5_code 35 = .ok (.aload_n 0, 1) := by decide +kernel
theorem dX10_chisel_36 : decode prog_1_method_5_code 36 = .ok (.getfield 10, 3) := by decide +kernel
theorem dX10_chisel_39 : decode prog_1_method_5_code 39 = .ok (.getfield 123, 3) := by decide +kernel
theorem dX10_chisel_42 : decode prog_1_method_5_code 42 = .ok (.invokevirtual 127, 3) := by decide +kernel
theorem dX10_chisel_45 : decode prog_1_method_5_code 45 = .ok (.ireturn, 1) := by decide +kernel
theorem nX10_cut : zDs yX10_cut 3 := ⟨by decide, by decide, by decide +kernel⟩
theorem dX10_cut_0 : decode prog_1_method_6_code 0 = .ok (.aload_n 0, 1) := by decide +kernel
theorem dX10_cut_1 : decode prog_1_method_6_code 1 = .ok (.getfield 10, 3) := by decide +kernel
theorem dX10_cut_4 : decode prog_1_method_6_code 4 = .ok (.iload_n 1, 1) := by decide +kernel
theorem dX10_cut_5 : decode prog_1_method_6_code 5 = .ok (.iload_n 2, 1) := by decide +kernel
theorem dX10_cut_6 : decode prog_1_method_6_code 6 = .ok (.iload_n 3, 1) := by decide +kernel
theorem dX10_cut_7 : decode prog_1_method_6_code 7 = .ok (.aload_n 0, 1) := by decide +kernel
theorem dX10_cut_8 : decode prog_1_method_6_code 8 = .ok (.getfield 38, 3) := by decide +kernel
theorem dX10_cut_11 : decode prog_1_method_6_code 11 = .ok (.invokevirtual 132, 3) := by decide +kernel
theorem dX10_cut_14 : decode prog_1_method_6_code 14 = .ok (.ifCond .eq 13, 3) := by decide +kernel
theorem dX10_cut_17 : decode prog_1_method_6_code 17 = .ok (.new 70, 3) := by decide +kernel
theorem dX10_cut_20 : decode prog_1_method_6_code 20 = .ok (.dup, 1) := by decide +kernel
theorem dX10_cut_21 : decode prog_1_method_6_code 21 = .ok (.ldc 135, 2) := by decide +kernel
theorem dX10_cut_23 : decode prog_1_method_6_code 23 = .ok (.invokespecial 74, 3) := by decide +kernel
theorem dX10_cut_26 : decode prog_1_method_6_code 26 = .ok (.athrow, 1) := by decide +kernel
theorem dX10_cut_27 : decode prog_1_method_6_code 27 = .ok (.aload_n 0, 1) := by decide +kernel
theorem dX10_cut_28 : decode prog_1_method_6_code 28 = .ok (.getfield 31, 3) := by decide +kernel
theorem dX10_cut_31 : decode prog_1_method_6_code 31 = .ok (.aload_n 0, 1) := by decide +kernel
theorem dX10_cut_32 : decode prog_1_method_6_code 32 = .ok (.getfield 10, 3) := by decide +kernel
theorem dX10_cut_35 : decode prog_1_method_6_code 35 = .ok (.invokevirtual 77, 3) := by decide +kernel
theorem dX10_cut_38 : decode prog_1_method_6_code 38 = .ok (.aload_n 0, 1) := by decide +kernel
theorem dX10_cut_39 : decode prog_1_method_6_code 39 = .ok (.getfield 10, 3) := by decide +kernel
theorem dX10_cut_42 : decode prog_1_method_6_code 42 = .ok (.iload_n 1, 1) := by decide +kernel
theorem dX10_cut_43 : decode prog_1_method_6_code 43 = .ok (.iload_n 2, 1) := by decide +kernel
theorem dX10_cut_44 : decode prog_1_method_6_code 44 = .ok (.iload_n 3, 1) := by decide +kernel
theorem dX10_cut_45 : decode prog_1_method_6_code 45 = .ok (.invokevirtual 137, 3) := by decide +kernel
theorem dX10_cut_48 : decode prog_1_method_6_code 48 = .ok (.ireturn, 1) := by decide +kernel
theorem nX10_efface : zDs yX10_efface 2 := ⟨by decide, by decide, by decide +kernel⟩
theorem dX10_efface_0 : decode prog_1_method_7_code 0 = .ok (.aload_n 0, 1) := by decide +kernel
theorem dX10_efface_1 : decode prog_1_method_7_code 1 = .ok (.getfield 10, 3) := by decide +kernel
theorem dX10_efface_4 : decode prog_1_method_7_code 4 = .ok (.iload_n 1, 1) := by decide +kernel
theorem dX10_efface_5 : decode prog_1_method_7_code 5 = .ok (.iload_n 2, 1) := by decide +kernel
theorem dX10_efface_6 : decode prog_1_method_7_code 6 = .ok (.aload_n 0, 1) := by decide +kernel
theorem dX10_efface_7 : decode prog_1_method_7_code 7 = .ok (.getfield 38, 3) := by decide +kernel
theorem dX10_efface_10 : decode prog_1_method_7_code 10 = .ok (.invokevirtual 140, 3) := by decide +kernel
theorem dX10_efface_13 : decode prog_1_method_7_code 13 = .ok (.ifCond .eq 13, 3) := by decide +kernel
theorem dX10_efface_16 : decode prog_1_method_7_code 16 = .ok (.new 70, 3) := by decide +kernel
theorem dX10_efface_19 : decode prog_1_method_7_code 19 = .ok (.dup, 1) := by decide +kernel
theorem dX10_efface_20 : decode prog_1_method_7_code 20 = .ok (.ldc 143, 2) := by decide +kernel
theorem dX10_efface_22 : decode prog_1_method_7_code 22 = .ok (.invokespecial 74, 3) := by decide +kernel
theorem dX10_efface_25 : decode prog_1_method_7_code 25 = .ok (.athrow, 1) := by decide +kernel
theorem dX10_efface_26 : decode prog_1_method_7_code 26 = .ok (.aload_n 0, 1) := by decide +kernel
theorem dX10_efface_27 : decode prog_1_method_7_code 27 = .ok (.getfield 31, 3) := by decide +kernel
theorem dX10_efface_30 : decode prog_1_method_7_code 30 = .ok (.aload_n 0, 1) := by decide +kernel
theorem dX10_efface_31 : decode prog_1_method_7_code 31 = .ok (.getfield 10, 3) := by decide +kernel
theorem dX10_efface_34 : decode prog_1_method_7_code 34 = .ok (.invokevirtual 77, 3) := by decide +kernel
theorem dX10_efface_37 : decode prog_1_method_7_code 37 = .ok (.aload_n 0, 1) := by decide +kernel
theorem dX10_efface_38 : decode prog_1_method_7_code 38 = .ok (.getfield 10, 3) := by decide +kernel
theorem dX10_efface_41 : decode prog_1_method_7_code 41 = .ok (.getfield 145, 3) := by decide +kernel
theorem dX10_efface_44 : decode prog_1_method_7_code 44 = .ok (.iload_n 1, 1) := by decide +kernel
theorem dX10_efface_45 : decode prog_1_method_7_code 45 = .ok (.iload_n 2, 1) := by decide +kernel
theorem dX10_efface_46 : decode prog_1_method_7_code 46 = .ok (.invokevirtual 149, 3) := by decide +kernel
theorem dX10_efface_49 : decode prog_1_method_7_code 49 = .ok (.ireturn, 1) := by decide +kernel
theorem nX10_sharpen : zDs yX10_sharpen 1 := ⟨by decide, by decide, by decide +kernel⟩
theorem dX10_sharpen_0 : decode prog_1_method_8_code 0 = .ok (.aload_n 0, 1) := by decide +kernel
theorem dX10_sharpen_1 : decode prog_1_method_8_code 1 = .ok (.getfield 10, 3) := by decide +kernel
theorem dX10_sharpen_4 : decode prog_1_method_8_code 4 = .ok (.iload_n 1, 1) := by decide +kernel
theorem dX10_sharpen_5 : decode prog_1_method_8_code 5 = .ok (.aload_n 0, 1) := by decide +kernel
theorem dX10_sharpen_6 : decode prog_1_method_8_code 6 = .ok (.getfield 38, 3) := by decide +kernel
theorem dX10_sharpen_9 : decode prog_1_method_8_code 9 = .ok (.invokevirtual 154, 3) := by decide +kernel
theorem dX10_sharpen_12 : decode prog_1_method_8_code 12 = .ok (.ifCond .eq 13, 3) := by decide +kernel
theorem dX10_sharpen_15 : decode prog_1_method_8_code 15 = .ok (.new 70, 3) := by decide +kernel
theorem dX10_sharpen_18 : decode prog_1_method_8_code 18 = .ok (.dup, 1) := by decide +kernel
theorem dX10_sharpen_19 : decode prog_1_method_8_code 19 = .ok (.ldc 158, 2) := by decide +kernel
theorem dX10_sharpen_21 : decode prog_1_method_8_code 21 = .ok (.invokespecial 74, 3) := by decide +kernel
theorem dX10_sharpen_24 : decode prog_1_method_8_code 24 = .ok (.athrow, 1) := by decide +kernel
theorem dX10_sharpen_25 : decode prog_1_method_8_code 25 = .ok (.aload_n 0, 1) := by decide +kernel
theorem dX10_sharpen_26 : decode prog_1_method_8_code 26 = .ok (.getfield 31, 3) := by decide +kernel
theorem dX10_sharpen_29 : decode prog_1_method_8_code 29 = .ok (.aload_n 0, 1) := by decide +kernel
theorem dX10_sharpen_30 : decode prog_1_method_8_code 30 = .ok (.getfield 10, 3) := by decide +kernel
theorem dX10_sharpen_33 : decode prog_1_method_8_code 33 = .ok (.invokevirtual 77, 3) := by decide +kernel
theorem dX10_sharpen_36 : decode prog_1_method_8_code 36 = .ok (.aload_n 0, 1) := by decide +kernel
theorem dX10_sharpen_37 : decode prog_1_method_8_code 37 = .ok (.getfield 10, 3) := by decide +kernel
theorem dX10_sharpen_40 : decode prog_1_method_8_code 40 = .ok (.getfield 123, 3) := by decide +kernel
theorem dX10_sharpen_43 : decode prog_1_method_8_code 43 = .ok (.iload_n 1, 1) := by decide +kernel
theorem dX10_sharpen_44 : decode prog_1_method_8_code 44 = .ok (.invokevirtual 160, 3) := by decide +kernel
theorem dX10_sharpen_47 : decode prog_1_method_8_code 47 = .ok (.ireturn, 1) := by decide +kernel
theorem nX10_check : zDs yX10_check 1 := ⟨by decide, by decide, by decide +kernel⟩
theorem dX10_check_0 : decode prog_1_method_9_code 0 = .ok (.aload_n 0, 1) := by decide +kernel
theorem dX10_check_1 : decode prog_1_method_9_code 1 = .ok (.getfield 10, 3) := by decide +kernel
theorem dX10_check_4 : decode prog_1_method_9_code 4 = .ok (.iload_n 1, 1) := by decide +kernel
theorem dX10_check_5 : decode prog_1_method_9_code 5 = .ok (.aload_n 0, 1) := by decide +kernel
theorem dX10_check_6 : decode prog_1_method_9_code 6 = .ok (.getfield 38, 3) := by decide +kernel
theorem dX10_check_9 : decode prog_1_method_9_code 9 = .ok (.invokevirtual 164, 3) := by decide +kernel
theorem dX10_check_12 : decode prog_1_method_9_code 12 = .ok (.ifCond .eq 13, 3) := by decide +kernel
theorem dX10_check_15 : decode prog_1_method_9_code 15 = .ok (.new 70, 3) := by decide +kernel
theorem dX10_check_18 : decode prog_1_method_9_code 18 = .ok (.dup, 1) := by decide +kernel
theorem dX10_check_19 : decode prog_1_method_9_code 19 = .ok (.ldc 167, 2) := by decide +kernel
theorem dX10_check_21 : decode prog_1_method_9_code 21 = .ok (.invokespecial 74, 3) := by decide +kernel
theorem dX10_check_24 : decode prog_1_method_9_code 24 = .ok (.athrow, 1) := by decide +kernel
theorem dX10_check_25 : decode prog_1_method_9_code 25 = .ok (.aload_n 0, 1) := by decide +kernel
theorem dX10_check_26 : decode prog_1_method_9_code 26 = .ok (.getfield 31, 3) := by decide +kernel
theorem dX10_check_29 : decode prog_1_method_9_code 29 = .ok (.aload_n 0, 1) := by decide +kernel
theorem dX10_check_30 : decode prog_1_method_9_code 30 = .ok (.getfield 10, 3) := by decide +kernel
theorem dX10_check_33 : decode prog_1_method_9_code 33 = .ok (.invokevirtual 77, 3) := by decide +kernel
theorem dX10_check_36 : decode prog_1_method_9_code 36 = .ok (.aload_n 0, 1) := by decide +kernel
theorem dX10_check_37 : decode prog_1_method_9_code 37 = .ok (.getfield 10, 3) := by decide +kernel
theorem dX10_check_40 : decode prog_1_method_9_code 40 = .ok (.getfield 81, 3) := by decide +kernel
theorem dX10_check_43 : decode prog_1_method_9_code 43 = .ok (.iload_n 1, 1) := by decide +kernel
theorem dX10_check_44 : decode prog_1_method_9_code 44 = .ok (.invokevirtual 169, 3) := by decide +kernel
theorem dX10_check_47 : decode prog_1_method_9_code 47 = .ok (.ireturn, 1) := by decide +kernel
theorem nX10_witness : zDs yX10_witness 2 := ⟨by decide, by decide, by decide +kernel⟩
theorem dX10_witness_0 : decode prog_1_method_10_code 0 = .ok (.aload_n 0, 1) := by decide +kernel
theorem dX10_witness_1 : decode prog_1_method_10_code 1 = .ok (.getfield 10, 3) := by decide +kernel
theorem dX10_witness_4 : decode prog_1_method_10_code 4 = .ok (.iload_n 1, 1) := by decide +kernel
theorem dX10_witness_5 : decode prog_1_method_10_code 5 = .ok (.iload_n 2, 1) := by decide +kernel
theorem dX10_witness_6 : decode prog_1_method_10_code 6 = .ok (.aload_n 0, 1) := by decide +kernel
theorem dX10_witness_7 : decode prog_1_method_10_code 7 = .ok (.getfield 38, 3) := by decide +kernel
theorem dX10_witness_10 : decode prog_1_method_10_code 10 = .ok (.invokevirtual 172, 3) := by decide +kernel
theorem dX10_witness_13 : decode prog_1_method_10_code 13 = .ok (.ifCond .eq 13, 3) := by decide +kernel
theorem dX10_witness_16 : decode prog_1_method_10_code 16 = .ok (.new 70, 3) := by decide +kernel
theorem dX10_witness_19 : decode prog_1_method_10_code 19 = .ok (.dup, 1) := by decide +kernel
theorem dX10_witness_20 : decode prog_1_method_10_code 20 = .ok (.ldc 175, 2) := by decide +kernel
theorem dX10_witness_22 : decode prog_1_method_10_code 22 = .ok (.invokespecial 74, 3) := by decide +kernel
theorem dX10_witness_25 : decode prog_1_method_10_code 25 = .ok (.athrow, 1) := by decide +kernel
theorem dX10_witness_26 : decode prog_1_method_10_code 26 = .ok (.aload_n 0, 1) := by decide +kernel
theorem dX10_witness_27 : decode prog_1_method_10_code 27 = .ok (.getfield 31, 3) := by decide +kernel
theorem dX10_witness_30 : decode prog_1_method_10_code 30 = .ok (.aload_n 0, 1) := by decide +kernel
theorem dX10_witness_31 : decode prog_1_method_10_code 31 = .ok (.getfield 10, 3) := by decide +kernel
theorem dX10_witness_34 : decode prog_1_method_10_code 34 = .ok (.invokevirtual 77, 3) := by decide +kernel
theorem dX10_witness_37 : decode prog_1_method_10_code 37 = .ok (.aload_n 0, 1) := by decide +kernel
theorem dX10_witness_38 : decode prog_1_method_10_code 38 = .ok (.getfield 10, 3) := by decide +kernel
theorem dX10_witness_41 : decode prog_1_method_10_code 41 = .ok (.getfield 96, 3) := by decide +kernel
theorem dX10_witness_44 : decode prog_1_method_10_code 44 = .ok (.iload_n 1, 1) := by decide +kernel
theorem dX10_witness_45 : decode prog_1_method_10_code 45 = .ok (.iload_n 2, 1) := by decide +kernel
theorem dX10_witness_46 : decode prog_1_method_10_code 46 = .ok (.invokevirtual 177, 3) := by decide +kernel
theorem dX10_witness_49 : decode prog_1_method_10_code 49 = .ok (.ireturn, 1) := by decide +kernel
theorem nX10_years : zDs yX10_years 1 := ⟨by decide, by decide, by decide +kernel⟩
theorem dX10_years_0 : decode prog_1_method_11_code 0 = .ok (.aload_n 0, 1) := by decide +kernel
theorem dX10_years_1 : decode prog_1_method_11_code 1 = .ok (.getfield 10, 3) := by decide +kernel
theorem dX10_years_4 : decode prog_1_method_11_code 4 = .ok (.iload_n 1, 1) := by decide +kernel
theorem dX10_years_5 : decode prog_1_method_11_code 5 = .ok (.aload_n 0, 1) := by decide +kernel
theorem dX10_years_6 : decode prog_1_method_11_code 6 = .ok (.getfield 38, 3) := by decide +kernel
theorem dX10_years_9 : decode prog_1_method_11_code 9 = .ok (.invokevirtual 180, 3) := by decide +kernel
theorem dX10_years_12 : decode prog_1_method_11_code 12 = .ok (.ifCond .eq 13, 3) := by decide +kernel
theorem dX10_years_15 : decode prog_1_method_11_code 15 = .ok (.new 70, 3) := by decide +kernel
theorem dX10_years_18 : decode prog_1_method_11_code 18 = .ok (.dup, 1) := by decide +kernel
theorem dX10_years_19 : decode prog_1_method_11_code 19 = .ok (.ldc 183, 2) := by decide +kernel
theorem dX10_years_21 : decode prog_1_method_11_code 21 = .ok (.invokespecial 74, 3) := by decide +kernel
theorem dX10_years_24 : decode prog_1_method_11_code 24 = .ok (.athrow, 1) := by decide +kernel
theorem dX10_years_25 : decode prog_1_method_11_code 25 = .ok (.aload_n 0, 1) := by decide +kernel
theorem dX10_years_26 : decode prog_1_method_11_code 26 = .ok (.getfield 31, 3) := by decide +kernel
theorem dX10_years_29 : decode prog_1_method_11_code 29 = .ok (.aload_n 0, 1) := by decide +kernel
theorem dX10_years_30 : decode prog_1_method_11_code 30 = .ok (.getfield 10, 3) := by decide +kernel
theorem dX10_years_33 : decode prog_1_method_11_code 33 = .ok (.invokevirtual 77, 3) := by decide +kernel
theorem dX10_years_36 : decode prog_1_method_11_code 36 = .ok (.aload_n 0, 1) := by decide +kernel
theorem dX10_years_37 : decode prog_1_method_11_code 37 = .ok (.getfield 10, 3) := by decide +kernel
theorem dX10_years_40 : decode prog_1_method_11_code 40 = .ok (.iload_n 1, 1) := by decide +kernel
theorem dX10_years_41 : decode prog_1_method_11_code 41 = .ok (.invokevirtual 185, 3) := by decide +kernel
theorem dX10_years_44 : decode prog_1_method_11_code 44 = .ok (.ireturn, 1) := by decide +kernel
theorem nX10_stoneOf : zDs yX10_stoneOf 2 := ⟨by decide, by decide, by decide +kernel⟩
theorem dX10_stoneOf_0 : decode prog_1_method_12_code 0 = .ok (.aload_n 0, 1) := by decide +kernel
theorem dX10_stoneOf_1 : decode prog_1_method_12_code 1 = .ok (.getfield 10, 3) := by decide +kernel
theorem dX10_stoneOf_4 : decode prog_1_method_12_code 4 = .ok (.getfield 81, 3) := by decide +kernel
theorem dX10_stoneOf_7 : decode prog_1_method_12_code 7 = .ok (.iload_n 1, 1) := by decide +kernel
theorem dX10_stoneOf_8 : decode prog_1_method_12_code 8 = .ok (.invokevirtual 188, 3) := by decide +kernel
theorem dX10_stoneOf_11 : decode prog_1_method_12_code 11 = .ok (.ifCond .ne 13, 3) := by decide +kernel
theorem dX10_stoneOf_14 : decode prog_1_method_12_code 14 = .ok (.new 192, 3) := by decide +kernel
theorem dX10_stoneOf_17 : decode prog_1_method_12_code 17 = .ok (.dup, 1) := by decide +kernel
theorem dX10_stoneOf_18 : decode prog_1_method_12_code 18 = .ok (.ldc 194, 2) := by decide +kernel
theorem dX10_stoneOf_20 : decode prog_1_method_12_code 20 = .ok (.invokespecial 196, 3) := by decide +kernel
theorem dX10_stoneOf_23 : decode prog_1_method_12_code 23 = .ok (.athrow, 1) := by decide +kernel
theorem dX10_stoneOf_24 : decode prog_1_method_12_code 24 = .ok (.iload_n 2, 1) := by decide +kernel
theorem dX10_stoneOf_25 : decode prog_1_method_12_code 25 = .ok (.tableswitch 120 0 5 #[39, 54, 69, 84, 99, 111], 39) := by decide +kernel
theorem dX10_stoneOf_64 : decode prog_1_method_12_code 64 = .ok (.aload_n 0, 1) := by decide +kernel
theorem dX10_stoneOf_65 : decode prog_1_method_12_code 65 = .ok (.getfield 10, 3) := by decide +kernel
theorem dX10_stoneOf_68 : decode prog_1_method_12_code 68 = .ok (.getfield 81, 3) := by decide +kernel
theorem dX10_stoneOf_71 : decode prog_1_method_12_code 71 = .ok (.getfield 197, 3) := by decide +kernel
theorem dX10_stoneOf_74 : decode prog_1_method_12_code 74 = .ok (.iload_n 1, 1) := by decide +kernel
theorem dX10_stoneOf_75 : decode prog_1_method_12_code 75 = .ok (.invokestatic 200, 3) := by decide +kernel
theorem dX10_stoneOf_78 : decode prog_1_method_12_code 78 = .ok (.ireturn, 1) := by decide +kernel
theorem dX10_stoneOf_79 : decode prog_1_method_12_code 79 = .ok (.aload_n 0, 1) := by decide +kernel
theorem dX10_stoneOf_80 : decode prog_1_method_12_code 80 = .ok (.getfield 10, 3) := by decide +kernel
theorem dX10_stoneOf_83 : decode prog_1_method_12_code 83 = .ok (.getfield 81, 3) := by decide +kernel
theorem dX10_stoneOf_86 : decode prog_1_method_12_code 86 = .ok (.getfield 206, 3) := by decide +kernel
theorem dX10_stoneOf_89 : decode prog_1_method_12_code 89 = .ok (.iload_n 1, 1) := by decide +kernel
theorem dX10_stoneOf_90 : decode prog_1_method_12_code 90 = .ok (.invokestatic 200, 3) := by decide +kernel
theorem dX10_stoneOf_93 : decode prog_1_method_12_code 93 = .ok (.ireturn, 1) := by decide +kernel
theorem dX10_stoneOf_94 : decode prog_1_method_12_code 94 = .ok (.aload_n 0, 1) := by decide +kernel
theorem dX10_stoneOf_95 : decode prog_1_method_12_code 95 = .ok (.getfield 10, 3) := by decide +kernel
theorem dX10_stoneOf_98 : decode prog_1_method_12_code 98 = .ok (.getfield 81, 3) := by decide +kernel
theorem dX10_stoneOf_101 : decode prog_1_method_12_code 101 = .ok (.getfield 209, 3) := by decide +kernel
theorem dX10_stoneOf_104 : decode prog_1_method_12_code 104 = .ok (.iload_n 1, 1) := by decide +kernel
theorem dX10_stoneOf_105 : decode prog_1_method_12_code 105 = .ok (.invokestatic 200, 3) := by decide +kernel
theorem dX10_stoneOf_108 : decode prog_1_method_12_code 108 = .ok (.ireturn, 1) := by decide +kernel
theorem dX10_stoneOf_109 : decode prog_1_method_12_code 109 = .ok (.aload_n 0, 1) := by decide +kernel
theorem dX10_stoneOf_110 : decode prog_1_method_12_code 110 = .ok (.getfield 10, 3) := by decide +kernel
theorem dX10_stoneOf_113 : decode prog_1_method_12_code 113 = .ok (.getfield 81, 3) := by decide +kernel
theorem dX10_stoneOf_116 : decode prog_1_method_12_code 116 = .ok (.getfield 212, 3) := by decide +kernel
theorem dX10_stoneOf_119 : decode prog_1_method_12_code 119 = .ok (.iload_n 1, 1) := by decide +kernel
theorem dX10_stoneOf_120 : decode prog_1_method_12_code 120 = .ok (.invokestatic 200, 3) := by decide +kernel
theorem dX10_stoneOf_123 : decode prog_1_method_12_code 123 = .ok (.ireturn, 1) := by decide +kernel
theorem dX10_stoneOf_124 : decode prog_1_method_12_code 124 = .ok (.aload_n 0, 1) := by decide +kernel
theorem dX10_stoneOf_125 : decode prog_1_method_12_code 125 = .ok (.getfield 10, 3) := by decide +kernel
theorem dX10_stoneOf_128 : decode prog_1_method_12_code 128 = .ok (.getfield 145, 3) := by decide +kernel
theorem dX10_stoneOf_131 : decode prog_1_method_12_code 131 = .ok (.iload_n 1, 1) := by decide +kernel
theorem dX10_stoneOf_132 : decode prog_1_method_12_code 132 = .ok (.invokevirtual 215, 3) := by decide +kernel
theorem dX10_stoneOf_135 : decode prog_1_method_12_code 135 = .ok (.ireturn, 1) := by decide +kernel
theorem dX10_stoneOf_136 : decode prog_1_method_12_code 136 = .ok (.aload_n 0, 1) := by decide +kernel
theorem dX10_stoneOf_137 : decode prog_1_method_12_code 137 = .ok (.getfield 10, 3) := by decide +kernel
theorem dX10_stoneOf_140 : decode prog_1_method_12_code 140 = .ok (.iload_n 1, 1) := by decide +kernel
theorem dX10_stoneOf_141 : decode prog_1_method_12_code 141 = .ok (.invokevirtual 218, 3) := by decide +kernel
theorem dX10_stoneOf_144 : decode prog_1_method_12_code 144 = .ok (.ireturn, 1) := by decide +kernel
theorem dX10_stoneOf_145 : decode prog_1_method_12_code 145 = .ok (.new 221, 3) := by decide +kernel
theorem dX10_stoneOf_148 : decode prog_1_method_12_code 148 = .ok (.dup, 1) := by decide +kernel
theorem dX10_stoneOf_149 : decode prog_1_method_12_code 149 = .ok (.ldc 223, 2) := by decide +kernel
theorem dX10_stoneOf_151 : decode prog_1_method_12_code 151 = .ok (.invokespecial 225, 3) := by decide +kernel
theorem dX10_stoneOf_154 : decode prog_1_method_12_code 154 = .ok (.athrow, 1) := by decide +kernel
theorem nX10_floodOf : zDs yX10_floodOf 2 := ⟨by decide, by decide, by decide +kernel⟩
theorem dX10_floodOf_0 : decode prog_1_method_13_code 0 = .ok (.aload_n 0, 1) := by decide +kernel
theorem dX10_floodOf_1 : decode prog_1_method_13_code 1 = .ok (.getfield 10, 3) := by decide +kernel
theorem dX10_floodOf_4 : decode prog_1_method_13_code 4 = .ok (.getfield 96, 3) := by decide +kernel
theorem dX10_floodOf_7 : decode prog_1_method_13_code 7 = .ok (.iload_n 1, 1) := by decide +kernel
theorem dX10_floodOf_8 : decode prog_1_method_13_code 8 = .ok (.invokevirtual 226, 3) := by decide +kernel
theorem dX10_floodOf_11 : decode prog_1_method_13_code 11 = .ok (.ifCond .ne 13, 3) := by decide +kernel
theorem dX10_floodOf_14 : decode prog_1_method_13_code 14 = .ok (.new 192, 3) := by decide +kernel
theorem dX10_floodOf_17 : decode prog_1_method_13_code 17 = .ok (.dup, 1) := by decide +kernel
theorem dX10_floodOf_18 : decode prog_1_method_13_code 18 = .ok (.ldc 227, 2) := by decide +kernel
theorem dX10_floodOf_20 : decode prog_1_method_13_code 20 = .ok (.invokespecial 196, 3) := by decide +kernel
theorem dX10_floodOf_23 : decode prog_1_method_13_code 23 = .ok (.athrow, 1) := by decide +kernel
theorem dX10_floodOf_24 : decode prog_1_method_13_code 24 = .ok (.iload_n 2, 1) := by decide +kernel
theorem dX10_floodOf_25 : decode prog_1_method_13_code 25 = .ok (.tableswitch 114 0 5 #[39, 54, 69, 84, 96, 105], 39) := by decide +kernel
theorem dX10_floodOf_64 : decode prog_1_method_13_code 64 = .ok (.aload_n 0, 1) := by decide +kernel
theorem dX10_floodOf_65 : decode prog_1_method_13_code 65 = .ok (.getfield 10, 3) := by decide +kernel
theorem dX10_floodOf_68 : decode prog_1_method_13_code 68 = .ok (.getfield 96, 3) := by decide +kernel
theorem dX10_floodOf_71 : decode prog_1_method_13_code 71 = .ok (.getfield 229, 3) := by decide +kernel
theorem dX10_floodOf_74 : decode prog_1_method_13_code 74 = .ok (.iload_n 1, 1) := by decide +kernel
theorem dX10_floodOf_75 : decode prog_1_method_13_code 75 = .ok (.invokestatic 200, 3) := by decide +kernel
theorem dX10_floodOf_78 : decode prog_1_method_13_code 78 = .ok (.ireturn, 1) := by decide +kernel
theorem dX10_floodOf_79 : decode prog_1_method_13_code 79 = .ok (.aload_n 0, 1) := by decide +kernel
theorem dX10_floodOf_80 : decode prog_1_method_13_code 80 = .ok (.getfield 10, 3) := by decide +kernel
theorem dX10_floodOf_83 : decode prog_1_method_13_code 83 = .ok (.getfield 96, 3) := by decide +kernel
theorem dX10_floodOf_86 : decode prog_1_method_13_code 86 = .ok (.getfield 232, 3) := by decide +kernel
theorem dX10_floodOf_89 : decode prog_1_method_13_code 89 = .ok (.iload_n 1, 1) := by decide +kernel
theorem dX10_floodOf_90 : decode prog_1_method_13_code 90 = .ok (.invokestatic 200, 3) := by decide +kernel
theorem dX10_floodOf_93 : decode prog_1_method_13_code 93 = .ok (.ireturn, 1) := by decide +kernel
theorem dX10_floodOf_94 : decode prog_1_method_13_code 94 = .ok (.aload_n 0, 1) := by decide +kernel
theorem dX10_floodOf_95 : decode prog_1_method_13_code 95 = .ok (.getfield 10, 3) := by decide +kernel
theorem dX10_floodOf_98 : decode prog_1_method_13_code 98 = .ok (.getfield 96, 3) := by decide +kernel
theorem dX10_floodOf_101 : decode prog_1_method_13_code 101 = .ok (.getfield 235, 3) := by decide +kernel
theorem dX10_floodOf_104 : decode prog_1_method_13_code 104 = .ok (.iload_n 1, 1) := by decide +kernel
theorem dX10_floodOf_105 : decode prog_1_method_13_code 105 = .ok (.invokestatic 200, 3) := by decide +kernel
theorem dX10_floodOf_108 : decode prog_1_method_13_code 108 = .ok (.ireturn, 1) := by decide +kernel
theorem dX10_floodOf_109 : decode prog_1_method_13_code 109 = .ok (.aload_n 0, 1) := by decide +kernel
theorem dX10_floodOf_110 : decode prog_1_method_13_code 110 = .ok (.getfield 10, 3) := by decide +kernel
theorem dX10_floodOf_113 : decode prog_1_method_13_code 113 = .ok (.getfield 145, 3) := by decide +kernel
theorem dX10_floodOf_116 : decode prog_1_method_13_code 116 = .ok (.iload_n 1, 1) := by decide +kernel
theorem dX10_floodOf_117 : decode prog_1_method_13_code 117 = .ok (.invokevirtual 238, 3) := by decide +kernel
theorem dX10_floodOf_120 : decode prog_1_method_13_code 120 = .ok (.ireturn, 1) := by decide +kernel
theorem dX10_floodOf_121 : decode prog_1_method_13_code 121 = .ok (.aload_n 0, 1) := by decide +kernel
theorem dX10_floodOf_122 : decode prog_1_method_13_code 122 = .ok (.getfield 10, 3) := by decide +kernel
theorem dX10_floodOf_125 : decode prog_1_method_13_code 125 = .ok (.iload_n 1, 1) := by decide +kernel
theorem dX10_floodOf_126 : decode prog_1_method_13_code 126 = .ok (.invokevirtual 241, 3) := by decide +kernel
theorem dX10_floodOf_129 : decode prog_1_method_13_code 129 = .ok (.ireturn, 1) := by decide +kernel
theorem dX10_floodOf_130 : decode prog_1_method_13_code 130 = .ok (.aload_n 0, 1) := by decide +kernel
theorem dX10_floodOf_131 : decode prog_1_method_13_code 131 = .ok (.getfield 10, 3) := by decide +kernel
theorem dX10_floodOf_134 : decode prog_1_method_13_code 134 = .ok (.iload_n 1, 1) := by decide +kernel
theorem dX10_floodOf_135 : decode prog_1_method_13_code 135 = .ok (.invokevirtual 244, 3) := by decide +kernel
theorem dX10_floodOf_138 : decode prog_1_method_13_code 138 = .ok (.ireturn, 1) := by decide +kernel
theorem dX10_floodOf_139 : decode prog_1_method_13_code 139 = .ok (.new 221, 3) := by decide +kernel
theorem dX10_floodOf_142 : decode prog_1_method_13_code 142 = .ok (.dup, 1) := by decide +kernel
theorem dX10_floodOf_143 : decode prog_1_method_13_code 143 = .ok (.ldc 223, 2) := by decide +kernel
theorem dX10_floodOf_145 : decode prog_1_method_13_code 145 = .ok (.invokespecial 225, 3) := by decide +kernel
theorem dX10_floodOf_148 : decode prog_1_method_13_code 148 = .ok (.athrow, 1) := by decide +kernel
theorem nX10_floodIn : zDs yX10_floodIn 1 := ⟨by decide, by decide, by decide +kernel⟩
theorem dX10_floodIn_0 : decode prog_1_method_14_code 0 = .ok (.aload_n 0, 1) := by decide +kernel
theorem dX10_floodIn_1 : decode prog_1_method_14_code 1 = .ok (.getfield 10, 3) := by decide +kernel
theorem dX10_floodIn_4 : decode prog_1_method_14_code 4 = .ok (.getfield 96, 3) := by decide +kernel
theorem dX10_floodIn_7 : decode prog_1_method_14_code 7 = .ok (.iload_n 1, 1) := by decide +kernel
theorem dX10_floodIn_8 : decode prog_1_method_14_code 8 = .ok (.invokevirtual 247, 3) := by decide +kernel
theorem dX10_floodIn_11 : decode prog_1_method_14_code 11 = .ok (.istore_n 2, 1) := by decide +kernel
theorem dX10_floodIn_12 : decode prog_1_method_14_code 12 = .ok (.iload_n 2, 1) := by decide +kernel
theorem dX10_floodIn_13 : decode prog_1_method_14_code 13 = .ok (.ifCond .ge 13, 3) := by decide +kernel
theorem dX10_floodIn_16 : decode prog_1_method_14_code 16 = .ok (.new 250, 3) := by decide +kernel
theorem dX10_floodIn_19 : decode prog_1_method_14_code 19 = .ok (.dup, 1) := by decide +kernel
theorem dX10_floodIn_20 : decode prog_1_method_14_code 20 = .ok (.ldc 252, 2) := by decide +kernel
theorem dX10_floodIn_22 : decode prog_1_method_14_code 22 = .ok (.invokespecial 254, 3) := by decide +kernel
theorem dX10_floodIn_25 : decode prog_1_method_14_code 25 = .ok (.athrow, 1) := by decide +kernel
theorem dX10_floodIn_26 : decode prog_1_method_14_code 26 = .ok (.iload_n 2, 1) := by decide +kernel
theorem dX10_floodIn_27 : decode prog_1_method_14_code 27 = .ok (.ireturn, 1) := by decide +kernel
theorem nX10_before : zDs yX10_before 1 := ⟨by decide, by decide, by decide +kernel⟩
theorem dX10_before_0 : decode prog_1_method_15_code 0 = .ok (.aload_n 0, 1) := by decide +kernel
theorem dX10_before_1 : decode prog_1_method_15_code 1 = .ok (.getfield 10, 3) := by decide +kernel
theorem dX10_before_4 : decode prog_1_method_15_code 4 = .ok (.getfield 96, 3) := by decide +kernel
theorem dX10_before_7 : decode prog_1_method_15_code 7 = .ok (.iload_n 1, 1) := by decide +kernel
theorem dX10_before_8 : decode prog_1_method_15_code 8 = .ok (.invokevirtual 255, 3) := by decide +kernel
theorem dX10_before_11 : decode prog_1_method_15_code 11 = .ok (.istore_n 2, 1) := by decide +kernel
theorem dX10_before_12 : decode prog_1_method_15_code 12 = .ok (.iload_n 2, 1) := by decide +kernel
theorem dX10_before_13 : decode prog_1_method_15_code 13 = .ok (.ifCond .ge 14, 3) := by decide +kernel
theorem dX10_before_16 : decode prog_1_method_15_code 16 = .ok (.new 250, 3) := by decide +kernel
theorem dX10_before_19 : decode prog_1_method_15_code 19 = .ok (.dup, 1) := by decide +kernel
theorem dX10_before_20 : decode prog_1_method_15_code 20 = .ok (.ldc_w 258, 3) := by decide +kernel
theorem dX10_before_23 : decode prog_1_method_15_code 23 = .ok (.invokespecial 254, 3) := by decide +kernel
theorem dX10_before_26 : decode prog_1_method_15_code 26 = .ok (.athrow, 1) := by decide +kernel
theorem dX10_before_27 : decode prog_1_method_15_code 27 = .ok (.iload_n 2, 1) := by decide +kernel
theorem dX10_before_28 : decode prog_1_method_15_code 28 = .ok (.ireturn, 1) := by decide +kernel
theorem nX10_edge : zDs yX10_edge 1 := ⟨by decide, by decide, by decide +kernel⟩
theorem dX10_edge_0 : decode prog_1_method_16_code 0 = .ok (.aload_n 0, 1) := by decide +kernel
theorem dX10_edge_1 : decode prog_1_method_16_code 1 = .ok (.getfield 10, 3) := by decide +kernel
theorem dX10_edge_4 : decode prog_1_method_16_code 4 = .ok (.getfield 123, 3) := by decide +kernel
theorem dX10_edge_7 : decode prog_1_method_16_code 7 = .ok (.iload_n 1, 1) := by decide +kernel
theorem dX10_edge_8 : decode prog_1_method_16_code 8 = .ok (.invokevirtual 260, 3) := by decide +kernel
theorem dX10_edge_11 : decode prog_1_method_16_code 11 = .ok (.ifCond .ne 14, 3) := by decide +kernel
theorem dX10_edge_14 : decode prog_1_method_16_code 14 = .ok (.new 192, 3) := by decide +kernel
theorem dX10_edge_17 : decode prog_1_method_16_code 17 = .ok (.dup, 1) := by decide +kernel
theorem dX10_edge_18 : decode prog_1_method_16_code 18 = .ok (.ldc_w 261, 3) := by decide +kernel
theorem dX10_edge_21 : decode prog_1_method_16_code 21 = .ok (.invokespecial 196, 3) := by decide +kernel
theorem dX10_edge_24 : decode prog_1_method_16_code 24 = .ok (.athrow, 1) := by decide +kernel
theorem dX10_edge_25 : decode prog_1_method_16_code 25 = .ok (.aload_n 0, 1) := by decide +kernel
theorem dX10_edge_26 : decode prog_1_method_16_code 26 = .ok (.getfield 10, 3) := by decide +kernel
theorem dX10_edge_29 : decode prog_1_method_16_code 29 = .ok (.getfield 123, 3) := by decide +kernel
theorem dX10_edge_32 : decode prog_1_method_16_code 32 = .ok (.getfield 263, 3) := by decide +kernel
theorem dX10_edge_35 : decode prog_1_method_16_code 35 = .ok (.iload_n 1, 1) := by decide +kernel
theorem dX10_edge_36 : decode prog_1_method_16_code 36 = .ok (.invokestatic 200, 3) := by decide +kernel
theorem dX10_edge_39 : decode prog_1_method_16_code 39 = .ok (.ireturn, 1) := by decide +kernel
theorem nX10_markOf : zDs yX10_markOf 3 := ⟨by decide, by decide, by decide +kernel⟩
theorem dX10_markOf_0 : decode prog_1_method_17_code 0 = .ok (.aload_n 0, 1) := by decide +kernel
theorem dX10_markOf_1 : decode prog_1_method_17_code 1 = .ok (.getfield 10, 3) := by decide +kernel
theorem dX10_markOf_4 : decode prog_1_method_17_code 4 = .ok (.getfield 81, 3) := by decide +kernel
theorem dX10_markOf_7 : decode prog_1_method_17_code 7 = .ok (.iload_n 1, 1) := by decide +kernel
theorem dX10_markOf_8 : decode prog_1_method_17_code 8 = .ok (.invokevirtual 188, 3) := by decide +kernel
theorem dX10_markOf_11 : decode prog_1_method_17_code 11 = .ok (.ifCond .eq 17, 3) := by decide +kernel
theorem dX10_markOf_14 : decode prog_1_method_17_code 14 = .ok (.aload_n 0, 1) := by decide +kernel
theorem dX10_markOf_15 : decode prog_1_method_17_code 15 = .ok (.getfield 10, 3) := by decide +kernel
theorem dX10_markOf_18 : decode prog_1_method_17_code 18 = .ok (.getfield 96, 3) := by decide +kernel
theorem dX10_markOf_21 : decode prog_1_method_17_code 21 = .ok (.iload_n 2, 1) := by decide +kernel
theorem dX10_markOf_22 : decode prog_1_method_17_code 22 = .ok (.invokevirtual 226, 3) := by decide +kernel
theorem dX10_markOf_25 : decode prog_1_method_17_code 25 = .ok (.ifCond .ne 14, 3) := by decide +kernel
theorem dX10_markOf_28 : decode prog_1_method_17_code 28 = .ok (.new 192, 3) := by decide +kernel
theorem dX10_markOf_31 : decode prog_1_method_17_code 31 = .ok (.dup, 1) := by decide +kernel
theorem dX10_markOf_32 : decode prog_1_method_17_code 32 = .ok (.ldc_w 266, 3) := by decide +kernel
theorem dX10_markOf_35 : decode prog_1_method_17_code 35 = .ok (.invokespecial 196, 3) := by decide +kernel
theorem dX10_markOf_38 : decode prog_1_method_17_code 38 = .ok (.athrow, 1) := by decide +kernel
theorem dX10_markOf_39 : decode prog_1_method_17_code 39 = .ok (.iload_n 3, 1) := by decide +kernel
theorem dX10_markOf_40 : decode prog_1_method_17_code 40 = .ok (.ifCond .lt 8, 3) := by decide +kernel
theorem dX10_markOf_43 : decode prog_1_method_17_code 43 = .ok (.iload_n 3, 1) := by decide +kernel
theorem dX10_markOf_44 : decode prog_1_method_17_code 44 = .ok (.iconst 4, 1) := by decide +kernel
theorem dX10_markOf_45 : decode prog_1_method_17_code 45 = .ok (.if_icmp .le 14, 3) := by decide +kernel
theorem dX10_markOf_48 : decode prog_1_method_17_code 48 = .ok (.new 221, 3) := by decide +kernel
theorem dX10_markOf_51 : decode prog_1_method_17_code 51 = .ok (.dup, 1) := by decide +kernel
theorem dX10_markOf_52 : decode prog_1_method_17_code 52 = .ok (.ldc_w 268, 3) := by decide +kernel
theorem dX10_markOf_55 : decode prog_1_method_17_code 55 = .ok (.invokespecial 225, 3) := by decide +kernel
theorem dX10_markOf_58 : decode prog_1_method_17_code 58 = .ok (.athrow, 1) := by decide +kernel
theorem dX10_markOf_59 : decode prog_1_method_17_code 59 = .ok (.aload_n 0, 1) := by decide +kernel
theorem dX10_markOf_60 : decode prog_1_method_17_code 60 = .ok (.getfield 10, 3) := by decide +kernel
theorem dX10_markOf_63 : decode prog_1_method_17_code 63 = .ok (.getfield 145, 3) := by decide +kernel
theorem dX10_markOf_66 : decode prog_1_method_17_code 66 = .ok (.iload_n 1, 1) := by decide +kernel
theorem dX10_markOf_67 : decode prog_1_method_17_code 67 = .ok (.iload_n 2, 1) := by decide +kernel
theorem dX10_markOf_68 : decode prog_1_method_17_code 68 = .ok (.invokevirtual 270, 3) := by decide +kernel
theorem dX10_markOf_71 : decode prog_1_method_17_code 71 = .ok (.ifCond .ne 14, 3) := by decide +kernel
theorem dX10_markOf_74 : decode prog_1_method_17_code 74 = .ok (.new 250, 3) := by decide +kernel
theorem dX10_markOf_77 : decode prog_1_method_17_code 77 = .ok (.dup, 1) := by decide +kernel
theorem dX10_markOf_78 : decode prog_1_method_17_code 78 = .ok (.ldc_w 273, 3) := by decide +kernel
theorem dX10_markOf_81 : decode prog_1_method_17_code 81 = .ok (.invokespecial 254, 3) := by decide +kernel
theorem dX10_markOf_84 : decode prog_1_method_17_code 84 = .ok (.athrow, 1) := by decide +kernel
theorem dX10_markOf_85 : decode prog_1_method_17_code 85 = .ok (.iload_n 3, 1) := by decide +kernel
theorem dX10_markOf_86 : decode prog_1_method_17_code 86 = .ok (.tableswitch 79 0 3 #[30, 43, 56, 69], 30) := by decide +kernel
theorem dX10_markOf_116 : decode prog_1_method_17_code 116 = .ok (.aload_n 0, 1) := by decide +kernel
theorem dX10_markOf_117 : decode prog_1_method_17_code 117 = .ok (.getfield 10, 3) := by decide +kernel
theorem dX10_markOf_120 : decode prog_1_method_17_code 120 = .ok (.getfield 145, 3) := by decide +kernel
theorem dX10_markOf_123 : decode prog_1_method_17_code 123 = .ok (.iload_n 1, 1) := by decide +kernel
theorem dX10_markOf_124 : decode prog_1_method_17_code 124 = .ok (.iload_n 2, 1) := by decide +kernel
theorem dX10_markOf_125 : decode prog_1_method_17_code 125 = .ok (.invokevirtual 275, 3) := by decide +kernel
theorem dX10_markOf_128 : decode prog_1_method_17_code 128 = .ok (.ireturn, 1) := by decide +kernel
theorem dX10_markOf_129 : decode prog_1_method_17_code 129 = .ok (.aload_n 0, 1) := by decide +kernel
theorem dX10_markOf_130 : decode prog_1_method_17_code 130 = .ok (.getfield 10, 3) := by decide +kernel
theorem dX10_markOf_133 : decode prog_1_method_17_code 133 = .ok (.getfield 145, 3) := by decide +kernel
theorem dX10_markOf_136 : decode prog_1_method_17_code 136 = .ok (.iload_n 1, 1) := by decide +kernel
theorem dX10_markOf_137 : decode prog_1_method_17_code 137 = .ok (.iload_n 2, 1) := by decide +kernel
theorem dX10_markOf_138 : decode prog_1_method_17_code 138 = .ok (.invokevirtual 278, 3) := by decide +kernel
theorem dX10_markOf_141 : decode prog_1_method_17_code 141 = .ok (.ireturn, 1) := by decide +kernel
theorem dX10_markOf_142 : decode prog_1_method_17_code 142 = .ok (.aload_n 0, 1) := by decide +kernel
theorem dX10_markOf_143 : decode prog_1_method_17_code 143 = .ok (.getfield 10, 3) := by decide +kernel
theorem dX10_markOf_146 : decode prog_1_method_17_code 146 = .ok (.getfield 145, 3) := by decide +kernel
theorem dX10_markOf_149 : decode prog_1_method_17_code 149 = .ok (.iload_n 1, 1) := by decide +kernel
theorem dX10_markOf_150 : decode prog_1_method_17_code 150 = .ok (.iload_n 2, 1) := by decide +kernel
theorem dX10_markOf_151 : decode prog_1_method_17_code 151 = .ok (.invokevirtual 281, 3) := by decide +kernel
theorem dX10_markOf_154 : decode prog_1_method_17_code 154 = .ok (.ireturn, 1) := by decide +kernel
theorem dX10_markOf_155 : decode prog_1_method_17_code 155 = .ok (.aload_n 0, 1) := by decide +kernel
theorem dX10_markOf_156 : decode prog_1_method_17_code 156 = .ok (.getfield 10, 3) := by decide +kernel
theorem dX10_markOf_159 : decode prog_1_method_17_code 159 = .ok (.iload_n 1, 1) := by decide +kernel
theorem dX10_markOf_160 : decode prog_1_method_17_code 160 = .ok (.iload_n 2, 1) := by decide +kernel
theorem dX10_markOf_161 : decode prog_1_method_17_code 161 = .ok (.invokevirtual 284, 3) := by decide +kernel
theorem dX10_markOf_164 : decode prog_1_method_17_code 164 = .ok (.ireturn, 1) := by decide +kernel
theorem dX10_markOf_165 : decode prog_1_method_17_code 165 = .ok (.aload_n 0, 1) := by decide +kernel
theorem dX10_markOf_166 : decode prog_1_method_17_code 166 = .ok (.getfield 10, 3) := by decide +kernel
theorem dX10_markOf_169 : decode prog_1_method_17_code 169 = .ok (.iload_n 1, 1) := by decide +kernel
theorem dX10_markOf_170 : decode prog_1_method_17_code 170 = .ok (.iload_n 2, 1) := by decide +kernel
theorem dX10_markOf_171 : decode prog_1_method_17_code 171 = .ok (.invokevirtual 287, 3) := by decide +kernel
theorem dX10_markOf_174 : decode prog_1_method_17_code 174 = .ok (.ireturn, 1) := by decide +kernel
theorem nX10_mark : zDs yX10_mark 2 := ⟨by decide, by decide, by decide +kernel⟩
theorem dX10_mark_0 : decode prog_1_method_18_code 0 = .ok (.aload_n 0, 1) := by decide +kernel
theorem dX10_mark_1 : decode prog_1_method_18_code 1 = .ok (.getfield 10, 3) := by decide +kernel
theorem dX10_mark_4 : decode prog_1_method_18_code 4 = .ok (.getfield 81, 3) := by decide +kernel
theorem dX10_mark_7 : decode prog_1_method_18_code 7 = .ok (.iload_n 1, 1) := by decide +kernel
theorem dX10_mark_8 : decode prog_1_method_18_code 8 = .ok (.invokevirtual 188, 3) := by decide +kernel
theorem dX10_mark_11 : decode prog_1_method_18_code 11 = .ok (.ifCond .ne 13, 3) := by decide +kernel
theorem dX10_mark_14 : decode prog_1_method_18_code 14 = .ok (.new 192, 3) := by decide +kernel
theorem dX10_mark_17 : decode prog_1_method_18_code 17 = .ok (.dup, 1) := by decide +kernel
theorem dX10_mark_18 : decode prog_1_method_18_code 18 = .ok (.ldc 194, 2) := by decide +kernel
theorem dX10_mark_20 : decode prog_1_method_18_code 20 = .ok (.invokespecial 196, 3) := by decide +kernel
theorem dX10_mark_23 : decode prog_1_method_18_code 23 = .ok (.athrow, 1) := by decide +kernel
theorem dX10_mark_24 : decode prog_1_method_18_code 24 = .ok (.aload_n 0, 1) := by decide +kernel
theorem dX10_mark_25 : decode prog_1_method_18_code 25 = .ok (.getfield 10, 3) := by decide +kernel
theorem dX10_mark_28 : decode prog_1_method_18_code 28 = .ok (.getfield 145, 3) := by decide +kernel
theorem dX10_mark_31 : decode prog_1_method_18_code 31 = .ok (.iload_n 1, 1) := by decide +kernel
theorem dX10_mark_32 : decode prog_1_method_18_code 32 = .ok (.iload_n 2, 1) := by decide +kernel
theorem dX10_mark_33 : decode prog_1_method_18_code 33 = .ok (.invokevirtual 290, 3) := by decide +kernel
theorem dX10_mark_36 : decode prog_1_method_18_code 36 = .ok (.istore_n 3, 1) := by decide +kernel
theorem dX10_mark_37 : decode prog_1_method_18_code 37 = .ok (.iload_n 3, 1) := by decide +kernel
theorem dX10_mark_38 : decode prog_1_method_18_code 38 = .ok (.ifCond .ge 14, 3) := by decide +kernel
theorem dX10_mark_41 : decode prog_1_method_18_code 41 = .ok (.new 250, 3) := by decide +kernel
theorem dX10_mark_44 : decode prog_1_method_18_code 44 = .ok (.dup, 1) := by decide +kernel
theorem dX10_mark_45 : decode prog_1_method_18_code 45 = .ok (.ldc_w 293, 3) := by decide +kernel
theorem dX10_mark_48 : decode prog_1_method_18_code 48 = .ok (.invokespecial 254, 3) := by decide +kernel
theorem dX10_mark_51 : decode prog_1_method_18_code 51 = .ok (.athrow, 1) := by decide +kernel
theorem dX10_mark_52 : decode prog_1_method_18_code 52 = .ok (.iload_n 3, 1) := by decide +kernel
theorem dX10_mark_53 : decode prog_1_method_18_code 53 = .ok (.ireturn, 1) := by decide +kernel
theorem nX10_level : zDs yX10_level 2 := ⟨by decide, by decide, by decide +kernel⟩
theorem dX10_level_0 : decode prog_1_method_19_code 0 = .ok (.aload_n 0, 1) := by decide +kernel
theorem dX10_level_1 : decode prog_1_method_19_code 1 = .ok (.getfield 10, 3) := by decide +kernel
theorem dX10_level_4 : decode prog_1_method_19_code 4 = .ok (.getfield 81, 3) := by decide +kernel
theorem dX10_level_7 : decode prog_1_method_19_code 7 = .ok (.iload_n 1, 1) := by decide +kernel
theorem dX10_level_8 : decode prog_1_method_19_code 8 = .ok (.invokevirtual 188, 3) := by decide +kernel
theorem dX10_level_11 : decode prog_1_method_19_code 11 = .ok (.ifCond .eq 17, 3) := by decide +kernel
theorem dX10_level_14 : decode prog_1_method_19_code 14 = .ok (.aload_n 0, 1) := by decide +kernel
theorem dX10_level_15 : decode prog_1_method_19_code 15 = .ok (.getfield 10, 3) := by decide +kernel
theorem dX10_level_18 : decode prog_1_method_19_code 18 = .ok (.getfield 96, 3) := by decide +kernel
theorem dX10_level_21 : decode prog_1_method_19_code 21 = .ok (.iload_n 2, 1) := by decide +kernel
theorem dX10_level_22 : decode prog_1_method_19_code 22 = .ok (.invokevirtual 226, 3) := by decide +kernel
theorem dX10_level_25 : decode prog_1_method_19_code 25 = .ok (.ifCond .ne 14, 3) := by decide +kernel
theorem dX10_level_28 : decode prog_1_method_19_code 28 = .ok (.new 192, 3) := by decide +kernel
theorem dX10_level_31 : decode prog_1_method_19_code 31 = .ok (.dup, 1) := by decide +kernel
theorem dX10_level_32 : decode prog_1_method_19_code 32 = .ok (.ldc_w 266, 3) := by decide +kernel
theorem dX10_level_35 : decode prog_1_method_19_code 35 = .ok (.invokespecial 196, 3) := by decide +kernel
theorem dX10_level_38 : decode prog_1_method_19_code 38 = .ok (.athrow, 1) := by decide +kernel
theorem dX10_level_39 : decode prog_1_method_19_code 39 = .ok (.aload_n 0, 1) := by decide +kernel
theorem dX10_level_40 : decode prog_1_method_19_code 40 = .ok (.getfield 10, 3) := by decide +kernel
theorem dX10_level_43 : decode prog_1_method_19_code 43 = .ok (.iload_n 1, 1) := by decide +kernel
theorem dX10_level_44 : decode prog_1_method_19_code 44 = .ok (.iload_n 2, 1) := by decide +kernel
theorem dX10_level_45 : decode prog_1_method_19_code 45 = .ok (.invokevirtual 295, 3) := by decide +kernel
theorem dX10_level_48 : decode prog_1_method_19_code 48 = .ok (.ireturn, 1) := by decide +kernel
theorem nX10_reads : zDs yX10_reads 2 := ⟨by decide, by decide, by decide +kernel⟩
theorem dX10_reads_0 : decode prog_1_method_20_code 0 = .ok (.aload_n 0, 1) := by decide +kernel
theorem dX10_reads_1 : decode prog_1_method_20_code 1 = .ok (.getfield 10, 3) := by decide +kernel
theorem dX10_reads_4 : decode prog_1_method_20_code 4 = .ok (.getfield 81, 3) := by decide +kernel
theorem dX10_reads_7 : decode prog_1_method_20_code 7 = .ok (.iload_n 1, 1) := by decide +kernel
theorem dX10_reads_8 : decode prog_1_method_20_code 8 = .ok (.invokevirtual 188, 3) := by decide +kernel
theorem dX10_reads_11 : decode prog_1_method_20_code 11 = .ok (.ifCond .eq 17, 3) := by decide +kernel
theorem dX10_reads_14 : decode prog_1_method_20_code 14 = .ok (.aload_n 0, 1) := by decide +kernel
theorem dX10_reads_15 : decode prog_1_method_20_code 15 = .ok (.getfield 10, 3) := by decide +kernel
theorem dX10_reads_18 : decode prog_1_method_20_code 18 = .ok (.getfield 96, 3) := by decide +kernel
theorem dX10_reads_21 : decode prog_1_method_20_code 21 = .ok (.iload_n 2, 1) := by decide +kernel
theorem dX10_reads_22 : decode prog_1_method_20_code 22 = .ok (.invokevirtual 226, 3) := by decide +kernel
theorem dX10_reads_25 : decode prog_1_method_20_code 25 = .ok (.ifCond .ne 14, 3) := by decide +kernel
theorem dX10_reads_28 : decode prog_1_method_20_code 28 = .ok (.new 192, 3) := by decide +kernel
theorem dX10_reads_31 : decode prog_1_method_20_code 31 = .ok (.dup, 1) := by decide +kernel
theorem dX10_reads_32 : decode prog_1_method_20_code 32 = .ok (.ldc_w 266, 3) := by decide +kernel
theorem dX10_reads_35 : decode prog_1_method_20_code 35 = .ok (.invokespecial 196, 3) := by decide +kernel
theorem dX10_reads_38 : decode prog_1_method_20_code 38 = .ok (.athrow, 1) := by decide +kernel
theorem dX10_reads_39 : decode prog_1_method_20_code 39 = .ok (.aload_n 0, 1) := by decide +kernel
theorem dX10_reads_40 : decode prog_1_method_20_code 40 = .ok (.getfield 10, 3) := by decide +kernel
theorem dX10_reads_43 : decode prog_1_method_20_code 43 = .ok (.iload_n 1, 1) := by decide +kernel
theorem dX10_reads_44 : decode prog_1_method_20_code 44 = .ok (.iload_n 2, 1) := by decide +kernel
theorem dX10_reads_45 : decode prog_1_method_20_code 45 = .ok (.invokevirtual 298, 3) := by decide +kernel
theorem dX10_reads_48 : decode prog_1_method_20_code 48 = .ok (.ireturn, 1) := by decide +kernel
theorem nX10_shift : zDs yX10_shift 1 := ⟨by decide, by decide, by decide +kernel⟩
theorem dX10_shift_0 : decode prog_1_method_21_code 0 = .ok (.iload_n 1, 1) := by decide +kernel
theorem dX10_shift_1 : decode prog_1_method_21_code 1 = .ok (.ifCond .lt 10, 3) := by decide +kernel
theorem dX10_shift_4 : decode prog_1_method_21_code 4 = .ok (.iload_n 1, 1) := by decide +kernel
theorem dX10_shift_5 : decode prog_1_method_21_code 5 = .ok (.sipush 999, 3) := by decide +kernel
theorem dX10_shift_8 : decode prog_1_method_21_code 8 = .ok (.if_icmp .le 14, 3) := by decide +kernel
theorem dX10_shift_11 : decode prog_1_method_21_code 11 = .ok (.new 221, 3) := by decide +kernel
theorem dX10_shift_14 : decode prog_1_method_21_code 14 = .ok (.dup, 1) := by decide +kernel
theorem dX10_shift_15 : decode prog_1_method_21_code 15 = .ok (.ldc_w 301, 3) := by decide +kernel
theorem dX10_shift_18 : decode prog_1_method_21_code 18 = .ok (.invokespecial 225, 3) := by decide +kernel
theorem dX10_shift_21 : decode prog_1_method_21_code 21 = .ok (.athrow, 1) := by decide +kernel
theorem dX10_shift_22 : decode prog_1_method_21_code 22 = .ok (.aload_n 0, 1) := by decide +kernel
theorem dX10_shift_23 : decode prog_1_method_21_code 23 = .ok (.getfield 10, 3) := by decide +kernel
theorem dX10_shift_26 : decode prog_1_method_21_code 26 = .ok (.getfield 107, 3) := by decide +kernel
theorem dX10_shift_29 : decode prog_1_method_21_code 29 = .ok (.iload_n 1, 1) := by decide +kernel
theorem dX10_shift_30 : decode prog_1_method_21_code 30 = .ok (.invokevirtual 303, 3) := by decide +kernel
theorem dX10_shift_33 : decode prog_1_method_21_code 33 = .ok (.ireturn, 1) := by decide +kernel
theorem nX10_errorIn : zDs yX10_errorIn 2 := ⟨by decide, by decide, by decide +kernel⟩
theorem dX10_errorIn_0 : decode prog_1_method_22_code 0 = .ok (.aload_n 0, 1) := by decide +kernel
theorem dX10_errorIn_1 : decode prog_1_method_22_code 1 = .ok (.getfield 10, 3) := by decide +kernel
theorem dX10_errorIn_4 : decode prog_1_method_22_code 4 = .ok (.getfield 81, 3) := by decide +kernel
theorem dX10_errorIn_7 : decode prog_1_method_22_code 7 = .ok (.iload_n 1, 1) := by decide +kernel
theorem dX10_errorIn_8 : decode prog_1_method_22_code 8 = .ok (.invokevirtual 188, 3) := by decide +kernel
theorem dX10_errorIn_11 : decode prog_1_method_22_code 11 = .ok (.ifCond .ne 13, 3) := by decide +kernel
theorem dX10_errorIn_14 : decode prog_1_method_22_code 14 = .ok (.new 192, 3) := by decide +kernel
theorem dX10_errorIn_17 : decode prog_1_method_22_code 17 = .ok (.dup, 1) := by decide +kernel
theorem dX10_errorIn_18 : decode prog_1_method_22_code 18 = .ok (.ldc 194, 2) := by decide +kernel
theorem dX10_errorIn_20 : decode prog_1_method_22_code 20 = .ok (.invokespecial 196, 3) := by decide +kernel
theorem dX10_errorIn_23 : decode prog_1_method_22_code 23 = .ok (.athrow, 1) := by decide +kernel
theorem dX10_errorIn_24 : decode prog_1_method_22_code 24 = .ok (.iload_n 2, 1) := by decide +kernel
theorem dX10_errorIn_25 : decode prog_1_method_22_code 25 = .ok (.ifCond .lt 9, 3) := by decide +kernel
theorem dX10_errorIn_28 : decode prog_1_method_22_code 28 = .ok (.iload_n 2, 1) := by decide +kernel
theorem dX10_errorIn_29 : decode prog_1_method_22_code 29 = .ok (.bipush 60, 2) := by decide +kernel
theorem dX10_errorIn_31 : decode prog_1_method_22_code 31 = .ok (.if_icmp .le 14, 3) := by decide +kernel
theorem dX10_errorIn_34 : decode prog_1_method_22_code 34 = .ok (.new 221, 3) := by decide +kernel
theorem dX10_errorIn_37 : decode prog_1_method_22_code 37 = .ok (.dup, 1) := by decide +kernel
theorem dX10_errorIn_38 : decode prog_1_method_22_code 38 = .ok (.ldc_w 306, 3) := by decide +kernel
theorem dX10_errorIn_41 : decode prog_1_method_22_code 41 = .ok (.invokespecial 225, 3) := by decide +kernel
theorem dX10_errorIn_44 : decode prog_1_method_22_code 44 = .ok (.athrow, 1) := by decide +kernel
theorem dX10_errorIn_45 : decode prog_1_method_22_code 45 = .ok (.aload_n 0, 1) := by decide +kernel
theorem dX10_errorIn_46 : decode prog_1_method_22_code 46 = .ok (.getfield 10, 3) := by decide +kernel
theorem dX10_errorIn_49 : decode prog_1_method_22_code 49 = .ok (.iload_n 1, 1) := by decide +kernel
theorem dX10_errorIn_50 : decode prog_1_method_22_code 50 = .ok (.iload_n 2, 1) := by decide +kernel
theorem dX10_errorIn_51 : decode prog_1_method_22_code 51 = .ok (.invokevirtual 308, 3) := by decide +kernel
theorem dX10_errorIn_54 : decode prog_1_method_22_code 54 = .ok (.ireturn, 1) := by decide +kernel
theorem nX10_rises : zDs yX10_rises 1 := ⟨by decide, by decide, by decide +kernel⟩
theorem dX10_rises_0 : decode prog_1_method_23_code 0 = .ok (.aload_n 0, 1) := by decide +kernel
theorem dX10_rises_1 : decode prog_1_method_23_code 1 = .ok (.getfield 10, 3) := by decide +kernel
theorem dX10_rises_4 : decode prog_1_method_23_code 4 = .ok (.getfield 81, 3) := by decide +kernel
theorem dX10_rises_7 : decode prog_1_method_23_code 7 = .ok (.iload_n 1, 1) := by decide +kernel
theorem dX10_rises_8 : decode prog_1_method_23_code 8 = .ok (.invokevirtual 188, 3) := by decide +kernel
theorem dX10_rises_11 : decode prog_1_method_23_code 11 = .ok (.ifCond .ne 13, 3) := by decide +kernel
theorem dX10_rises_14 : decode prog_1_method_23_code 14 = .ok (.new 192, 3) := by decide +kernel
theorem dX10_rises_17 : decode prog_1_method_23_code 17 = .ok (.dup, 1) := by decide +kernel
theorem dX10_rises_18 : decode prog_1_method_23_code 18 = .ok (.ldc 194, 2) := by decide +kernel
theorem dX10_rises_20 : decode prog_1_method_23_code 20 = .ok (.invokespecial 196, 3) := by decide +kernel
theorem dX10_rises_23 : decode prog_1_method_23_code 23 = .ok (.athrow, 1) := by decide +kernel
theorem dX10_rises_24 : decode prog_1_method_23_code 24 = .ok (.aload_n 0, 1) := by decide +kernel
theorem dX10_rises_25 : decode prog_1_method_23_code 25 = .ok (.getfield 10, 3) := by decide +kernel
theorem dX10_rises_28 : decode prog_1_method_23_code 28 = .ok (.iload_n 1, 1) := by decide +kernel
theorem dX10_rises_29 : decode prog_1_method_23_code 29 = .ok (.invokevirtual 218, 3) := by decide +kernel
theorem dX10_rises_32 : decode prog_1_method_23_code 32 = .ok (.ifCond .ne 7, 3) := by decide +kernel
theorem dX10_rises_35 : decode prog_1_method_23_code 35 = .ok (.iconst 1, 1) := by decide +kernel
theorem dX10_rises_36 : decode prog_1_method_23_code 36 = .ok (.goto 4, 3) := by decide +kernel
theorem dX10_rises_39 : decode prog_1_method_23_code 39 = .ok (.iconst 0, 1) := by decide +kernel
theorem dX10_rises_40 : decode prog_1_method_23_code 40 = .ok (.ireturn, 1) := by decide +kernel
theorem nX10_ranked : zDs yX10_ranked 1 := ⟨by decide, by decide, by decide +kernel⟩
theorem dX10_ranked_0 : decode prog_1_method_24_code 0 = .ok (.iconst 0, 1) := by decide +kernel
theorem dX10_ranked_1 : decode prog_1_method_24_code 1 = .ok (.istore_n 2, 1) := by decide +kernel
theorem dX10_ranked_2 : decode prog_1_method_24_code 2 = .ok (.iload_n 2, 1) := by decide +kernel
theorem dX10_ranked_3 : decode prog_1_method_24_code 3 = .ok (.aload_n 0, 1) := by decide +kernel
theorem dX10_ranked_4 : decode prog_1_method_24_code 4 = .ok (.getfield 10, 3) := by decide +kernel
theorem dX10_ranked_7 : decode prog_1_method_24_code 7 = .ok (.getfield 96, 3) := by decide +kernel
theorem dX10_ranked_10 : decode prog_1_method_24_code 10 = .ok (.getfield 311, 3) := by decide +kernel
theorem dX10_ranked_13 : decode prog_1_method_24_code 13 = .ok (.if_icmp .ge 25, 3) := by decide +kernel
theorem dX10_ranked_16 : decode prog_1_method_24_code 16 = .ok (.aload_n 0, 1) := by decide +kernel
theorem dX10_ranked_17 : decode prog_1_method_24_code 17 = .ok (.getfield 62, 3) := by decide +kernel
theorem dX10_ranked_20 : decode prog_1_method_24_code 20 = .ok (.iload_n 2, 1) := by decide +kernel
theorem dX10_ranked_21 : decode prog_1_method_24_code 21 = .ok (.aload_n 0, 1) := by decide +kernel
theorem dX10_ranked_22 : decode prog_1_method_24_code 22 = .ok (.getfield 10, 3) := by decide +kernel
theorem dX10_ranked_25 : decode prog_1_method_24_code 25 = .ok (.iload_n 2, 1) := by decide +kernel
theorem dX10_ranked_26 : decode prog_1_method_24_code 26 = .ok (.invokevirtual 244, 3) := by decide +kernel
theorem dX10_ranked_29 : decode prog_1_method_24_code 29 = .ok (.invokestatic 314, 3) := by decide +kernel
theorem dX10_ranked_32 : decode prog_1_method_24_code 32 = .ok (.iinc 2 1, 3) := by decide +kernel
theorem dX10_ranked_35 : decode prog_1_method_24_code 35 = .ok (.goto (-33), 3) := by decide +kernel
theorem dX10_ranked_38 : decode prog_1_method_24_code 38 = .ok (.aload_n 0, 1) := by decide +kernel
theorem dX10_ranked_39 : decode prog_1_method_24_code 39 = .ok (.getfield 10, 3) := by decide +kernel
theorem dX10_ranked_42 : decode prog_1_method_24_code 42 = .ok (.iload_n 1, 1) := by decide +kernel
theorem dX10_ranked_43 : decode prog_1_method_24_code 43 = .ok (.aload_n 0, 1) := by decide +kernel
theorem dX10_ranked_44 : decode prog_1_method_24_code 44 = .ok (.getfield 62, 3) := by decide +kernel
theorem dX10_ranked_47 : decode prog_1_method_24_code 47 = .ok (.invokevirtual 318, 3) := by decide +kernel
theorem dX10_ranked_50 : decode prog_1_method_24_code 50 = .ok (.istore_n 2, 1) := by decide +kernel
theorem dX10_ranked_51 : decode prog_1_method_24_code 51 = .ok (.iload_n 2, 1) := by decide +kernel
theorem dX10_ranked_52 : decode prog_1_method_24_code 52 = .ok (.ifCond .ge 14, 3) := by decide +kernel
theorem dX10_ranked_55 : decode prog_1_method_24_code 55 = .ok (.new 250, 3) := by decide +kernel
theorem dX10_ranked_58 : decode prog_1_method_24_code 58 = .ok (.dup, 1) := by decide +kernel
theorem dX10_ranked_59 : decode prog_1_method_24_code 59 = .ok (.ldc_w 322, 3) := by decide +kernel
theorem dX10_ranked_62 : decode prog_1_method_24_code 62 = .ok (.invokespecial 254, 3) := by decide +kernel
theorem dX10_ranked_65 : decode prog_1_method_24_code 65 = .ok (.athrow, 1) := by decide +kernel
theorem dX10_ranked_66 : decode prog_1_method_24_code 66 = .ok (.iload_n 2, 1) := by decide +kernel
theorem dX10_ranked_67 : decode prog_1_method_24_code 67 = .ok (.ireturn, 1) := by decide +kernel
theorem nX10_doubts : zDs yX10_doubts 0 := ⟨by decide, by decide, by decide +kernel⟩
theorem dX10_doubts_0 : decode prog_1_method_25_code 0 = .ok (.aload_n 0, 1) := by decide +kernel
theorem dX10_doubts_1 : decode prog_1_method_25_code 1 = .ok (.getfield 10, 3) := by decide +kernel
theorem dX10_doubts_4 : decode prog_1_method_25_code 4 = .ok (.invokevirtual 324, 3) := by decide +kernel
theorem dX10_doubts_7 : decode prog_1_method_25_code 7 = .ok (.ireturn, 1) := by decide +kernel
theorem nX10_doubtsAgain : zDs yX10_doubtsAgain 0 := ⟨by decide, by decide, by decide +kernel⟩
theorem dX10_doubtsAgain_0 : decode prog_1_method_26_code 0 = .ok (.aload_n 0, 1) := by decide +kernel
theorem dX10_doubtsAgain_1 : decode prog_1_method_26_code 1 = .ok (.getfield 10, 3) := by decide +kernel
theorem dX10_doubtsAgain_4 : decode prog_1_method_26_code 4 = .ok (.invokevirtual 327, 3) := by decide +kernel
theorem dX10_doubtsAgain_7 : decode prog_1_method_26_code 7 = .ok (.ireturn, 1) := by decide +kernel
theorem nX10_append : zDs yX10_append 1 := ⟨by decide, by decide, by decide +kernel⟩
theorem dX10_append_0 : decode prog_1_method_27_code 0 = .ok (.aload_n 0, 1) := by decide +kernel
theorem dX10_append_1 : decode prog_1_method_27_code 1 = .ok (.getfield 45, 3) := by decide +kernel
theorem dX10_append_4 : decode prog_1_method_27_code 4 = .ok (.invokevirtual 330, 3) := by decide +kernel
theorem dX10_append_7 : decode prog_1_method_27_code 7 = .ok (.ifCond .eq 14, 3) := by decide +kernel
theorem dX10_append_10 : decode prog_1_method_27_code 10 = .ok (.new 334, 3) := by decide +kernel
theorem dX10_append_13 : decode prog_1_method_27_code 13 = .ok (.dup, 1) := by decide +kernel
theorem dX10_append_14 : decode prog_1_method_27_code 14 = .ok (.ldc_w 336, 3) := by decide +kernel
theorem dX10_append_17 : decode prog_1_method_27_code 17 = .ok (.invokespecial 338, 3) := by decide +kernel
theorem dX10_append_20 : decode prog_1_method_27_code 20 = .ok (.athrow, 1) := by decide +kernel
theorem dX10_append_21 : decode prog_1_method_27_code 21 = .ok (.aload_n 0, 1) := by decide +kernel
theorem dX10_append_22 : decode prog_1_method_27_code 22 = .ok (.getfield 45, 3) := by decide +kernel
theorem dX10_append_25 : decode prog_1_method_27_code 25 = .ok (.iload_n 1, 1) := by decide +kernel
theorem dX10_append_26 : decode prog_1_method_27_code 26 = .ok (.invokevirtual 339, 3) := by decide +kernel
theorem dX10_append_29 : decode prog_1_method_27_code 29 = .ok (.ireturn, 1) := by decide +kernel
theorem nX10_commands : zDs yX10_commands 0 := ⟨by decide, by decide, by decide +kernel⟩
theorem dX10_commands_0 : decode prog_1_method_28_code 0 = .ok (.aload_n 0, 1) := by decide +kernel
theorem dX10_commands_1 : decode prog_1_method_28_code 1 = .ok (.aload_n 0, 1) := by decide +kernel
theorem dX10_commands_2 : decode prog_1_method_28_code 2 = .ok (.getfield 45, 3) := by decide +kernel
theorem dX10_commands_5 : decode prog_1_method_28_code 5 = .ok (.invokevirtual 343, 3) := by decide +kernel
theorem dX10_commands_8 : decode prog_1_method_28_code 8 = .ok (.putfield 49, 3) := by decide +kernel
theorem dX10_commands_11 : decode prog_1_method_28_code 11 = .ok (.aload_n 0, 1) := by decide +kernel
theorem dX10_commands_12 : decode prog_1_method_28_code 12 = .ok (.getfield 45, 3) := by decide +kernel
theorem dX10_commands_15 : decode prog_1_method_28_code 15 = .ok (.invokevirtual 346, 3) := by decide +kernel
theorem dX10_commands_18 : decode prog_1_method_28_code 18 = .ok (.aload_n 0, 1) := by decide +kernel
theorem dX10_commands_19 : decode prog_1_method_28_code 19 = .ok (.getfield 49, 3) := by decide +kernel
theorem dX10_commands_22 : decode prog_1_method_28_code 22 = .ok (.ifCond .lt 14, 3) := by decide +kernel
theorem dX10_commands_25 : decode prog_1_method_28_code 25 = .ok (.new 221, 3) := by decide +kernel
theorem dX10_commands_28 : decode prog_1_method_28_code 28 = .ok (.dup, 1) := by decide +kernel
theorem dX10_commands_29 : decode prog_1_method_28_code 29 = .ok (.ldc_w 349, 3) := by decide +kernel
theorem dX10_commands_32 : decode prog_1_method_28_code 32 = .ok (.invokespecial 225, 3) := by decide +kernel
theorem dX10_commands_35 : decode prog_1_method_28_code 35 = .ok (.athrow, 1) := by decide +kernel
theorem dX10_commands_36 : decode prog_1_method_28_code 36 = .ok (.aload_n 0, 1) := by decide +kernel
theorem dX10_commands_37 : decode prog_1_method_28_code 37 = .ok (.getfield 16, 3) := by decide +kernel
theorem dX10_commands_40 : decode prog_1_method_28_code 40 = .ok (.aload_n 0, 1) := by decide +kernel
theorem dX10_commands_41 : decode prog_1_method_28_code 41 = .ok (.getfield 10, 3) := by decide +kernel
theorem dX10_commands_44 : decode prog_1_method_28_code 44 = .ok (.invokevirtual 351, 3) := by decide +kernel
theorem dX10_commands_47 : decode prog_1_method_28_code 47 = .ok (.aload_n 0, 1) := by decide +kernel
theorem dX10_commands_48 : decode prog_1_method_28_code 48 = .ok (.getfield 45, 3) := by decide +kernel
theorem dX10_commands_51 : decode prog_1_method_28_code 51 = .ok (.getfield 354, 3) := by decide +kernel
theorem dX10_commands_54 : decode prog_1_method_28_code 54 = .ok (.istore_n 1, 1) := by decide +kernel
theorem dX10_commands_55 : decode prog_1_method_28_code 55 = .ok (.iconst 0, 1) := by decide +kernel
theorem dX10_commands_56 : decode prog_1_method_28_code 56 = .ok (.istore_n 2, 1) := by decide +kernel
theorem dX10_commands_57 : decode prog_1_method_28_code 57 = .ok (.iload_n 2, 1) := by decide +kernel
theorem dX10_commands_58 : decode prog_1_method_28_code 58 = .ok (.iload_n 1, 1) := by decide +kernel
theorem dX10_commands_59 : decode prog_1_method_28_code 59 = .ok (.if_icmp .ge 41, 3) := by decide +kernel
theorem dX10_commands_62 : decode prog_1_method_28_code 62 = .ok (.aload_n 0, 1) := by decide +kernel
theorem dX10_commands_63 : decode prog_1_method_28_code 63 = .ok (.iload_n 2, 1) := by decide +kernel
theorem dX10_commands_64 : decode prog_1_method_28_code 64 = .ok (.invokevirtual 357, 3) := by decide +kernel
theorem dX10_commands_67 : decode prog_1_method_28_code 67 = .ok (.ifCond .eq 22, 3) := by decide +kernel
theorem dX10_commands_70 : decode prog_1_method_28_code 70 = .ok (.aload_n 0, 1) := by decide +kernel
theorem dX10_commands_71 : decode prog_1_method_28_code 71 = .ok (.getfield 38, 3) := by decide +kernel
theorem dX10_commands_74 : decode prog_1_method_28_code 74 = .ok (.iload_n 2, 1) := by decide +kernel
theorem dX10_commands_75 : decode prog_1_method_28_code 75 = .ok (.putfield 360, 3) := by decide +kernel
theorem dX10_commands_78 : decode prog_1_method_28_code 78 = .ok (.new 70, 3) := by decide +kernel
theorem dX10_commands_81 : decode prog_1_method_28_code 81 = .ok (.dup, 1) := by decide +kernel
theorem dX10_commands_82 : decode prog_1_method_28_code 82 = .ok (.ldc_w 363, 3) := by decide +kernel
theorem dX10_commands_85 : decode prog_1_method_28_code 85 = .ok (.invokespecial 74, 3) := by decide +kernel
theorem dX10_commands_88 : decode prog_1_method_28_code 88 = .ok (.athrow, 1) := by decide +kernel
theorem dX10_commands_89 : decode prog_1_method_28_code 89 = .ok (.aload_n 0, 1) := by decide +kernel
theorem dX10_commands_90 : decode prog_1_method_28_code 90 = .ok (.iload_n 2, 1) := by decide +kernel
theorem dX10_commands_91 : decode prog_1_method_28_code 91 = .ok (.invokevirtual 365, 3) := by decide +kernel
theorem dX10_commands_94 : decode prog_1_method_28_code 94 = .ok (.iinc 2 1, 3) := by decide +kernel
theorem dX10_commands_97 : decode prog_1_method_28_code 97 = .ok (.goto (-40), 3) := by decide +kernel
theorem dX10_commands_100 : decode prog_1_method_28_code 100 = .ok (.aload_n 0, 1) := by decide +kernel
theorem dX10_commands_101 : decode prog_1_method_28_code 101 = .ok (.getfield 31, 3) := by decide +kernel
theorem dX10_commands_104 : decode prog_1_method_28_code 104 = .ok (.aload_n 0, 1) := by decide +kernel
theorem dX10_commands_105 : decode prog_1_method_28_code 105 = .ok (.getfield 10, 3) := by decide +kernel
theorem dX10_commands_108 : decode prog_1_method_28_code 108 = .ok (.invokevirtual 77, 3) := by decide +kernel
theorem dX10_commands_111 : decode prog_1_method_28_code 111 = .ok (.aload_n 0, 1) := by decide +kernel
theorem dX10_commands_112 : decode prog_1_method_28_code 112 = .ok (.getfield 10, 3) := by decide +kernel
theorem dX10_commands_115 : decode prog_1_method_28_code 115 = .ok (.aload_n 0, 1) := by decide +kernel
theorem dX10_commands_116 : decode prog_1_method_28_code 116 = .ok (.getfield 16, 3) := by decide +kernel
theorem dX10_commands_119 : decode prog_1_method_28_code 119 = .ok (.invokevirtual 351, 3) := by decide +kernel
theorem dX10_commands_122 : decode prog_1_method_28_code 122 = .ok (.iload_n 1, 1) := by decide +kernel
theorem dX10_commands_123 : decode prog_1_method_28_code 123 = .ok (.ireturn, 1) := by decide +kernel
theorem nX10_isRefused : zDs yX10_isRefused 1 := ⟨by decide, by decide, by decide +kernel⟩
theorem dX10_isRefused_0 : decode prog_1_method_29_code 0 = .ok (.aload_n 0, 1) := by decide +kernel
theorem dX10_isRefused_1 : decode prog_1_method_29_code 1 = .ok (.getfield 45, 3) := by decide +kernel
theorem dX10_isRefused_4 : decode prog_1_method_29_code 4 = .ok (.iload_n 1, 1) := by decide +kernel
theorem dX10_isRefused_5 : decode prog_1_method_29_code 5 = .ok (.iconst 0, 1) := by decide +kernel
theorem dX10_isRefused_6 : decode prog_1_method_29_code 6 = .ok (.invokevirtual 368, 3) := by decide +kernel
theorem dX10_isRefused_9 : decode prog_1_method_29_code 9 = .ok (.istore_n 2, 1) := by decide +kernel
theorem dX10_isRefused_10 : decode prog_1_method_29_code 10 = .ok (.aload_n 0, 1) := by decide +kernel
theorem dX10_isRefused_11 : decode prog_1_method_29_code 11 = .ok (.getfield 45, 3) := by decide +kernel
theorem dX10_isRefused_14 : decode prog_1_method_29_code 14 = .ok (.iload_n 1, 1) := by decide +kernel
theorem dX10_isRefused_15 : decode prog_1_method_29_code 15 = .ok (.iconst 1, 1) := by decide +kernel
theorem dX10_isRefused_16 : decode prog_1_method_29_code 16 = .ok (.invokevirtual 368, 3) := by decide +kernel
theorem dX10_isRefused_19 : decode prog_1_method_29_code 19 = .ok (.istore_n 3, 1) := by decide +kernel
theorem dX10_isRefused_20 : decode prog_1_method_29_code 20 = .ok (.aload_n 0, 1) := by decide +kernel
theorem dX10_isRefused_21 : decode prog_1_method_29_code 21 = .ok (.getfield 45, 3) := by decide +kernel
theorem dX10_isRefused_24 : decode prog_1_method_29_code 24 = .ok (.iload_n 1, 1) := by decide +kernel
theorem dX10_isRefused_25 : decode prog_1_method_29_code 25 = .ok (.invokevirtual 371, 3) := by decide +kernel
theorem dX10_isRefused_28 : decode prog_1_method_29_code 28 = .ok (.tableswitch 149 107 120 #[109, 149, 72, 149, 149, 149, 149, 149, 122, 149, 149, 149, 135, 95], 72) := by decide +kernel
theorem dX10_isRefused_100 : decode prog_1_method_29_code 100 = .ok (.aload_n 0, 1) := by decide +kernel
theorem dX10_isRefused_101 : decode prog_1_method_29_code 101 = .ok (.getfield 16, 3) := by decide +kernel
theorem dX10_isRefused_104 : decode prog_1_method_29_code 104 = .ok (.iload_n 2, 1) := by decide +kernel
theorem dX10_isRefused_105 : decode prog_1_method_29_code 105 = .ok (.iload_n 3, 1) := by decide +kernel
theorem dX10_isRefused_106 : decode prog_1_method_29_code 106 = .ok (.aload_n 0, 1) := by decide +kernel
theorem dX10_isRefused_107 : decode prog_1_method_29_code 107 = .ok (.getfield 45, 3) := by decide +kernel
theorem dX10_isRefused_110 : decode prog_1_method_29_code 110 = .ok (.iload_n 1, 1) := by decide +kernel
theorem dX10_isRefused_111 : decode prog_1_method_29_code 111 = .ok (.iconst 2, 1) := by decide +kernel
theorem dX10_isRefused_112 : decode prog_1_method_29_code 112 = .ok (.invokevirtual 368, 3) := by decide +kernel
theorem dX10_isRefused_115 : decode prog_1_method_29_code 115 = .ok (.aload_n 0, 1) := by decide +kernel
theorem dX10_isRefused_116 : decode prog_1_method_29_code 116 = .ok (.getfield 38, 3) := by decide +kernel
theorem dX10_isRefused_119 : decode prog_1_method_29_code 119 = .ok (.invokevirtual 132, 3) := by decide +kernel
theorem dX10_isRefused_122 : decode prog_1_method_29_code 122 = .ok (.ireturn, 1) := by decide +kernel
theorem dX10_isRefused_123 : decode prog_1_method_29_code 123 = .ok (.aload_n 0, 1) := by decide +kernel
theorem dX10_isRefused_124 : decode prog_1_method_29_code 124 = .ok (.getfield 16, 3) := by decide +kernel
theorem dX10_isRefused_127 : decode prog_1_method_29_code 127 = .ok (.iload_n 2, 1) := by decide +kernel
theorem dX10_isRefused_128 : decode prog_1_method_29_code 128 = .ok (.iload_n 3, 1) := by decide +kernel
theorem dX10_isRefused_129 : decode prog_1_method_29_code 129 = .ok (.aload_n 0, 1) := by decide +kernel
theorem dX10_isRefused_130 : decode prog_1_method_29_code 130 = .ok (.getfield 38, 3) := by decide +kernel
theorem dX10_isRefused_133 : decode prog_1_method_29_code 133 = .ok (.invokevirtual 140, 3) := by decide +kernel
theorem dX10_isRefused_136 : decode prog_1_method_29_code 136 = .ok (.ireturn, 1) := by decide +kernel
theorem dX10_isRefused_137 : decode prog_1_method_29_code 137 = .ok (.aload_n 0, 1) := by decide +kernel
theorem dX10_isRefused_138 : decode prog_1_method_29_code 138 = .ok (.getfield 16, 3) := by decide +kernel
theorem dX10_isRefused_141 : decode prog_1_method_29_code 141 = .ok (.iload_n 2, 1) := by decide +kernel
theorem dX10_isRefused_142 : decode prog_1_method_29_code 142 = .ok (.aload_n 0, 1) := by decide +kernel
theorem dX10_isRefused_143 : decode prog_1_method_29_code 143 = .ok (.getfield 38, 3) := by decide +kernel
theorem dX10_isRefused_146 : decode prog_1_method_29_code 146 = .ok (.invokevirtual 164, 3) := by decide +kernel
theorem dX10_isRefused_149 : decode prog_1_method_29_code 149 = .ok (.ireturn, 1) := by decide +kernel
theorem dX10_isRefused_150 : decode prog_1_method_29_code 150 = .ok (.aload_n 0, 1) := by decide +kernel
theorem dX10_isRefused_151 : decode prog_1_method_29_code 151 = .ok (.getfield 16, 3) := by decide +kernel
theorem dX10_isRefused_154 : decode prog_1_method_29_code 154 = .ok (.iload_n 2, 1) := by decide +kernel
theorem dX10_isRefused_155 : decode prog_1_method_29_code 155 = .ok (.aload_n 0, 1) := by decide +kernel
theorem dX10_isRefused_156 : decode prog_1_method_29_code 156 = .ok (.getfield 38, 3) := by decide +kernel
theorem dX10_isRefused_159 : decode prog_1_method_29_code 159 = .ok (.invokevirtual 154, 3) := by decide +kernel
theorem dX10_isRefused_162 : decode prog_1_method_29_code 162 = .ok (.ireturn, 1) := by decide +kernel
theorem dX10_isRefused_163 : decode prog_1_method_29_code 163 = .ok (.aload_n 0, 1) := by decide +kernel
theorem dX10_isRefused_164 : decode prog_1_method_29_code 164 = .ok (.getfield 16, 3) := by decide +kernel
theorem dX10_isRefused_167 : decode prog_1_method_29_code 167 = .ok (.iload_n 2, 1) := by decide +kernel
theorem dX10_isRefused_168 : decode prog_1_method_29_code 168 = .ok (.iload_n 3, 1) := by decide +kernel
theorem dX10_isRefused_169 : decode prog_1_method_29_code 169 = .ok (.aload_n 0, 1) := by decide +kernel
theorem dX10_isRefused_170 : decode prog_1_method_29_code 170 = .ok (.getfield 38, 3) := by decide +kernel
theorem dX10_isRefused_173 : decode prog_1_method_29_code 173 = .ok (.invokevirtual 172, 3) := by decide +kernel
theorem dX10_isRefused_176 : decode prog_1_method_29_code 176 = .ok (.ireturn, 1) := by decide +kernel
theorem dX10_isRefused_177 : decode prog_1_method_29_code 177 = .ok (.aload_n 0, 1) := by decide +kernel
theorem dX10_isRefused_178 : decode prog_1_method_29_code 178 = .ok (.getfield 16, 3) := by decide +kernel
theorem dX10_isRefused_181 : decode prog_1_method_29_code 181 = .ok (.iload_n 2, 1) := by decide +kernel
theorem dX10_isRefused_182 : decode prog_1_method_29_code 182 = .ok (.aload_n 0, 1) := by decide +kernel
theorem dX10_isRefused_183 : decode prog_1_method_29_code 183 = .ok (.getfield 38, 3) := by decide +kernel
theorem dX10_isRefused_186 : decode prog_1_method_29_code 186 = .ok (.invokevirtual 180, 3) := by decide +kernel
theorem dX10_isRefused_189 : decode prog_1_method_29_code 189 = .ok (.ireturn, 1) := by decide +kernel
theorem nX10_carryOut : zDs yX10_carryOut 1 := ⟨by decide, by decide, by decide +kernel⟩
theorem dX10_carryOut_0 : decode prog_1_method_30_code 0 = .ok (.aload_n 0, 1) := by decide +kernel
theorem dX10_carryOut_1 : decode prog_1_method_30_code 1 = .ok (.getfield 45, 3) := by decide +kernel
theorem dX10_carryOut_4 : decode prog_1_method_30_code 4 = .ok (.iload_n 1, 1) := by decide +kernel
theorem dX10_carryOut_5 : decode prog_1_method_30_code 5 = .ok (.iconst 0, 1) := by decide +kernel
theorem dX10_carryOut_6 : decode prog_1_method_30_code 6 = .ok (.invokevirtual 368, 3) := by decide +kernel
theorem dX10_carryOut_9 : decode prog_1_method_30_code 9 = .ok (.istore_n 2, 1) := by decide +kernel
theorem dX10_carryOut_10 : decode prog_1_method_30_code 10 = .ok (.aload_n 0, 1) := by decide +kernel
theorem dX10_carryOut_11 : decode prog_1_method_30_code 11 = .ok (.getfield 45, 3) := by decide +kernel
theorem dX10_carryOut_14 : decode prog_1_method_30_code 14 = .ok (.iload_n 1, 1) := by decide +kernel
theorem dX10_carryOut_15 : decode prog_1_method_30_code 15 = .ok (.iconst 1, 1) := by decide +kernel
theorem dX10_carryOut_16 : decode prog_1_method_30_code 16 = .ok (.invokevirtual 368, 3) := by decide +kernel
theorem dX10_carryOut_19 : decode prog_1_method_30_code 19 = .ok (.istore_n 3, 1) := by decide +kernel
theorem dX10_carryOut_20 : decode prog_1_method_30_code 20 = .ok (.aload_n 0, 1) := by decide +kernel
theorem dX10_carryOut_21 : decode prog_1_method_30_code 21 = .ok (.getfield 45, 3) := by decide +kernel
theorem dX10_carryOut_24 : decode prog_1_method_30_code 24 = .ok (.iload_n 1, 1) := by decide +kernel
theorem dX10_carryOut_25 : decode prog_1_method_30_code 25 = .ok (.invokevirtual 371, 3) := by decide +kernel
theorem dX10_carryOut_28 : decode prog_1_method_30_code 28 = .ok (.tableswitch 156 107 120 #[110, 156, 72, 156, 156, 156, 156, 156, 125, 156, 156, 156, 140, 94], 72) := by decide +kernel
theorem dX10_carryOut_100 : decode prog_1_method_30_code 100 = .ok (.aload_n 0, 1) := by decide +kernel
theorem dX10_carryOut_101 : decode prog_1_method_30_code 101 = .ok (.getfield 16, 3) := by decide +kernel
theorem dX10_carryOut_104 : decode prog_1_method_30_code 104 = .ok (.iload_n 2, 1) := by decide +kernel
theorem dX10_carryOut_105 : decode prog_1_method_30_code 105 = .ok (.iload_n 3, 1) := by decide +kernel
theorem dX10_carryOut_106 : decode prog_1_method_30_code 106 = .ok (.aload_n 0, 1) := by decide +kernel
theorem dX10_carryOut_107 : decode prog_1_method_30_code 107 = .ok (.getfield 45, 3) := by decide +kernel
theorem dX10_carryOut_110 : decode prog_1_method_30_code 110 = .ok (.iload_n 1, 1) := by decide +kernel
theorem dX10_carryOut_111 : decode prog_1_method_30_code 111 = .ok (.iconst 2, 1) := by decide +kernel
theorem dX10_carryOut_112 : decode prog_1_method_30_code 112 = .ok (.invokevirtual 368, 3) := by decide +kernel
theorem dX10_carryOut_115 : decode prog_1_method_30_code 115 = .ok (.invokevirtual 137, 3) := by decide +kernel
theorem dX10_carryOut_118 : decode prog_1_method_30_code 118 = .ok (.pop, 1) := by decide +kernel
theorem dX10_carryOut_119 : decode prog_1_method_30_code 119 = .ok (.goto 74, 3) := by decide +kernel
theorem dX10_carryOut_122 : decode prog_1_method_30_code 122 = .ok (.aload_n 0, 1) := by decide +kernel
theorem dX10_carryOut_123 : decode prog_1_method_30_code 123 = .ok (.getfield 16, 3) := by decide +kernel
theorem dX10_carryOut_126 : decode prog_1_method_30_code 126 = .ok (.getfield 145, 3) := by decide +kernel
theorem dX10_carryOut_129 : decode prog_1_method_30_code 129 = .ok (.iload_n 2, 1) := by decide +kernel
theorem dX10_carryOut_130 : decode prog_1_method_30_code 130 = .ok (.iload_n 3, 1) := by decide +kernel
theorem dX10_carryOut_131 : decode prog_1_method_30_code 131 = .ok (.invokevirtual 149, 3) := by decide +kernel
theorem dX10_carryOut_134 : decode prog_1_method_30_code 134 = .ok (.pop, 1) := by decide +kernel
theorem dX10_carryOut_135 : decode prog_1_method_30_code 135 = .ok (.goto 58, 3) := by decide +kernel
theorem dX10_carryOut_138 : decode prog_1_method_30_code 138 = .ok (.aload_n 0, 1) := by decide +kernel
theorem dX10_carryOut_139 : decode prog_1_method_30_code 139 = .ok (.getfield 16, 3) := by decide +kernel
theorem dX10_carryOut_142 : decode prog_1_method_30_code 142 = .ok (.getfield 81, 3) := by decide +kernel
theorem dX10_carryOut_145 : decode prog_1_method_30_code 145 = .ok (.iload_n 2, 1) := by decide +kernel
theorem dX10_carryOut_146 : decode prog_1_method_30_code 146 = .ok (.invokevirtual 169, 3) := by decide +kernel
theorem dX10_carryOut_149 : decode prog_1_method_30_code 149 = .ok (.pop, 1) := by decide +kernel
theorem dX10_carryOut_150 : decode prog_1_method_30_code 150 = .ok (.goto 43, 3) := by decide +kernel
theorem dX10_carryOut_153 : decode prog_1_method_30_code 153 = .ok (.aload_n 0, 1) := by decide +kernel
theorem dX10_carryOut_154 : decode prog_1_method_30_code 154 = .ok (.getfield 16, 3) := by decide +kernel
theorem dX10_carryOut_157 : decode prog_1_method_30_code 157 = .ok (.getfield 123, 3) := by decide +kernel
theorem dX10_carryOut_160 : decode prog_1_method_30_code 160 = .ok (.iload_n 2, 1) := by decide +kernel
theorem dX10_carryOut_161 : decode prog_1_method_30_code 161 = .ok (.invokevirtual 160, 3) := by decide +kernel
theorem dX10_carryOut_164 : decode prog_1_method_30_code 164 = .ok (.pop, 1) := by decide +kernel
theorem dX10_carryOut_165 : decode prog_1_method_30_code 165 = .ok (.goto 28, 3) := by decide +kernel
theorem dX10_carryOut_168 : decode prog_1_method_30_code 168 = .ok (.aload_n 0, 1) := by decide +kernel
theorem dX10_carryOut_169 : decode prog_1_method_30_code 169 = .ok (.getfield 16, 3) := by decide +kernel
theorem dX10_carryOut_172 : decode prog_1_method_30_code 172 = .ok (.getfield 96, 3) := by decide +kernel
theorem dX10_carryOut_175 : decode prog_1_method_30_code 175 = .ok (.iload_n 2, 1) := by decide +kernel
theorem dX10_carryOut_176 : decode prog_1_method_30_code 176 = .ok (.iload_n 3, 1) := by decide +kernel
theorem dX10_carryOut_177 : decode prog_1_method_30_code 177 = .ok (.invokevirtual 177, 3) := by decide +kernel
theorem dX10_carryOut_180 : decode prog_1_method_30_code 180 = .ok (.pop, 1) := by decide +kernel
theorem dX10_carryOut_181 : decode prog_1_method_30_code 181 = .ok (.goto 12, 3) := by decide +kernel
theorem dX10_carryOut_184 : decode prog_1_method_30_code 184 = .ok (.aload_n 0, 1) := by decide +kernel
theorem dX10_carryOut_185 : decode prog_1_method_30_code 185 = .ok (.getfield 16, 3) := by decide +kernel
theorem dX10_carryOut_188 : decode prog_1_method_30_code 188 = .ok (.iload_n 2, 1) := by decide +kernel
theorem dX10_carryOut_189 : decode prog_1_method_30_code 189 = .ok (.invokevirtual 185, 3) := by decide +kernel
theorem dX10_carryOut_192 : decode prog_1_method_30_code 192 = .ok (.pop, 1) := by decide +kernel
theorem dX10_carryOut_193 : decode prog_1_method_30_code 193 = .ok (.return_, 1) := by decide +kernel
theorem nX10_faultPosition : zDs yX10_faultPosition 0 := ⟨by decide, by decide, by decide +kernel⟩
theorem dX10_faultPosition_0 : decode prog_1_method_31_code 0 = .ok (.aload_n 0, 1) := by decide +kernel
theorem dX10_faultPosition_1 : decode prog_1_method_31_code 1 = .ok (.getfield 49, 3) := by decide +kernel
theorem dX10_faultPosition_4 : decode prog_1_method_31_code 4 = .ok (.ireturn, 1) := by decide +kernel
theorem nX10_reason : zDs yX10_reason 1 := ⟨by decide, by decide, by decide +kernel⟩
theorem dX10_reason_0 : decode prog_1_method_32_code 0 = .ok (.iload_n 1, 1) := by decide +kernel
theorem dX10_reason_1 : decode prog_1_method_32_code 1 = .ok (.ifCond .lt 8, 3) := by decide +kernel
theorem dX10_reason_4 : decode prog_1_method_32_code 4 = .ok (.iload_n 1, 1) := by decide +kernel
theorem dX10_reason_5 : decode prog_1_method_32_code 5 = .ok (.iconst 2, 1) := by decide +kernel
theorem dX10_reason_6 : decode prog_1_method_32_code 6 = .ok (.if_icmp .le 14, 3) := by decide +kernel
theorem dX10_reason_9 : decode prog_1_method_32_code 9 = .ok (.new 221, 3) := by decide +kernel
theorem dX10_reason_12 : decode prog_1_method_32_code 12 = .ok (.dup, 1) := by decide +kernel
theorem dX10_reason_13 : decode prog_1_method_32_code 13 = .ok (.ldc_w 374, 3) := by decide +kernel
theorem dX10_reason_16 : decode prog_1_method_32_code 16 = .ok (.invokespecial 225, 3) := by decide +kernel
theorem dX10_reason_19 : decode prog_1_method_32_code 19 = .ok (.athrow, 1) := by decide +kernel
theorem dX10_reason_20 : decode prog_1_method_32_code 20 = .ok (.aload_n 0, 1) := by decide +kernel
theorem dX10_reason_21 : decode prog_1_method_32_code 21 = .ok (.getfield 38, 3) := by decide +kernel
theorem dX10_reason_24 : decode prog_1_method_32_code 24 = .ok (.getfield 376, 3) := by decide +kernel
theorem dX10_reason_27 : decode prog_1_method_32_code 27 = .ok (.ifCond .ne 14, 3) := by decide +kernel
theorem dX10_reason_30 : decode prog_1_method_32_code 30 = .ok (.new 250, 3) := by decide +kernel
theorem dX10_reason_33 : decode prog_1_method_32_code 33 = .ok (.dup, 1) := by decide +kernel
theorem dX10_reason_34 : decode prog_1_method_32_code 34 = .ok (.ldc_w 379, 3) := by decide +kernel
theorem dX10_reason_37 : decode prog_1_method_32_code 37 = .ok (.invokespecial 254, 3) := by decide +kernel
theorem dX10_reason_40 : decode prog_1_method_32_code 40 = .ok (.athrow, 1) := by decide +kernel
theorem dX10_reason_41 : decode prog_1_method_32_code 41 = .ok (.iload_n 1, 1) := by decide +kernel
theorem dX10_reason_42 : decode prog_1_method_32_code 42 = .ok (.lookupswitch 42 #[(0, 26), (1, 34)], 26) := by decide +kernel
theorem dX10_reason_68 : decode prog_1_method_32_code 68 = .ok (.aload_n 0, 1) := by decide +kernel
theorem dX10_reason_69 : decode prog_1_method_32_code 69 = .ok (.getfield 38, 3) := by decide +kernel
theorem dX10_reason_72 : decode prog_1_method_32_code 72 = .ok (.getfield 376, 3) := by decide +kernel
theorem dX10_reason_75 : decode prog_1_method_32_code 75 = .ok (.ireturn, 1) := by decide +kernel
theorem dX10_reason_76 : decode prog_1_method_32_code 76 = .ok (.aload_n 0, 1) := by decide +kernel
theorem dX10_reason_77 : decode prog_1_method_32_code 77 = .ok (.getfield 38, 3) := by decide +kernel
theorem dX10_reason_80 : decode prog_1_method_32_code 80 = .ok (.getfield 381, 3) := by decide +kernel
theorem dX10_reason_83 : decode prog_1_method_32_code 83 = .ok (.ireturn, 1) := by decide +kernel
theorem dX10_reason_84 : decode prog_1_method_32_code 84 = .ok (.aload_n 0, 1) := by decide +kernel
theorem dX10_reason_85 : decode prog_1_method_32_code 85 = .ok (.getfield 38, 3) := by decide +kernel
theorem dX10_reason_88 : decode prog_1_method_32_code 88 = .ok (.getfield 360, 3) := by decide +kernel
theorem dX10_reason_91 : decode prog_1_method_32_code 91 = .ok (.ireturn, 1) := by decide +kernel
theorem nX10_line : zDs yX10_line 1 := ⟨by decide, by decide, by decide +kernel⟩
theorem dX10_line_0 : decode prog_1_method_33_code 0 = .ok (.aload_n 0, 1) := by decide +kernel
theorem dX10_line_1 : decode prog_1_method_33_code 1 = .ok (.getfield 10, 3) := by decide +kernel
theorem dX10_line_4 : decode prog_1_method_33_code 4 = .ok (.getfield 81, 3) := by decide +kernel
theorem dX10_line_7 : decode prog_1_method_33_code 7 = .ok (.iload_n 1, 1) := by decide +kernel
theorem dX10_line_8 : decode prog_1_method_33_code 8 = .ok (.invokevirtual 188, 3) := by decide +kernel
theorem dX10_line_11 : decode prog_1_method_33_code 11 = .ok (.ifCond .ne 13, 3) := by decide +kernel
theorem dX10_line_14 : decode prog_1_method_33_code 14 = .ok (.new 192, 3) := by decide +kernel
theorem dX10_line_17 : decode prog_1_method_33_code 17 = .ok (.dup, 1) := by decide +kernel
theorem dX10_line_18 : decode prog_1_method_33_code 18 = .ok (.ldc 194, 2) := by decide +kernel
theorem dX10_line_20 : decode prog_1_method_33_code 20 = .ok (.invokespecial 196, 3) := by decide +kernel
theorem dX10_line_23 : decode prog_1_method_33_code 23 = .ok (.athrow, 1) := by decide +kernel
theorem dX10_line_24 : decode prog_1_method_33_code 24 = .ok (.aload_n 0, 1) := by decide +kernel
theorem dX10_line_25 : decode prog_1_method_33_code 25 = .ok (.getfield 56, 3) := by decide +kernel
theorem dX10_line_28 : decode prog_1_method_33_code 28 = .ok (.iconst 0, 1) := by decide +kernel
theorem dX10_line_29 : decode prog_1_method_33_code 29 = .ok (.invokevirtual 384, 3) := by decide +kernel
theorem dX10_line_32 : decode prog_1_method_33_code 32 = .ok (.aload_n 0, 1) := by decide +kernel
theorem dX10_line_33 : decode prog_1_method_33_code 33 = .ok (.getfield 56, 3) := by decide +kernel
theorem dX10_line_36 : decode prog_1_method_33_code 36 = .ok (.iload_n 1, 1) := by decide +kernel
theorem dX10_line_37 : decode prog_1_method_33_code 37 = .ok (.invokevirtual 387, 3) := by decide +kernel
theorem dX10_line_40 : decode prog_1_method_33_code 40 = .ok (.bipush 58, 2) := by decide +kernel
theorem dX10_line_42 : decode prog_1_method_33_code 42 = .ok (.invokevirtual 391, 3) := by decide +kernel
theorem dX10_line_45 : decode prog_1_method_33_code 45 = .ok (.pop, 1) := by decide +kernel
theorem dX10_line_46 : decode prog_1_method_33_code 46 = .ok (.aload_n 0, 1) := by decide +kernel
theorem dX10_line_47 : decode prog_1_method_33_code 47 = .ok (.getfield 10, 3) := by decide +kernel
theorem dX10_line_50 : decode prog_1_method_33_code 50 = .ok (.getfield 145, 3) := by decide +kernel
theorem dX10_line_53 : decode prog_1_method_33_code 53 = .ok (.iload_n 1, 1) := by decide +kernel
theorem dX10_line_54 : decode prog_1_method_33_code 54 = .ok (.invokevirtual 215, 3) := by decide +kernel
theorem dX10_line_57 : decode prog_1_method_33_code 57 = .ok (.istore_n 2, 1) := by decide +kernel
theorem dX10_line_58 : decode prog_1_method_33_code 58 = .ok (.iconst 0, 1) := by decide +kernel
theorem dX10_line_59 : decode prog_1_method_33_code 59 = .ok (.istore_n 3, 1) := by decide +kernel
theorem dX10_line_60 : decode prog_1_method_33_code 60 = .ok (.iload_n 3, 1) := by decide +kernel
theorem dX10_line_61 : decode prog_1_method_33_code 61 = .ok (.iload_n 2, 1) := by decide +kernel
theorem dX10_line_62 : decode prog_1_method_33_code 62 = .ok (.if_icmp .ge 77, 3) := by decide +kernel
theorem dX10_line_65 : decode prog_1_method_33_code 65 = .ok (.aload_n 0, 1) := by decide +kernel
theorem dX10_line_66 : decode prog_1_method_33_code 66 = .ok (.getfield 10, 3) := by decide +kernel
theorem dX10_line_69 : decode prog_1_method_33_code 69 = .ok (.getfield 145, 3) := by decide +kernel
theorem dX10_line_72 : decode prog_1_method_33_code 72 = .ok (.iload_n 1, 1) := by decide +kernel
theorem dX10_line_73 : decode prog_1_method_33_code 73 = .ok (.iload_n 3, 1) := by decide +kernel
theorem dX10_line_74 : decode prog_1_method_33_code 74 = .ok (.invokevirtual 290, 3) := by decide +kernel
theorem dX10_line_77 : decode prog_1_method_33_code 77 = .ok (.istore 4, 2) := by decide +kernel
theorem dX10_line_79 : decode prog_1_method_33_code 79 = .ok (.aload_n 0, 1) := by decide +kernel
theorem dX10_line_80 : decode prog_1_method_33_code 80 = .ok (.getfield 56, 3) := by decide +kernel
theorem dX10_line_83 : decode prog_1_method_33_code 83 = .ok (.bipush 32, 2) := by decide +kernel
theorem dX10_line_85 : decode prog_1_method_33_code 85 = .ok (.invokevirtual 391, 3) := by decide +kernel
theorem dX10_line_88 : decode prog_1_method_33_code 88 = .ok (.aload_n 0, 1) := by decide +kernel
theorem dX10_line_89 : decode prog_1_method_33_code 89 = .ok (.getfield 10, 3) := by decide +kernel
theorem dX10_line_92 : decode prog_1_method_33_code 92 = .ok (.getfield 145, 3) := by decide +kernel
theorem dX10_line_95 : decode prog_1_method_33_code 95 = .ok (.iload_n 1, 1) := by decide +kernel
theorem dX10_line_96 : decode prog_1_method_33_code 96 = .ok (.iload 4, 2) := by decide +kernel
theorem dX10_line_98 : decode prog_1_method_33_code 98 = .ok (.invokevirtual 275, 3) := by decide +kernel
theorem dX10_line_101 : decode prog_1_method_33_code 101 = .ok (.invokevirtual 387, 3) := by decide +kernel
theorem dX10_line_104 : decode prog_1_method_33_code 104 = .ok (.pop, 1) := by decide +kernel
theorem dX10_line_105 : decode prog_1_method_33_code 105 = .ok (.aload_n 0, 1) := by decide +kernel
theorem dX10_line_106 : decode prog_1_method_33_code 106 = .ok (.getfield 56, 3) := by decide +kernel
theorem dX10_line_109 : decode prog_1_method_33_code 109 = .ok (.bipush 61, 2) := by decide +kernel
theorem dX10_line_111 : decode prog_1_method_33_code 111 = .ok (.invokevirtual 391, 3) := by decide +kernel
theorem dX10_line_114 : decode prog_1_method_33_code 114 = .ok (.aload_n 0, 1) := by decide +kernel
theorem dX10_line_115 : decode prog_1_method_33_code 115 = .ok (.getfield 10, 3) := by decide +kernel
theorem dX10_line_118 : decode prog_1_method_33_code 118 = .ok (.getfield 96, 3) := by decide +kernel
theorem dX10_line_121 : decode prog_1_method_33_code 121 = .ok (.getfield 229, 3) := by decide +kernel
theorem dX10_line_124 : decode prog_1_method_33_code 124 = .ok (.iload 4, 2) := by decide +kernel
theorem dX10_line_126 : decode prog_1_method_33_code 126 = .ok (.invokestatic 200, 3) := by decide +kernel
theorem dX10_line_129 : decode prog_1_method_33_code 129 = .ok (.invokevirtual 387, 3) := by decide +kernel
theorem dX10_line_132 : decode prog_1_method_33_code 132 = .ok (.pop, 1) := by decide +kernel
theorem dX10_line_133 : decode prog_1_method_33_code 133 = .ok (.iinc 3 1, 3) := by decide +kernel
theorem dX10_line_136 : decode prog_1_method_33_code 136 = .ok (.goto (-76), 3) := by decide +kernel
theorem dX10_line_139 : decode prog_1_method_33_code 139 = .ok (.aload_n 0, 1) := by decide +kernel
theorem dX10_line_140 : decode prog_1_method_33_code 140 = .ok (.getfield 56, 3) := by decide +kernel
theorem dX10_line_143 : decode prog_1_method_33_code 143 = .ok (.invokevirtual 394, 3) := by decide +kernel
theorem dX10_line_146 : decode prog_1_method_33_code 146 = .ok (.ireturn, 1) := by decide +kernel
theorem nX10_character : zDs yX10_character 1 := ⟨by decide, by decide, by decide +kernel⟩
theorem dX10_character_0 : decode prog_1_method_34_code 0 = .ok (.iload_n 1, 1) := by decide +kernel
theorem dX10_character_1 : decode prog_1_method_34_code 1 = .ok (.ifCond .lt 14, 3) := by decide +kernel
theorem dX10_character_4 : decode prog_1_method_34_code 4 = .ok (.iload_n 1, 1) := by decide +kernel
theorem dX10_character_5 : decode prog_1_method_34_code 5 = .ok (.aload_n 0, 1) := by decide +kernel
theorem dX10_character_6 : decode prog_1_method_34_code 6 = .ok (.getfield 56, 3) := by decide +kernel
theorem dX10_character_9 : decode prog_1_method_34_code 9 = .ok (.invokevirtual 394, 3) := by decide +kernel
theorem dX10_character_12 : decode prog_1_method_34_code 12 = .ok (.if_icmp .lt 14, 3) := by decide +kernel
theorem dX10_character_15 : decode prog_1_method_34_code 15 = .ok (.new 192, 3) := by decide +kernel
theorem dX10_character_18 : decode prog_1_method_34_code 18 = .ok (.dup, 1) := by decide +kernel
theorem dX10_character_19 : decode prog_1_method_34_code 19 = .ok (.ldc_w 397, 3) := by decide +kernel
theorem dX10_character_22 : decode prog_1_method_34_code 22 = .ok (.invokespecial 196, 3) := by decide +kernel
theorem dX10_character_25 : decode prog_1_method_34_code 25 = .ok (.athrow, 1) := by decide +kernel
theorem dX10_character_26 : decode prog_1_method_34_code 26 = .ok (.aload_n 0, 1) := by decide +kernel
theorem dX10_character_27 : decode prog_1_method_34_code 27 = .ok (.getfield 56, 3) := by decide +kernel
theorem dX10_character_30 : decode prog_1_method_34_code 30 = .ok (.iload_n 1, 1) := by decide +kernel
theorem dX10_character_31 : decode prog_1_method_34_code 31 = .ok (.invokevirtual 399, 3) := by decide +kernel
theorem dX10_character_34 : decode prog_1_method_34_code 34 = .ok (.ireturn, 1) := by decide +kernel
theorem nX10_estimate : zDs yX10_estimate 1 := ⟨by decide, by decide, by decide +kernel⟩
theorem dX10_estimate_0 : decode prog_1_method_35_code 0 = .ok (.aload_n 0, 1) := by decide +kernel
theorem dX10_estimate_1 : decode prog_1_method_35_code 1 = .ok (.getfield 10, 3) := by decide +kernel
theorem dX10_estimate_4 : decode prog_1_method_35_code 4 = .ok (.getfield 96, 3) := by decide +kernel
theorem dX10_estimate_7 : decode prog_1_method_35_code 7 = .ok (.iload_n 1, 1) := by decide +kernel
theorem dX10_estimate_8 : decode prog_1_method_35_code 8 = .ok (.invokevirtual 226, 3) := by decide +kernel
theorem dX10_estimate_11 : decode prog_1_method_35_code 11 = .ok (.ifCond .ne 13, 3) := by decide +kernel
theorem dX10_estimate_14 : decode prog_1_method_35_code 14 = .ok (.new 192, 3) := by decide +kernel
theorem dX10_estimate_17 : decode prog_1_method_35_code 17 = .ok (.dup, 1) := by decide +kernel
theorem dX10_estimate_18 : decode prog_1_method_35_code 18 = .ok (.ldc 227, 2) := by decide +kernel
theorem dX10_estimate_20 : decode prog_1_method_35_code 20 = .ok (.invokespecial 196, 3) := by decide +kernel
theorem dX10_estimate_23 : decode prog_1_method_35_code 23 = .ok (.athrow, 1) := by decide +kernel
theorem dX10_estimate_24 : decode prog_1_method_35_code 24 = .ok (.aload_n 0, 1) := by decide +kernel
theorem dX10_estimate_25 : decode prog_1_method_35_code 25 = .ok (.getfield 10, 3) := by decide +kernel
theorem dX10_estimate_28 : decode prog_1_method_35_code 28 = .ok (.getfield 145, 3) := by decide +kernel
theorem dX10_estimate_31 : decode prog_1_method_35_code 31 = .ok (.iload_n 1, 1) := by decide +kernel
theorem dX10_estimate_32 : decode prog_1_method_35_code 32 = .ok (.invokevirtual 238, 3) := by decide +kernel
theorem dX10_estimate_35 : decode prog_1_method_35_code 35 = .ok (.istore_n 2, 1) := by decide +kernel
theorem dX10_estimate_36 : decode prog_1_method_35_code 36 = .ok (.iload_n 2, 1) := by decide +kernel
theorem dX10_estimate_37 : decode prog_1_method_35_code 37 = .ok (.ifCond .ne 14, 3) := by decide +kernel
theorem dX10_estimate_40 : decode prog_1_method_35_code 40 = .ok (.new 403, 3) := by decide +kernel
theorem dX10_estimate_43 : decode prog_1_method_35_code 43 = .ok (.dup, 1) := by decide +kernel
theorem dX10_estimate_44 : decode prog_1_method_35_code 44 = .ok (.ldc_w 405, 3) := by decide +kernel
theorem dX10_estimate_47 : decode prog_1_method_35_code 47 = .ok (.invokespecial 407, 3) := by decide +kernel
theorem dX10_estimate_50 : decode prog_1_method_35_code 50 = .ok (.athrow, 1) := by decide +kernel
theorem dX10_estimate_51 : decode prog_1_method_35_code 51 = .ok (.aload_n 0, 1) := by decide +kernel
theorem dX10_estimate_52 : decode prog_1_method_35_code 52 = .ok (.getfield 10, 3) := by decide +kernel
theorem dX10_estimate_55 : decode prog_1_method_35_code 55 = .ok (.iload_n 1, 1) := by decide +kernel
theorem dX10_estimate_56 : decode prog_1_method_35_code 56 = .ok (.invokevirtual 408, 3) := by decide +kernel
theorem dX10_estimate_59 : decode prog_1_method_35_code 59 = .ok (.i2d, 1) := by decide +kernel
theorem dX10_estimate_60 : decode prog_1_method_35_code 60 = .ok (.iload_n 2, 1) := by decide +kernel
theorem dX10_estimate_61 : decode prog_1_method_35_code 61 = .ok (.i2d, 1) := by decide +kernel
theorem dX10_estimate_62 : decode prog_1_method_35_code 62 = .ok (.ddiv, 1) := by decide +kernel
theorem dX10_estimate_63 : decode prog_1_method_35_code 63 = .ok (.dreturn, 1) := by decide +kernel
theorem nX10_meanEdge : zDs yX10_meanEdge 0 := ⟨by decide, by decide, by decide +kernel⟩
theorem dX10_meanEdge_0 : decode prog_1_method_36_code 0 = .ok (.aload_n 0, 1) := by decide +kernel
theorem dX10_meanEdge_1 : decode prog_1_method_36_code 1 = .ok (.getfield 10, 3) := by decide +kernel
theorem dX10_meanEdge_4 : decode prog_1_method_36_code 4 = .ok (.getfield 123, 3) := by decide +kernel
theorem dX10_meanEdge_7 : decode prog_1_method_36_code 7 = .ok (.getfield 411, 3) := by decide +kernel
theorem dX10_meanEdge_10 : decode prog_1_method_36_code 10 = .ok (.istore_n 1, 1) := by decide +kernel
theorem dX10_meanEdge_11 : decode prog_1_method_36_code 11 = .ok (.iload_n 1, 1) := by decide +kernel
theorem dX10_meanEdge_12 : decode prog_1_method_36_code 12 = .ok (.ifCond .ne 14, 3) := by decide +kernel
theorem dX10_meanEdge_15 : decode prog_1_method_36_code 15 = .ok (.new 403, 3) := by decide +kernel
theorem dX10_meanEdge_18 : decode prog_1_method_36_code 18 = .ok (.dup, 1) := by decide +kernel
theorem dX10_meanEdge_19 : decode prog_1_method_36_code 19 = .ok (.ldc_w 412, 3) := by decide +kernel
theorem dX10_meanEdge_22 : decode prog_1_method_36_code 22 = .ok (.invokespecial 407, 3) := by decide +kernel
theorem dX10_meanEdge_25 : decode prog_1_method_36_code 25 = .ok (.athrow, 1) := by decide +kernel
theorem dX10_meanEdge_26 : decode prog_1_method_36_code 26 = .ok (.aload_n 0, 1) := by decide +kernel
theorem dX10_meanEdge_27 : decode prog_1_method_36_code 27 = .ok (.getfield 10, 3) := by decide +kernel
theorem dX10_meanEdge_30 : decode prog_1_method_36_code 30 = .ok (.getfield 123, 3) := by decide +kernel
theorem dX10_meanEdge_33 : decode prog_1_method_36_code 33 = .ok (.invokevirtual 414, 3) := by decide +kernel
theorem dX10_meanEdge_36 : decode prog_1_method_36_code 36 = .ok (.i2f, 1) := by decide +kernel
theorem dX10_meanEdge_37 : decode prog_1_method_36_code 37 = .ok (.iload_n 1, 1) := by decide +kernel
theorem dX10_meanEdge_38 : decode prog_1_method_36_code 38 = .ok (.i2f, 1) := by decide +kernel
theorem dX10_meanEdge_39 : decode prog_1_method_36_code 39 = .ok (.fdiv, 1) := by decide +kernel
theorem dX10_meanEdge_40 : decode prog_1_method_36_code 40 = .ok (.freturn, 1) := by decide +kernel
theorem nX10_account : zDs yX10_account 1 := ⟨by decide, by decide, by decide +kernel⟩
theorem dX10_account_0 : decode prog_1_method_37_code 0 = .ok (.iload_n 1, 1) := by decide +kernel
theorem dX10_account_1 : decode prog_1_method_37_code 1 = .ok (.tableswitch 183 0 11 #[63, 71, 82, 93, 104, 115, 126, 137, 148, 159, 167, 175], 63) := by decide +kernel
theorem dX10_account_64 : decode prog_1_method_37_code 64 = .ok (.aload_n 0, 1) := by decide +kernel
theorem dX10_account_65 : decode prog_1_method_37_code 65 = .ok (.getfield 10, 3) := by decide +kernel
theorem dX10_account_68 : decode prog_1_method_37_code 68 = .ok (.getfield 417, 3) := by decide +kernel
theorem dX10_account_71 : decode prog_1_method_37_code 71 = .ok (.ireturn, 1) := by decide +kernel
theorem dX10_account_72 : decode prog_1_method_37_code 72 = .ok (.aload_n 0, 1) := by decide +kernel
theorem dX10_account_73 : decode prog_1_method_37_code 73 = .ok (.getfield 10, 3) := by decide +kernel
theorem dX10_account_76 : decode prog_1_method_37_code 76 = .ok (.getfield 81, 3) := by decide +kernel
theorem dX10_account_79 : decode prog_1_method_37_code 79 = .ok (.getfield 419, 3) := by decide +kernel
theorem dX10_account_82 : decode prog_1_method_37_code 82 = .ok (.ireturn, 1) := by decide +kernel
theorem dX10_account_83 : decode prog_1_method_37_code 83 = .ok (.aload_n 0, 1) := by decide +kernel
theorem dX10_account_84 : decode prog_1_method_37_code 84 = .ok (.getfield 10, 3) := by decide +kernel
theorem dX10_account_87 : decode prog_1_method_37_code 87 = .ok (.getfield 96, 3) := by decide +kernel
theorem dX10_account_90 : decode prog_1_method_37_code 90 = .ok (.getfield 311, 3) := by decide +kernel
theorem dX10_account_93 : decode prog_1_method_37_code 93 = .ok (.ireturn, 1) := by decide +kernel
theorem dX10_account_94 : decode prog_1_method_37_code 94 = .ok (.aload_n 0, 1) := by decide +kernel
theorem dX10_account_95 : decode prog_1_method_37_code 95 = .ok (.getfield 10, 3) := by decide +kernel
theorem dX10_account_98 : decode prog_1_method_37_code 98 = .ok (.getfield 107, 3) := by decide +kernel
theorem dX10_account_101 : decode prog_1_method_37_code 101 = .ok (.getfield 420, 3) := by decide +kernel
theorem dX10_account_104 : decode prog_1_method_37_code 104 = .ok (.ireturn, 1) := by decide +kernel
theorem dX10_account_105 : decode prog_1_method_37_code 105 = .ok (.aload_n 0, 1) := by decide +kernel
theorem dX10_account_106 : decode prog_1_method_37_code 106 = .ok (.getfield 10, 3) := by decide +kernel
theorem dX10_account_109 : decode prog_1_method_37_code 109 = .ok (.getfield 123, 3) := by decide +kernel
theorem dX10_account_112 : decode prog_1_method_37_code 112 = .ok (.getfield 411, 3) := by decide +kernel
theorem dX10_account_115 : decode prog_1_method_37_code 115 = .ok (.ireturn, 1) := by decide +kernel
theorem dX10_account_116 : decode prog_1_method_37_code 116 = .ok (.aload_n 0, 1) := by decide +kernel
theorem dX10_account_117 : decode prog_1_method_37_code 117 = .ok (.getfield 10, 3) := by decide +kernel
theorem dX10_account_120 : decode prog_1_method_37_code 120 = .ok (.getfield 145, 3) := by decide +kernel
theorem dX10_account_123 : decode prog_1_method_37_code 123 = .ok (.invokevirtual 421, 3) := by decide +kernel
theorem dX10_account_126 : decode prog_1_method_37_code 126 = .ok (.ireturn, 1) := by decide +kernel
theorem dX10_account_127 : decode prog_1_method_37_code 127 = .ok (.aload_n 0, 1) := by decide +kernel
theorem dX10_account_128 : decode prog_1_method_37_code 128 = .ok (.getfield 10, 3) := by decide +kernel
theorem dX10_account_131 : decode prog_1_method_37_code 131 = .ok (.getfield 145, 3) := by decide +kernel
theorem dX10_account_134 : decode prog_1_method_37_code 134 = .ok (.getfield 424, 3) := by decide +kernel
theorem dX10_account_137 : decode prog_1_method_37_code 137 = .ok (.ireturn, 1) := by decide +kernel
theorem dX10_account_138 : decode prog_1_method_37_code 138 = .ok (.aload_n 0, 1) := by decide +kernel
theorem dX10_account_139 : decode prog_1_method_37_code 139 = .ok (.getfield 10, 3) := by decide +kernel
theorem dX10_account_142 : decode prog_1_method_37_code 142 = .ok (.getfield 145, 3) := by decide +kernel
theorem dX10_account_145 : decode prog_1_method_37_code 145 = .ok (.getfield 427, 3) := by decide +kernel
theorem dX10_account_148 : decode prog_1_method_37_code 148 = .ok (.ireturn, 1) := by decide +kernel
theorem dX10_account_149 : decode prog_1_method_37_code 149 = .ok (.aload_n 0, 1) := by decide +kernel
theorem dX10_account_150 : decode prog_1_method_37_code 150 = .ok (.getfield 10, 3) := by decide +kernel
theorem dX10_account_153 : decode prog_1_method_37_code 153 = .ok (.getfield 145, 3) := by decide +kernel
theorem dX10_account_156 : decode prog_1_method_37_code 156 = .ok (.getfield 430, 3) := by decide +kernel
theorem dX10_account_159 : decode prog_1_method_37_code 159 = .ok (.ireturn, 1) := by decide +kernel
theorem dX10_account_160 : decode prog_1_method_37_code 160 = .ok (.aload_n 0, 1) := by decide +kernel
theorem dX10_account_161 : decode prog_1_method_37_code 161 = .ok (.getfield 10, 3) := by decide +kernel
theorem dX10_account_164 : decode prog_1_method_37_code 164 = .ok (.invokevirtual 433, 3) := by decide +kernel
theorem dX10_account_167 : decode prog_1_method_37_code 167 = .ok (.ireturn, 1) := by decide +kernel
theorem dX10_account_168 : decode prog_1_method_37_code 168 = .ok (.aload_n 0, 1) := by decide +kernel
theorem dX10_account_169 : decode prog_1_method_37_code 169 = .ok (.getfield 31, 3) := by decide +kernel
theorem dX10_account_172 : decode prog_1_method_37_code 172 = .ok (.getfield 436, 3) := by decide +kernel
theorem dX10_account_175 : decode prog_1_method_37_code 175 = .ok (.ireturn, 1) := by decide +kernel
theorem dX10_account_176 : decode prog_1_method_37_code 176 = .ok (.aload_n 0, 1) := by decide +kernel
theorem dX10_account_177 : decode prog_1_method_37_code 177 = .ok (.getfield 45, 3) := by decide +kernel
theorem dX10_account_180 : decode prog_1_method_37_code 180 = .ok (.getfield 437, 3) := by decide +kernel
theorem dX10_account_183 : decode prog_1_method_37_code 183 = .ok (.ireturn, 1) := by decide +kernel
theorem dX10_account_184 : decode prog_1_method_37_code 184 = .ok (.new 221, 3) := by decide +kernel
theorem dX10_account_187 : decode prog_1_method_37_code 187 = .ok (.dup, 1) := by decide +kernel
theorem dX10_account_188 : decode prog_1_method_37_code 188 = .ok (.ldc_w 439, 3) := by decide +kernel
theorem dX10_account_191 : decode prog_1_method_37_code 191 = .ok (.invokespecial 225, 3) := by decide +kernel
theorem dX10_account_194 : decode prog_1_method_37_code 194 = .ok (.athrow, 1) := by decide +kernel
theorem nX10_undo : zDs yX10_undo 0 := ⟨by decide, by decide, by decide +kernel⟩
theorem dX10_undo_0 : decode prog_1_method_38_code 0 = .ok (.aload_n 0, 1) := by decide +kernel
theorem dX10_undo_1 : decode prog_1_method_38_code 1 = .ok (.getfield 31, 3) := by decide +kernel
theorem dX10_undo_4 : decode prog_1_method_38_code 4 = .ok (.getfield 436, 3) := by decide +kernel
theorem dX10_undo_7 : decode prog_1_method_38_code 7 = .ok (.ifCond .ne 14, 3) := by decide +kernel
theorem dX10_undo_10 : decode prog_1_method_38_code 10 = .ok (.new 334, 3) := by decide +kernel
theorem dX10_undo_13 : decode prog_1_method_38_code 13 = .ok (.dup, 1) := by decide +kernel
theorem dX10_undo_14 : decode prog_1_method_38_code 14 = .ok (.ldc_w 441, 3) := by decide +kernel
theorem dX10_undo_17 : decode prog_1_method_38_code 17 = .ok (.invokespecial 338, 3) := by decide +kernel
theorem dX10_undo_20 : decode prog_1_method_38_code 20 = .ok (.athrow, 1) := by decide +kernel
theorem dX10_undo_21 : decode prog_1_method_38_code 21 = .ok (.aload_n 0, 1) := by decide +kernel
theorem dX10_undo_22 : decode prog_1_method_38_code 22 = .ok (.getfield 31, 3) := by decide +kernel
theorem dX10_undo_25 : decode prog_1_method_38_code 25 = .ok (.aload_n 0, 1) := by decide +kernel
theorem dX10_undo_26 : decode prog_1_method_38_code 26 = .ok (.getfield 10, 3) := by decide +kernel
theorem dX10_undo_29 : decode prog_1_method_38_code 29 = .ok (.invokevirtual 443, 3) := by decide +kernel
theorem dX10_undo_32 : decode prog_1_method_38_code 32 = .ok (.aload_n 0, 1) := by decide +kernel
theorem dX10_undo_33 : decode prog_1_method_38_code 33 = .ok (.getfield 31, 3) := by decide +kernel
theorem dX10_undo_36 : decode prog_1_method_38_code 36 = .ok (.getfield 436, 3) := by decide +kernel
theorem dX10_undo_39 : decode prog_1_method_38_code 39 = .ok (.ireturn, 1) := by decide +kernel
theorem nX10_save : zDs yX10_save 0 := ⟨by decide, by decide, by decide +kernel⟩
theorem dX10_save_0 : decode prog_1_method_39_code 0 = .ok (.aload_n 0, 1) := by decide +kernel
theorem dX10_save_1 : decode prog_1_method_39_code 1 = .ok (.getfield 19, 3) := by decide +kernel
theorem dX10_save_4 : decode prog_1_method_39_code 4 = .ok (.aload_n 0, 1) := by decide +kernel
theorem dX10_save_5 : decode prog_1_method_39_code 5 = .ok (.getfield 10, 3) := by decide +kernel
theorem dX10_save_8 : decode prog_1_method_39_code 8 = .ok (.invokevirtual 351, 3) := by decide +kernel
theorem dX10_save_11 : decode prog_1_method_39_code 11 = .ok (.aload_n 0, 1) := by decide +kernel
theorem dX10_save_12 : decode prog_1_method_39_code 12 = .ok (.iconst 1, 1) := by decide +kernel
theorem dX10_save_13 : decode prog_1_method_39_code 13 = .ok (.putfield 22, 3) := by decide +kernel
theorem dX10_save_16 : decode prog_1_method_39_code 16 = .ok (.aload_n 0, 1) := by decide +kernel
theorem dX10_save_17 : decode prog_1_method_39_code 17 = .ok (.getfield 10, 3) := by decide +kernel
theorem dX10_save_20 : decode prog_1_method_39_code 20 = .ok (.getfield 417, 3) := by decide +kernel
theorem dX10_save_23 : decode prog_1_method_39_code 23 = .ok (.ireturn, 1) := by decide +kernel
theorem nX10_restore : zDs yX10_restore 0 := ⟨by decide, by decide, by decide +kernel⟩
theorem dX10_restore_0 : decode prog_1_method_40_code 0 = .ok (.aload_n 0, 1) := by decide +kernel
theorem dX10_restore_1 : decode prog_1_method_40_code 1 = .ok (.getfield 22, 3) := by decide +kernel
theorem dX10_restore_4 : decode prog_1_method_40_code 4 = .ok (.ifCond .ne 14, 3) := by decide +kernel
theorem dX10_restore_7 : decode prog_1_method_40_code 7 = .ok (.new 334, 3) := by decide +kernel
theorem dX10_restore_10 : decode prog_1_method_40_code 10 = .ok (.dup, 1) := by decide +kernel
theorem dX10_restore_11 : decode prog_1_method_40_code 11 = .ok (.ldc_w 446, 3) := by decide +kernel
theorem dX10_restore_14 : decode prog_1_method_40_code 14 = .ok (.invokespecial 338, 3) := by decide +kernel
theorem dX10_restore_17 : decode prog_1_method_40_code 17 = .ok (.athrow, 1) := by decide +kernel
theorem dX10_restore_18 : decode prog_1_method_40_code 18 = .ok (.aload_n 0, 1) := by decide +kernel
theorem dX10_restore_19 : decode prog_1_method_40_code 19 = .ok (.getfield 10, 3) := by decide +kernel
theorem dX10_restore_22 : decode prog_1_method_40_code 22 = .ok (.aload_n 0, 1) := by decide +kernel
theorem dX10_restore_23 : decode prog_1_method_40_code 23 = .ok (.getfield 19, 3) := by decide +kernel
theorem dX10_restore_26 : decode prog_1_method_40_code 26 = .ok (.invokevirtual 351, 3) := by decide +kernel
theorem dX10_restore_29 : decode prog_1_method_40_code 29 = .ok (.aload_n 0, 1) := by decide +kernel
theorem dX10_restore_30 : decode prog_1_method_40_code 30 = .ok (.getfield 31, 3) := by decide +kernel
theorem dX10_restore_33 : decode prog_1_method_40_code 33 = .ok (.invokevirtual 448, 3) := by decide +kernel
theorem dX10_restore_36 : decode prog_1_method_40_code 36 = .ok (.aload_n 0, 1) := by decide +kernel
theorem dX10_restore_37 : decode prog_1_method_40_code 37 = .ok (.getfield 10, 3) := by decide +kernel
theorem dX10_restore_40 : decode prog_1_method_40_code 40 = .ok (.getfield 417, 3) := by decide +kernel
theorem dX10_restore_43 : decode prog_1_method_40_code 43 = .ok (.ireturn, 1) := by decide +kernel
end
section
theorem gL_8 : Cond.classLink RL 8 RX10 ∈ lw_good := zin 36 (by decide +kernel) (by decide +kernel)
theorem loX10_1 : Cond.methodLink RX10 1 objectInit ∈ lw_good := zin 41 (by decide +kernel) (by decide +kernel)
theorem gX10_7 : Cond.classLink RX10 7 RX6 ∈ lw_good := zin 44 (by decide +kernel) (by decide +kernel)
theorem loX6_1 : Cond.methodLink RX6 1 objectInit ∈ lw_good := zin 49 (by decide +kernel) (by decide +kernel)
theorem gX6_13 : Cond.classLink RX6 13 RX8 ∈ lw_good := zin 50 (by decide +kernel) (by decide +kernel)
theorem loX8_1 : Cond.methodLink RX8 1 objectInit ∈ lw_good := zin 55 (by decide +kernel) (by decide +kernel)
theorem gX6_20 : Cond.classLink RX6 20 RX2 ∈ lw_good := zin 81 (by decide +kernel) (by decide +kernel)
theorem loX2_1 : Cond.methodLink RX2 1 objectInit ∈ lw_good := zin 86 (by decide +kernel) (by decide +kernel)
theorem gX6_27 : Cond.classLink RX6 27 RX1 ∈ lw_good := zin 108 (by decide +kernel) (by decide +kernel)
theorem loX1_1 : Cond.methodLink RX1 1 objectInit ∈ lw_good := zin 113 (by decide +kernel) (by decide +kernel)
theorem gX6_34 : Cond.classLink RX6 34 RX0 ∈ lw_good := zin 126 (by decide +kernel) (by decide +kernel)
theorem loX0_1 : Cond.methodLink RX0 1 objectInit ∈ lw_good := zin 131 (by decide +kernel) (by decide +kernel)
theorem gX6_41 : Cond.classLink RX6 41 RX4 ∈ lw_good := zin 143 (by decide +kernel) (by decide +kernel)
theorem loX4_5 : Cond.methodLink RX4 5 objectInit ∈ lw_good := zin 148 (by decide +kernel) (by decide +kernel)
theorem gX10_26 : Cond.classLink RX10 26 RX3 ∈ lw_good := zin 196 (by decide +kernel) (by decide +kernel)
theorem loX3_1 : Cond.methodLink RX3 1 objectInit ∈ lw_good := zin 201 (by decide +kernel) (by decide +kernel)
theorem gX3_16 : Cond.classLink RX3 16 RX6 ∈ lw_good := zin 202 (by decide +kernel) (by decide +kernel)
theorem gX10_35 : Cond.classLink RX10 35 RX5 ∈ lw_good := zin 216 (by decide +kernel) (by decide +kernel)
theorem loX5_1 : Cond.methodLink RX5 1 objectInit ∈ lw_good := zin 221 (by decide +kernel) (by decide +kernel)
theorem gX10_42 : Cond.classLink RX10 42 RX9 ∈ lw_good := zin 235 (by decide +kernel) (by decide +kernel)
theorem loX9_1 : Cond.methodLink RX9 1 objectInit ∈ lw_good := zin 240 (by decide +kernel) (by decide +kernel)
theorem gX10_53 : Cond.classLink RX10 53 RJ4 ∈ lw_good := zin 263 (by decide +kernel) (by decide +kernel)
theorem loJ5_3 : Cond.methodLink RJ5 3 objectInit ∈ lw_good := zin 271 (by decide +kernel) (by decide +kernel)
theorem lkX7_7 : Cond.methodLink RX7 7 Lib.Math.min.name ∈ lw_good := zin 402 (by decide +kernel) (by decide +kernel)
theorem laX7_13 : Cond.methodLink RX7 13 arraycopyName ∈ lw_good := zin 405 (by decide +kernel) (by decide +kernel)
theorem gL_13 : Cond.classLink RL 13 "java/lang/UnsupportedOperationException" ∈ lw_good := zin 431 (by decide +kernel) (by decide +kernel)
theorem gX10_70 : Cond.classLink RX10 70 "java/lang/UnsupportedOperationException" ∈ lw_good := zin 447 (by decide +kernel) (by decide +kernel)
theorem lkX3_31 : Cond.methodLink RX3 31 Lib.Math.min.name ∈ lw_good := zin 528 (by decide +kernel) (by decide +kernel)
theorem lkX8_44 : Cond.methodLink RX8 44 Lib.Math.min.name ∈ lw_good := zin 746 (by decide +kernel) (by decide +kernel)
theorem lkX8_50 : Cond.methodLink RX8 50 Lib.Math.max.name ∈ lw_good := zin 747 (by decide +kernel) (by decide +kernel)
theorem gL_48 : Cond.classLink RL 48 "java/lang/IndexOutOfBoundsException" ∈ lw_good := zin 757 (by decide +kernel) (by decide +kernel)
theorem gL_50 : Cond.classLink RL 50 "java/lang/IllegalArgumentException" ∈ lw_good := zin 781 (by decide +kernel) (by decide +kernel)
theorem gX10_192 : Cond.classLink RX10 192 "java/lang/IndexOutOfBoundsException" ∈ lw_good := zin 787 (by decide +kernel) (by decide +kernel)
theorem gX10_221 : Cond.classLink RX10 221 "java/lang/IllegalArgumentException" ∈ lw_good := zin 803 (by decide +kernel) (by decide +kernel)
theorem lkX6_178 : Cond.methodLink RX6 178 Lib.Math.max.name ∈ lw_good := zin 837 (by decide +kernel) (by decide +kernel)
theorem gL_58 : Cond.classLink RL 58 "java/util/NoSuchElementException" ∈ lw_good := zin 841 (by decide +kernel) (by decide +kernel)
theorem gX10_250 : Cond.classLink RX10 250 "java/util/NoSuchElementException" ∈ lw_good := zin 847 (by decide +kernel) (by decide +kernel)
theorem gL_95 : Cond.classLink RL 95 "java/lang/IllegalStateException" ∈ lw_good := zin 988 (by decide +kernel) (by decide +kernel)
theorem gX10_334 : Cond.classLink RX10 334 "java/lang/IllegalStateException" ∈ lw_good := zin 997 (by decide +kernel) (by decide +kernel)
theorem gJ5_129 : Cond.classLink RJ5 129 "java/lang/StringIndexOutOfBoundsException" ∈ lw_good := zin 1154 (by decide +kernel) (by decide +kernel)
theorem lkJ8_194 : Cond.methodLink RJ8 194 Lib.Math.max.name ∈ lw_good := zin 1184 (by decide +kernel) (by decide +kernel)
theorem qJ8_200 : Cond.constant RJ8 200 2147483639 ∈ lw_good := zin 1185 (by decide +kernel) (by decide +kernel)
theorem qJ5_39 : Cond.constant RJ5 39 2147483647 ∈ lw_good := zin 1189 (by decide +kernel) (by decide +kernel)
theorem gJ7_311 : Cond.classLink RJ7 311 "[B" ∈ lw_good := zin 1199 (by decide +kernel) (by decide +kernel)
theorem lkJ7_304 : Cond.methodLink RJ7 304 Lib.Math.min.name ∈ lw_good := zin 1200 (by decide +kernel) (by decide +kernel)
theorem laJ7_150 : Cond.methodLink RJ7 150 arraycopyName ∈ lw_good := zin 1201 (by decide +kernel) (by decide +kernel)
theorem laJ0_212 : Cond.methodLink RJ0 212 arraycopyName ∈ lw_good := zin 1255 (by decide +kernel) (by decide +kernel)
theorem gJ4_18 : Cond.classLink RJ4 18 RJ0 ∈ lw_good := zin 1286 (by decide +kernel) (by decide +kernel)
theorem loJ0_1 : Cond.methodLink RJ0 1 objectInit ∈ lw_good := zin 1293 (by decide +kernel) (by decide +kernel)
theorem gJ7_43 : Cond.classLink RJ7 43 "java/lang/IllegalArgumentException" ∈ lw_good := zin 1317 (by decide +kernel) (by decide +kernel)
theorem gJ7_45 : Cond.classLink RJ7 45 RJ4 ∈ lw_good := zin 1318 (by decide +kernel) (by decide +kernel)
theorem gJ7_68 : Cond.classLink RJ7 68 "java/lang/ArrayIndexOutOfBoundsException" ∈ lw_good := zin 1362 (by decide +kernel) (by decide +kernel)
theorem lkJ5_138 : Cond.methodLink RJ5 138 Lib.Math.min.name ∈ lw_good := zin 1406 (by decide +kernel) (by decide +kernel)
theorem gL_114 : Cond.classLink RL 114 "java/lang/ArithmeticException" ∈ lw_good := zin 1412 (by decide +kernel) (by decide +kernel)
theorem gX10_403 : Cond.classLink RX10 403 "java/lang/ArithmeticException" ∈ lw_good := zin 1430 (by decide +kernel) (by decide +kernel)
theorem gL_130 : Cond.classLink RL 130 RX11 ∈ lw_good := zin 1490 (by decide +kernel) (by decide +kernel)
theorem loX11_1 : Cond.methodLink RX11 1 objectInit ∈ lw_good := zin 1495 (by decide +kernel) (by decide +kernel)
theorem zac1 : Cond.native arraycopyName ∈ lw_good := zin 407 (by decide +kernel) (by decide +kernel)
theorem zac2 : Cond.static arraycopyName ∈ lw_good := zin 406 (by decide +kernel) (by decide +kernel)
theorem zac3 : Cond.initialized "java/lang/System" ∈ lw_good := zin 22 (by decide +kernel) (by decide +kernel)
theorem niX6_init : Cond.instanceMethod yX6_init ∈ lw_good := zin 47 (by decide +kernel) (by decide +kernel)
theorem iiX6_init : Cond.initialized yX6_init.cls ∈ lw_good := zin 2 (by decide +kernel) (by decide +kernel)
theorem niX8_init : Cond.instanceMethod yX8_init ∈ lw_good := zin 53 (by decide +kernel) (by decide +kernel)
theorem iiX8_init : Cond.initialized yX8_init.cls ∈ lw_good := zin 3 (by decide +kernel) (by decide +kernel)
theorem niX2_init : Cond.instanceMethod yX2_init ∈ lw_good := zin 84 (by decide +kernel) (by decide +kernel)
theorem iiX2_init : Cond.initialized yX2_init.cls ∈ lw_good := zin 4 (by decide +kernel) (by decide +kernel)
theorem niX1_init : Cond.instanceMethod yX1_init ∈ lw_good := zin 111 (by decide +kernel) (by decide +kernel)
theorem iiX1_init : Cond.initialized yX1_init.cls ∈ lw_good := zin 5 (by decide +kernel) (by decide +kernel)
theorem niX0_init : Cond.instanceMethod yX0_init ∈ lw_good := zin 129 (by decide +kernel) (by decide +kernel)
theorem iiX0_init : Cond.initialized yX0_init.cls ∈ lw_good := zin 6 (by decide +kernel) (by decide +kernel)
theorem niX4_init : Cond.instanceMethod yX4_init ∈ lw_good := zin 146 (by decide +kernel) (by decide +kernel)
theorem iiX4_init : Cond.initialized yX4_init.cls ∈ lw_good := zin 7 (by decide +kernel) (by decide +kernel)
theorem niX5_init : Cond.instanceMethod yX5_init ∈ lw_good := zin 219 (by decide +kernel) (by decide +kernel)
theorem iiX5_init : Cond.initialized yX5_init.cls ∈ lw_good := zin 9 (by decide +kernel) (by decide +kernel)
theorem niX9_init : Cond.instanceMethod yX9_init ∈ lw_good := zin 238 (by decide +kernel) (by decide +kernel)
theorem iiX9_init : Cond.initialized yX9_init.cls ∈ lw_good := zin 10 (by decide +kernel) (by decide +kernel)
section ZCP
variable {Γ : zG} {mi : zMI} {d mc ms pc k n : Nat} {lv : List (Option Value)} {st : List Value} {G : zH} {Post : zP}
/-- System.arraycopy, of a whole row of ints to another of the same length -/
theorem z_copyI {j a b N0 : Nat} {f g : Nat → Int32} {len : Int32} (hd : decode mi.2.1 pc = .ok (.invokestatic j, 3)) (hlk : Cond.methodLink mi.1.cls j arraycopyName ∈ lw_good) (hA : G a = some (.inl (.int, (N0, .inl f)))) (hB : G b = some (.inl (.int, (N0, .inl g)))) (h0 : ¬ len < 0) (hN : len.toNatClampNeg ≤ N0) (hst : (st.map fun v => v.category).sum ≤ 8)
    (kk : zX Γ mi d mc ms (pc + 3) lv st (zset G b (.inl (.int, (N0, .inl (va_cpy f g 0 0 len.toNatClampNeg))))) k n Post) : zX Γ mi d mc ms pc lv (.int len :: .int 0 :: .ref b :: .int 0 :: .ref a :: st) G k n Post := by
  intro p e R s m args below meth c H locs ls C hH hS hl
  obtain ⟨hx, hb, hml, hown, hts, hret, hlk2, hname, htab, hks, hkh, hfr, hlo, hmc, hms⟩ := id C
  obtain ⟨ws, tys, h1, h2, h3, h4⟩ := id hH
  obtain ⟨cA, q0, t0, hq, ht⟩ := h4.arr hA
  obtain ⟨cB, q1, t1, hq1, ht1⟩ := h4.arr hB
  have hfr1 : 1 ≤ R.frames := Nat.le_trans (show 1 ≤ zFr d by unfold zFr; omega) hfr
  have hw9 : nativeFrameWords "java/lang/System" "arraycopy" 5 + 11 ≤ 100 := by decide +kernel
  have hlo1 : (st.map fun v => v.category).sum + (nativeFrameWords "java/lang/System" "arraycopy" 5 + 11) ≤ R.locals := Nat.le_trans (show _ ≤ zLo d by unfold zLo; omega) hlo
  refine va_copyi (ty := .int) hx hb (by rw [hml]; exact hl.1.symm) hown (hts _ hlk) (hts _ zac1) (hts _ zac2) (hts _ zac3) h3 h1 h2 hS q0 q1 t0 t1 hq hq1 ht ht1 rfl (sp := 0) (dp := 0) (n := len) (by decide) (by decide) h0 (by show 0 + _ ≤ _; omega) (by show 0 + _ ≤ _; omega) (fun _ _ => rfl) hfr1 hlo1 hd (fun H1 locs1 g1 g2 g3 => ?_)
  exact kk p e R s m args below meth c H1 locs1 ls C ⟨_, tys, g1, g2, h3, h4.setA hq1 ht1 _⟩ g3 hl
end ZCP
end
section
/-! ===== throwing, statics, the script ===== -/
section ZT
variable {Γ : zG} {mi : zMI} {d mc ms pc k n : Nat} {lv : List (Option Value)} {st : List Value} {G : zH} {Post : zP}
/-- the exceptions of the landed class: name, the entry of its constructor -/
def zEx : List (String × Nat) := [("java/lang/UnsupportedOperationException", 74), ("java/lang/IndexOutOfBoundsException", 196), ("java/lang/IllegalArgumentException", 225), ("java/lang/IllegalStateException", 338), ("java/lang/ArithmeticException", 407)]
def zNames : List String := ["java/lang/RuntimeException", "java/lang/Exception"]
def zOdd : List Cond := (zCast.map fun q => Cond.castable q.1 q.2) ++ zDecl.map Cond.declares
theorem zEx_w : ∀ q ∈ zEx, (vx_atS RX10 q.2 q.1 zNames).all (fun w => (decide (w ∈ lw_tbl) && goodWord w) || decide (w ∈ zOdd)) = true := by decide +kernel
theorem zOdd_h {s : State} {args : Array Value} (h : zKs Γ s) : ∀ w ∈ zOdd, w.before args s = true := by
  intro w hw
  rcases List.mem_append.mp hw with h1 | h1
  · obtain ⟨q, hq, rfl⟩ := List.mem_map.mp h1
    exact va_Nw.use rfl (h.2.2.1 q hq)
  · obtain ⟨y, hy, rfl⟩ := List.mem_map.mp h1
    exact va_Nw.use rfl (h.2.2.2.2.2.2 y hy)
theorem zEx_b {s : State} {args : Array Value} (h : zKs Γ s) (hts : ∀ w ∈ lw_good, w.before args s = true) {cls : String} {ic : Nat} (hE : (cls, ic) ∈ zEx) : ∀ w ∈ vx_atS RX10 ic cls zNames, w.before args s = true := by
  intro w hw
  have h1 := List.all_eq_true.mp (zEx_w _ hE) w hw
  simp only [Bool.or_eq_true, Bool.and_eq_true, decide_eq_true_eq] at h1
  rcases h1 with h1 | h1
  · exact hts w (List.mem_filter.mpr h1)
  · exact zOdd_h h w h1
theorem zEx_o : ∀ q ∈ zEx, (vx_atS RX10 q.2 q.1 zNames).all vx_ot = true := by decide +kernel
theorem zEx_f : ∀ q ∈ zEx, Bundle.fit q.1 = true := by decide +kernel
theorem zNames_f : ∀ x ∈ zNames, Bundle.fit x = true := by decide +kernel
theorem zEx_i : zEx.all (fun q => decide (Cond.initialized q.1 ∈ lw_tbl) && goodWord (Cond.initialized q.1)) = true := by decide +kernel
theorem zSen (Γ : zG) {s : State} {H : Heap} {locs : List Loc} {G : zH} {Post : zP} {cls : String} (hH : zHR Γ G s H) (hS : va_S (zA Γ) s.heap H locs) (hp : Post (.inr cls) G) : ∀ t : State, s.vm.Alike t.vm → H.size ≤ t.heap.size → (∀ q : Nat, q < H.size → t.heap[q]? = H[q]?) → zXC Γ Post cls s t := by
  intro t hvm hsz hq
  refine ⟨⟨G, hp, (hH.moved hvm).kept hq⟩, Nat.le_trans hS.1 hsz, fun q h1 h2 => ?_⟩
  rw [hq q (Nat.lt_of_lt_of_le h1 hS.1)]
  exact hS.2.1 q h1 h2
set_option maxHeartbeats 1000000 in
theorem z_throw {cls tx : String} {ik is ic i : Nat} (hown : mi.1.cls = RX10) (hE : (cls, ic) ∈ zEx) (hlk : Cond.classLink RX10 ik cls ∈ lw_good) (hi : zStrs[i]? = some (RX10, is, tx)) (hh : mi.2.2.2.2 = [])
    (d0 : decode mi.2.1 pc = .ok (.new ik, 3)) (d3 : decode mi.2.1 (pc + 3) = .ok (.dup, 1)) (d4 : decode mi.2.1 (pc + 4) = .ok (.ldc is, 2)) (d6 : decode mi.2.1 (pc + 6) = .ok (.invokespecial ic, 3)) (d9 : decode mi.2.1 (pc + 9) = .ok (.athrow, 1))
    (hst : (st.map fun v => v.category).sum ≤ 8) (hk : k + 1 ≤ mc) (hn : n + 6 ≤ ms) (hp : Post (.inr cls) G) : zX Γ mi d mc ms pc lv st G k n Post := by
  intro p e R s m args below meth c H locs ls C hH hS hl
  obtain ⟨hx, hb, hml, ho, hts, hret, hlk2, hname, htab, hks, hkh, hfr, hlo, hmc, hms⟩ := id C
  rw [hown] at ho
  have hini : Cond.initialized cls ∈ lw_good := by
    have h := List.all_eq_true.mp zEx_i _ hE
    simp only [Bool.and_eq_true, decide_eq_true_eq] at h
    exact List.mem_filter.mpr h
  refine vx_throwS (names := zNames) hx hb hks.1 ho (zEx_f _ hE) zNames_f (hts _ hlk) (hts _ hini) (hks.2.2.2.2.1 i _ hi) (zEx_b hks hts hE) ?_ hkh.2.2.2.2.2.2.2.1 hkh.2.2.2.2.2.2.2.2.1 hS (by rw [hml]; exact hl.1) d0 d3 d4 d6 d9 ?_ ?_ ?_ (Nat.le_trans hk hmc) (Nat.le_trans hn hms) hlk2 (zSen Γ hH hS hp) hS.2.2 hk hn
  · intro w hw
    rcases List.mem_cons.mp hw with rfl | hw
    · rfl
    · rcases List.mem_cons.mp hw with rfl | hw
      · rfl
      · exact List.all_eq_true.mp (zEx_o _ hE) w hw
  · rw [htab, hh]
    intro x hx9
    cases hx9
  · show 2 + 3 < R.frames
    unfold zFr at hfr
    omega
  · show _ + (13 * (2 + 1) + 43) ≤ R.locals
    unfold zLo at hlo
    omega
set_option maxHeartbeats 1000000 in
theorem z_throwW {cls tx : String} {ik is ic i : Nat} (hown : mi.1.cls = RX10) (hE : (cls, ic) ∈ zEx) (hlk : Cond.classLink RX10 ik cls ∈ lw_good) (hi : zStrs[i]? = some (RX10, is, tx)) (hh : mi.2.2.2.2 = [])
    (d0 : decode mi.2.1 pc = .ok (.new ik, 3)) (d3 : decode mi.2.1 (pc + 3) = .ok (.dup, 1)) (d4 : decode mi.2.1 (pc + 4) = .ok (.ldc_w is, 3)) (d6 : decode mi.2.1 (pc + 7) = .ok (.invokespecial ic, 3)) (d9 : decode mi.2.1 (pc + 10) = .ok (.athrow, 1))
    (hst : (st.map fun v => v.category).sum ≤ 8) (hk : k + 1 ≤ mc) (hn : n + 6 ≤ ms) (hp : Post (.inr cls) G) : zX Γ mi d mc ms pc lv st G k n Post := by
  intro p e R s m args below meth c H locs ls C hH hS hl
  obtain ⟨hx, hb, hml, ho, hts, hret, hlk2, hname, htab, hks, hkh, hfr, hlo, hmc, hms⟩ := id C
  rw [hown] at ho
  have hini : Cond.initialized cls ∈ lw_good := by
    have h := List.all_eq_true.mp zEx_i _ hE
    simp only [Bool.and_eq_true, decide_eq_true_eq] at h
    exact List.mem_filter.mpr h
  refine vx_throwSW (names := zNames) hx hb hks.1 ho (zEx_f _ hE) zNames_f (hts _ hlk) (hts _ hini) (hks.2.2.2.2.1 i _ hi) (zEx_b hks hts hE) ?_ hkh.2.2.2.2.2.2.2.1 hkh.2.2.2.2.2.2.2.2.1 hS (by rw [hml]; exact hl.1) d0 d3 d4 d6 d9 ?_ ?_ ?_ (Nat.le_trans hk hmc) (Nat.le_trans hn hms) hlk2 (zSen Γ hH hS hp) hS.2.2 hk hn
  · intro w hw
    rcases List.mem_cons.mp hw with rfl | hw
    · rfl
    · rcases List.mem_cons.mp hw with rfl | hw
      · rfl
      · exact List.all_eq_true.mp (zEx_o _ hE) w hw
  · rw [htab, hh]
    intro x hx9
    cases hx9
  · show 2 + 3 < R.frames
    unfold zFr at hfr
    omega
  · show _ + (13 * (2 + 1) + 43) ≤ R.locals
    unfold zLo at hlo
    omega
/-- NoSuchElementException, whose constructor hands its text on by another entry -/
theorem z_throwN {tx : String} {is i : Nat} (hown : mi.1.cls = RX10) (hi : zStrs[i]? = some (RX10, is, tx)) (hh : mi.2.2.2.2 = [])
    (d0 : decode mi.2.1 pc = .ok (.new 250, 3)) (d3 : decode mi.2.1 (pc + 3) = .ok (.dup, 1)) (d4 : decode mi.2.1 (pc + 4) = .ok (.ldc is, 2) ∧ decode mi.2.1 (pc + 6) = .ok (.invokespecial 254, 3) ∧ decode mi.2.1 (pc + 9) = .ok (.athrow, 1) ∨ decode mi.2.1 (pc + 4) = .ok (.ldc_w is, 3) ∧ decode mi.2.1 (pc + 7) = .ok (.invokespecial 254, 3) ∧ decode mi.2.1 (pc + 10) = .ok (.athrow, 1))
    (hst : (st.map fun v => v.category).sum ≤ 8) (hk : k + 1 ≤ mc) (hn : n + 6 ≤ ms) (hp : Post (.inr "java/util/NoSuchElementException") G) : zX Γ mi d mc ms pc lv st G k n Post := by
  sorry
/-- the script -/
theorem z_sld {i : Int32} (hd : decode mi.2.1 pc = .ok (.iaload, 1)) (hi : vp_in i (Γ.2.2.2.2 103)) (kk : zX Γ mi d mc ms (pc + 1) lv (.int (nI (Γ.2.2.2.2 (104 + i.toNatClampNeg))) :: st) G k n Post) : zX Γ mi d mc ms pc lv (.int i :: .ref (Γ.2.2.2.2 102) :: st) G k n Post := by
  intro p e R s m args below meth c H locs ls C hH hS hl
  have hkh := C.2.2.2.2.2.2.2.2.2.2.1
  exact va_sld C.1 C.2.1 hkh.2.2.2.2.2.2.2.2.2.2 (zX_lt hkh.2.2.2.2.2.2.2.2.2.2) hkh.2.2.2.2.2.2.2.2.2.1 hS hi hd (kk p e R s m args below meth c H locs ls C hH hS hl)
end ZT
end
