/-! The private methods that are called, out of the tables; the tables; the classes with their fields (names as the program prints them). -/
def lw_okq (q : MethodName × Nat) : Prop := (q.1.cls ≠ "java/lang/invoke/MethodHandle" ∧ q.1.cls ≠ "java/lang/invoke/VarHandle") ∧ Cond.instantiable q.1.cls q.2 ∈ tables_1 ∧ Cond.privateMethod q.1 ∈ tables_1 ∧ Cond.instanceMethod q.1 ∈ tables_1
theorem lw_p0 : lw_okq (⟨"TemplateHouse", "fourReady", "(II)V"⟩, 19) := ⟨⟨by decide +kernel, by decide +kernel⟩, List.mem_of_getElem? (i := 31) (by decide +kernel), List.mem_of_getElem? (i := 771) (by decide +kernel), List.mem_of_getElem? (i := 772) (by decide +kernel)⟩
theorem lw_p1 : lw_okq (⟨"TemplateHouse", "fromTape", "(I)I"⟩, 19) := ⟨⟨by decide +kernel, by decide +kernel⟩, List.mem_of_getElem? (i := 31) (by decide +kernel), List.mem_of_getElem? (i := 815) (by decide +kernel), List.mem_of_getElem? (i := 816) (by decide +kernel)⟩
theorem lw_p2 : lw_okq (⟨"TemplateHouse", "isRead", "(I)Z"⟩, 19) := ⟨⟨by decide +kernel, by decide +kernel⟩, List.mem_of_getElem? (i := 31) (by decide +kernel), List.mem_of_getElem? (i := 933) (by decide +kernel), List.mem_of_getElem? (i := 934) (by decide +kernel)⟩
theorem lw_p3 : lw_okq (⟨"TemplateHouse", "told", "(I)I"⟩, 19) := ⟨⟨by decide +kernel, by decide +kernel⟩, List.mem_of_getElem? (i := 31) (by decide +kernel), List.mem_of_getElem? (i := 912) (by decide +kernel), List.mem_of_getElem? (i := 913) (by decide +kernel)⟩
theorem lw_p4 : lw_okq (⟨"TemplateHouse$Checker", "checkAlias", "(I)V"⟩, 5) := ⟨⟨by decide +kernel, by decide +kernel⟩, List.mem_of_getElem? (i := 443) (by decide +kernel), List.mem_of_getElem? (i := 1686) (by decide +kernel), List.mem_of_getElem? (i := 1687) (by decide +kernel)⟩
theorem lw_p5 : lw_okq (⟨"TemplateHouse$Checker", "checkCall", "(I)V"⟩, 5) := ⟨⟨by decide +kernel, by decide +kernel⟩, List.mem_of_getElem? (i := 443) (by decide +kernel), List.mem_of_getElem? (i := 1706) (by decide +kernel), List.mem_of_getElem? (i := 1707) (by decide +kernel)⟩
theorem lw_p6 : lw_okq (⟨"TemplateHouse$Checker", "checkCalls", "()V"⟩, 5) := ⟨⟨by decide +kernel, by decide +kernel⟩, List.mem_of_getElem? (i := 443) (by decide +kernel), List.mem_of_getElem? (i := 1702) (by decide +kernel), List.mem_of_getElem? (i := 1703) (by decide +kernel)⟩
theorem lw_p7 : lw_okq (⟨"TemplateHouse$Checker", "checkDefs", "()V"⟩, 5) := ⟨⟨by decide +kernel, by decide +kernel⟩, List.mem_of_getElem? (i := 443) (by decide +kernel), List.mem_of_getElem? (i := 1682) (by decide +kernel), List.mem_of_getElem? (i := 1683) (by decide +kernel)⟩
theorem lw_p8 : lw_okq (⟨"TemplateHouse$Checker", "checkParts", "()V"⟩, 5) := ⟨⟨by decide +kernel, by decide +kernel⟩, List.mem_of_getElem? (i := 443) (by decide +kernel), List.mem_of_getElem? (i := 1724) (by decide +kernel), List.mem_of_getElem? (i := 1725) (by decide +kernel)⟩
theorem lw_p9 : lw_okq (⟨"TemplateHouse$Checker", "filledPart", "(III)I"⟩, 5) := ⟨⟨by decide +kernel, by decide +kernel⟩, List.mem_of_getElem? (i := 443) (by decide +kernel), List.mem_of_getElem? (i := 1732) (by decide +kernel), List.mem_of_getElem? (i := 1733) (by decide +kernel)⟩
theorem lw_p10 : lw_okq (⟨"TemplateHouse$Checker", "isNamed", "(II)Z"⟩, 5) := ⟨⟨by decide +kernel, by decide +kernel⟩, List.mem_of_getElem? (i := 443) (by decide +kernel), List.mem_of_getElem? (i := 1719) (by decide +kernel), List.mem_of_getElem? (i := 1720) (by decide +kernel)⟩
theorem lw_p11 : lw_okq (⟨"TemplateHouse$Checker", "mark", "(II)V"⟩, 5) := ⟨⟨by decide +kernel, by decide +kernel⟩, List.mem_of_getElem? (i := 443) (by decide +kernel), List.mem_of_getElem? (i := 1690) (by decide +kernel), List.mem_of_getElem? (i := 1691) (by decide +kernel)⟩
theorem lw_p12 : lw_okq (⟨"TemplateHouse$Checker", "mayHaveArgs", "(II)Z"⟩, 5) := ⟨⟨by decide +kernel, by decide +kernel⟩, List.mem_of_getElem? (i := 443) (by decide +kernel), List.mem_of_getElem? (i := 1714) (by decide +kernel), List.mem_of_getElem? (i := 1715) (by decide +kernel)⟩
theorem lw_p13 : lw_okq (⟨"TemplateHouse$Checker", "nameAll", "()V"⟩, 5) := ⟨⟨by decide +kernel, by decide +kernel⟩, List.mem_of_getElem? (i := 443) (by decide +kernel), List.mem_of_getElem? (i := 1664) (by decide +kernel), List.mem_of_getElem? (i := 1665) (by decide +kernel)⟩
theorem lw_p14 : lw_okq (⟨"TemplateHouse$Checker", "nameFile", "(I)V"⟩, 5) := ⟨⟨by decide +kernel, by decide +kernel⟩, List.mem_of_getElem? (i := 443) (by decide +kernel), List.mem_of_getElem? (i := 1678) (by decide +kernel), List.mem_of_getElem? (i := 1679) (by decide +kernel)⟩
theorem lw_p15 : lw_okq (⟨"TemplateHouse$Checker", "ownPart", "(III)I"⟩, 5) := ⟨⟨by decide +kernel, by decide +kernel⟩, List.mem_of_getElem? (i := 443) (by decide +kernel), List.mem_of_getElem? (i := 1698) (by decide +kernel), List.mem_of_getElem? (i := 1699) (by decide +kernel)⟩
theorem lw_p16 : lw_okq (⟨"TemplateHouse$Checker", "partFrom", "(IIII)I"⟩, 5) := ⟨⟨by decide +kernel, by decide +kernel⟩, List.mem_of_getElem? (i := 443) (by decide +kernel), List.mem_of_getElem? (i := 1728) (by decide +kernel), List.mem_of_getElem? (i := 1729) (by decide +kernel)⟩
theorem lw_p17 : lw_okq (⟨"TemplateHouse$Checker", "templateFrom", "(III)I"⟩, 5) := ⟨⟨by decide +kernel, by decide +kernel⟩, List.mem_of_getElem? (i := 443) (by decide +kernel), List.mem_of_getElem? (i := 1694) (by decide +kernel), List.mem_of_getElem? (i := 1695) (by decide +kernel)⟩
theorem lw_p18 : lw_okq (⟨"TemplateHouse$Checker", "tieParts", "()V"⟩, 5) := ⟨⟨by decide +kernel, by decide +kernel⟩, List.mem_of_getElem? (i := 443) (by decide +kernel), List.mem_of_getElem? (i := 1737) (by decide +kernel), List.mem_of_getElem? (i := 1738) (by decide +kernel)⟩
theorem lw_p19 : lw_okq (⟨"TemplateHouse$FileReader", "checkParam", "(IIZ)V"⟩, 19) := ⟨⟨by decide +kernel, by decide +kernel⟩, List.mem_of_getElem? (i := 318) (by decide +kernel), List.mem_of_getElem? (i := 1330) (by decide +kernel), List.mem_of_getElem? (i := 1331) (by decide +kernel)⟩
theorem lw_p20 : lw_okq (⟨"TemplateHouse$FileReader", "constant", "(Z)I"⟩, 19) := ⟨⟨by decide +kernel, by decide +kernel⟩, List.mem_of_getElem? (i := 318) (by decide +kernel), List.mem_of_getElem? (i := 1339) (by decide +kernel), List.mem_of_getElem? (i := 1340) (by decide +kernel)⟩
theorem lw_p21 : lw_okq (⟨"TemplateHouse$FileReader", "defaultWord", "()I"⟩, 19) := ⟨⟨by decide +kernel, by decide +kernel⟩, List.mem_of_getElem? (i := 318) (by decide +kernel), List.mem_of_getElem? (i := 1622) (by decide +kernel), List.mem_of_getElem? (i := 1623) (by decide +kernel)⟩
theorem lw_p22 : lw_okq (⟨"TemplateHouse$FileReader", "delimiter", "()I"⟩, 19) := ⟨⟨by decide +kernel, by decide +kernel⟩, List.mem_of_getElem? (i := 318) (by decide +kernel), List.mem_of_getElem? (i := 1148) (by decide +kernel), List.mem_of_getElem? (i := 1149) (by decide +kernel)⟩
theorem lw_p23 : lw_okq (⟨"TemplateHouse$FileReader", "emptyList", "()I"⟩, 19) := ⟨⟨by decide +kernel, by decide +kernel⟩, List.mem_of_getElem? (i := 318) (by decide +kernel), List.mem_of_getElem? (i := 1334) (by decide +kernel), List.mem_of_getElem? (i := 1335) (by decide +kernel)⟩
theorem lw_p24 : lw_okq (⟨"TemplateHouse$FileReader", "head", "()V"⟩, 19) := ⟨⟨by decide +kernel, by decide +kernel⟩, List.mem_of_getElem? (i := 318) (by decide +kernel), List.mem_of_getElem? (i := 1009) (by decide +kernel), List.mem_of_getElem? (i := 1010) (by decide +kernel)⟩
theorem lw_p25 : lw_okq (⟨"TemplateHouse$FileReader", "isOnTheWay", "(I)Z"⟩, 19) := ⟨⟨by decide +kernel, by decide +kernel⟩, List.mem_of_getElem? (i := 318) (by decide +kernel), List.mem_of_getElem? (i := 1244) (by decide +kernel), List.mem_of_getElem? (i := 1245) (by decide +kernel)⟩
theorem lw_p26 : lw_okq (⟨"TemplateHouse$FileReader", "newKey", "()I"⟩, 19) := ⟨⟨by decide +kernel, by decide +kernel⟩, List.mem_of_getElem? (i := 318) (by decide +kernel), List.mem_of_getElem? (i := 1627) (by decide +kernel), List.mem_of_getElem? (i := 1628) (by decide +kernel)⟩
theorem lw_p27 : lw_okq (⟨"TemplateHouse$FileReader", "openBody", "()V"⟩, 19) := ⟨⟨by decide +kernel, by decide +kernel⟩, List.mem_of_getElem? (i := 318) (by decide +kernel), List.mem_of_getElem? (i := 1295) (by decide +kernel), List.mem_of_getElem? (i := 1296) (by decide +kernel)⟩
theorem lw_p28 : lw_okq (⟨"TemplateHouse$FileReader", "openFile", "(I)V"⟩, 19) := ⟨⟨by decide +kernel, by decide +kernel⟩, List.mem_of_getElem? (i := 318) (by decide +kernel), List.mem_of_getElem? (i := 985) (by decide +kernel), List.mem_of_getElem? (i := 986) (by decide +kernel)⟩
theorem lw_p29 : lw_okq (⟨"TemplateHouse$FileReader", "param", "(Z)Z"⟩, 19) := ⟨⟨by decide +kernel, by decide +kernel⟩, List.mem_of_getElem? (i := 318) (by decide +kernel), List.mem_of_getElem? (i := 1325) (by decide +kernel), List.mem_of_getElem? (i := 1326) (by decide +kernel)⟩
theorem lw_p30 : lw_okq (⟨"TemplateHouse$FileReader", "regionFilled", "(I)V"⟩, 19) := ⟨⟨by decide +kernel, by decide +kernel⟩, List.mem_of_getElem? (i := 318) (by decide +kernel), List.mem_of_getElem? (i := 1261) (by decide +kernel), List.mem_of_getElem? (i := 1262) (by decide +kernel)⟩
theorem lw_p31 : lw_okq (⟨"TemplateHouse$Heap", "isYes", "(I)Z"⟩, 20) := ⟨⟨by decide +kernel, by decide +kernel⟩, List.mem_of_getElem? (i := 495) (by decide +kernel), List.mem_of_getElem? (i := 2035) (by decide +kernel), List.mem_of_getElem? (i := 2036) (by decide +kernel)⟩
theorem lw_p32 : lw_okq (⟨"TemplateHouse$Heap", "spellNumber", "(J)V"⟩, 20) := ⟨⟨by decide +kernel, by decide +kernel⟩, List.mem_of_getElem? (i := 495) (by decide +kernel), List.mem_of_getElem? (i := 2047) (by decide +kernel), List.mem_of_getElem? (i := 2048) (by decide +kernel)⟩
theorem lw_p33 : lw_okq (⟨"TemplateHouse$Heap", "spellTruth", "(Z)V"⟩, 20) := ⟨⟨by decide +kernel, by decide +kernel⟩, List.mem_of_getElem? (i := 495) (by decide +kernel), List.mem_of_getElem? (i := 2039) (by decide +kernel), List.mem_of_getElem? (i := 2040) (by decide +kernel)⟩
theorem lw_p34 : lw_okq (⟨"TemplateHouse$Imports", "extend", "([I[IIII)V"⟩, 6) := ⟨⟨by decide +kernel, by decide +kernel⟩, List.mem_of_getElem? (i := 201) (by decide +kernel), List.mem_of_getElem? (i := 1660) (by decide +kernel), List.mem_of_getElem? (i := 1661) (by decide +kernel)⟩
theorem lw_p35 : lw_okq (⟨"TemplateHouse$Maker", "apply", "()V"⟩, 21) := ⟨⟨by decide +kernel, by decide +kernel⟩, List.mem_of_getElem? (i := 465) (by decide +kernel), List.mem_of_getElem? (i := 2235) (by decide +kernel), List.mem_of_getElem? (i := 2236) (by decide +kernel)⟩
theorem lw_p36 : lw_okq (⟨"TemplateHouse$Maker", "called", "(III)I"⟩, 21) := ⟨⟨by decide +kernel, by decide +kernel⟩, List.mem_of_getElem? (i := 465) (by decide +kernel), List.mem_of_getElem? (i := 2136) (by decide +kernel), List.mem_of_getElem? (i := 2137) (by decide +kernel)⟩
theorem lw_p37 : lw_okq (⟨"TemplateHouse$Maker", "calledBy", "(I)V"⟩, 21) := ⟨⟨by decide +kernel, by decide +kernel⟩, List.mem_of_getElem? (i := 465) (by decide +kernel), List.mem_of_getElem? (i := 2140) (by decide +kernel), List.mem_of_getElem? (i := 2141) (by decide +kernel)⟩
theorem lw_p38 : lw_okq (⟨"TemplateHouse$Maker", "code", "(I)I"⟩, 21) := ⟨⟨by decide +kernel, by decide +kernel⟩, List.mem_of_getElem? (i := 465) (by decide +kernel), List.mem_of_getElem? (i := 2079) (by decide +kernel), List.mem_of_getElem? (i := 2080) (by decide +kernel)⟩
theorem lw_p39 : lw_okq (⟨"TemplateHouse$Maker", "collect", "(I)V"⟩, 21) := ⟨⟨by decide +kernel, by decide +kernel⟩, List.mem_of_getElem? (i := 465) (by decide +kernel), List.mem_of_getElem? (i := 2247) (by decide +kernel), List.mem_of_getElem? (i := 2248) (by decide +kernel)⟩
theorem lw_p40 : lw_okq (⟨"TemplateHouse$Maker", "counted", "()V"⟩, 21) := ⟨⟨by decide +kernel, by decide +kernel⟩, List.mem_of_getElem? (i := 465) (by decide +kernel), List.mem_of_getElem? (i := 1912) (by decide +kernel), List.mem_of_getElem? (i := 1913) (by decide +kernel)⟩
theorem lw_p41 : lw_okq (⟨"TemplateHouse$Maker", "current", "()I"⟩, 21) := ⟨⟨by decide +kernel, by decide +kernel⟩, List.mem_of_getElem? (i := 465) (by decide +kernel), List.mem_of_getElem? (i := 2261) (by decide +kernel), List.mem_of_getElem? (i := 2262) (by decide +kernel)⟩
theorem lw_p42 : lw_okq (⟨"TemplateHouse$Maker", "done", "()I"⟩, 21) := ⟨⟨by decide +kernel, by decide +kernel⟩, List.mem_of_getElem? (i := 465) (by decide +kernel), List.mem_of_getElem? (i := 1961) (by decide +kernel), List.mem_of_getElem? (i := 1962) (by decide +kernel)⟩
theorem lw_p43 : lw_okq (⟨"TemplateHouse$Maker", "dot", "()V"⟩, 21) := ⟨⟨by decide +kernel, by decide +kernel⟩, List.mem_of_getElem? (i := 465) (by decide +kernel), List.mem_of_getElem? (i := 2153) (by decide +kernel), List.mem_of_getElem? (i := 2154) (by decide +kernel)⟩
theorem lw_p44 : lw_okq (⟨"TemplateHouse$Maker", "dotBy", "()V"⟩, 21) := ⟨⟨by decide +kernel, by decide +kernel⟩, List.mem_of_getElem? (i := 465) (by decide +kernel), List.mem_of_getElem? (i := 2189) (by decide +kernel), List.mem_of_getElem? (i := 2190) (by decide +kernel)⟩
theorem lw_p45 : lw_okq (⟨"TemplateHouse$Maker", "dotted", "(III)I"⟩, 21) := ⟨⟨by decide +kernel, by decide +kernel⟩, List.mem_of_getElem? (i := 465) (by decide +kernel), List.mem_of_getElem? (i := 2164) (by decide +kernel), List.mem_of_getElem? (i := 2165) (by decide +kernel)⟩
theorem lw_p46 : lw_okq (⟨"TemplateHouse$Maker", "eachSub", "()V"⟩, 21) := ⟨⟨by decide +kernel, by decide +kernel⟩, List.mem_of_getElem? (i := 465) (by decide +kernel), List.mem_of_getElem? (i := 2257) (by decide +kernel), List.mem_of_getElem? (i := 2258) (by decide +kernel)⟩
theorem lw_p47 : lw_okq (⟨"TemplateHouse$Maker", "eachText", "()I"⟩, 21) := ⟨⟨by decide +kernel, by decide +kernel⟩, List.mem_of_getElem? (i := 465) (by decide +kernel), List.mem_of_getElem? (i := 2265) (by decide +kernel), List.mem_of_getElem? (i := 2266) (by decide +kernel)⟩
theorem lw_p48 : lw_okq (⟨"TemplateHouse$Maker", "enter", "()V"⟩, 21) := ⟨⟨by decide +kernel, by decide +kernel⟩, List.mem_of_getElem? (i := 465) (by decide +kernel), List.mem_of_getElem? (i := 2014) (by decide +kernel), List.mem_of_getElem? (i := 2015) (by decide +kernel)⟩
theorem lw_p49 : lw_okq (⟨"TemplateHouse$Maker", "find", "()V"⟩, 21) := ⟨⟨by decide +kernel, by decide +kernel⟩, List.mem_of_getElem? (i := 465) (by decide +kernel), List.mem_of_getElem? (i := 2144) (by decide +kernel), List.mem_of_getElem? (i := 2145) (by decide +kernel)⟩
theorem lw_p50 : lw_okq (⟨"TemplateHouse$Maker", "format", "()V"⟩, 21) := ⟨⟨by decide +kernel, by decide +kernel⟩, List.mem_of_getElem? (i := 465) (by decide +kernel), List.mem_of_getElem? (i := 2278) (by decide +kernel), List.mem_of_getElem? (i := 2279) (by decide +kernel)⟩
theorem lw_p51 : lw_okq (⟨"TemplateHouse$Maker", "function", "(II)I"⟩, 21) := ⟨⟨by decide +kernel, by decide +kernel⟩, List.mem_of_getElem? (i := 465) (by decide +kernel), List.mem_of_getElem? (i := 2193) (by decide +kernel), List.mem_of_getElem? (i := 2194) (by decide +kernel)⟩
theorem lw_p52 : lw_okq (⟨"TemplateHouse$Maker", "goOn", "(I)V"⟩, 21) := ⟨⟨by decide +kernel, by decide +kernel⟩, List.mem_of_getElem? (i := 465) (by decide +kernel), List.mem_of_getElem? (i := 1938) (by decide +kernel), List.mem_of_getElem? (i := 1939) (by decide +kernel)⟩
theorem lw_p53 : lw_okq (⟨"TemplateHouse$Maker", "isSpelled", "(Ljava/lang/String;)Z"⟩, 21) := ⟨⟨by decide +kernel, by decide +kernel⟩, List.mem_of_getElem? (i := 465) (by decide +kernel), List.mem_of_getElem? (i := 2174) (by decide +kernel), List.mem_of_getElem? (i := 2175) (by decide +kernel)⟩
theorem lw_p54 : lw_okq (⟨"TemplateHouse$Maker", "items", "()V"⟩, 21) := ⟨⟨by decide +kernel, by decide +kernel⟩, List.mem_of_getElem? (i := 465) (by decide +kernel), List.mem_of_getElem? (i := 2132) (by decide +kernel), List.mem_of_getElem? (i := 2133) (by decide +kernel)⟩
theorem lw_p55 : lw_okq (⟨"TemplateHouse$Maker", "leave", "()V"⟩, 21) := ⟨⟨by decide +kernel, by decide +kernel⟩, List.mem_of_getElem? (i := 465) (by decide +kernel), List.mem_of_getElem? (i := 2119) (by decide +kernel), List.mem_of_getElem? (i := 2120) (by decide +kernel)⟩
theorem lw_p56 : lw_okq (⟨"TemplateHouse$Maker", "leaveLoop", "(II)V"⟩, 21) := ⟨⟨by decide +kernel, by decide +kernel⟩, List.mem_of_getElem? (i := 465) (by decide +kernel), List.mem_of_getElem? (i := 2252) (by decide +kernel), List.mem_of_getElem? (i := 2253) (by decide +kernel)⟩
theorem lw_p57 : lw_okq (⟨"TemplateHouse$Maker", "line", "()V"⟩, 21) := ⟨⟨by decide +kernel, by decide +kernel⟩, List.mem_of_getElem? (i := 465) (by decide +kernel), List.mem_of_getElem? (i := 2083) (by decide +kernel), List.mem_of_getElem? (i := 2084) (by decide +kernel)⟩
theorem lw_p58 : lw_okq (⟨"TemplateHouse$Maker", "listStep", "()V"⟩, 21) := ⟨⟨by decide +kernel, by decide +kernel⟩, List.mem_of_getElem? (i := 465) (by decide +kernel), List.mem_of_getElem? (i := 1942) (by decide +kernel), List.mem_of_getElem? (i := 1943) (by decide +kernel)⟩
theorem lw_p59 : lw_okq (⟨"TemplateHouse$Maker", "literal", "()V"⟩, 21) := ⟨⟨by decide +kernel, by decide +kernel⟩, List.mem_of_getElem? (i := 465) (by decide +kernel), List.mem_of_getElem? (i := 2075) (by decide +kernel), List.mem_of_getElem? (i := 2076) (by decide +kernel)⟩
theorem lw_p60 : lw_okq (⟨"TemplateHouse$Maker", "name", "()V"⟩, 21) := ⟨⟨by decide +kernel, by decide +kernel⟩, List.mem_of_getElem? (i := 465) (by decide +kernel), List.mem_of_getElem? (i := 2127) (by decide +kernel), List.mem_of_getElem? (i := 2128) (by decide +kernel)⟩
theorem lw_p61 : lw_okq (⟨"TemplateHouse$Maker", "next", "()V"⟩, 21) := ⟨⟨by decide +kernel, by decide +kernel⟩, List.mem_of_getElem? (i := 465) (by decide +kernel), List.mem_of_getElem? (i := 2243) (by decide +kernel), List.mem_of_getElem? (i := 2244) (by decide +kernel)⟩
theorem lw_p62 : lw_okq (⟨"TemplateHouse$Maker", "ofDictionary", "(II)I"⟩, 21) := ⟨⟨by decide +kernel, by decide +kernel⟩, List.mem_of_getElem? (i := 465) (by decide +kernel), List.mem_of_getElem? (i := 2181) (by decide +kernel), List.mem_of_getElem? (i := 2182) (by decide +kernel)⟩
theorem lw_p63 : lw_okq (⟨"TemplateHouse$Maker", "ofInstance", "(III)I"⟩, 21) := ⟨⟨by decide +kernel, by decide +kernel⟩, List.mem_of_getElem? (i := 465) (by decide +kernel), List.mem_of_getElem? (i := 2157) (by decide +kernel), List.mem_of_getElem? (i := 2158) (by decide +kernel)⟩
theorem lw_p64 : lw_okq (⟨"TemplateHouse$Maker", "ofMap", "(I)I"⟩, 21) := ⟨⟨by decide +kernel, by decide +kernel⟩, List.mem_of_getElem? (i := 465) (by decide +kernel), List.mem_of_getElem? (i := 2168) (by decide +kernel), List.mem_of_getElem? (i := 2169) (by decide +kernel)⟩
theorem lw_p65 : lw_okq (⟨"TemplateHouse$Maker", "option", "()V"⟩, 21) := ⟨⟨by decide +kernel, by decide +kernel⟩, List.mem_of_getElem? (i := 465) (by decide +kernel), List.mem_of_getElem? (i := 2274) (by decide +kernel), List.mem_of_getElem? (i := 2275) (by decide +kernel)⟩
theorem lw_p66 : lw_okq (⟨"TemplateHouse$Maker", "options", "()V"⟩, 21) := ⟨⟨by decide +kernel, by decide +kernel⟩, List.mem_of_getElem? (i := 465) (by decide +kernel), List.mem_of_getElem? (i := 1918) (by decide +kernel), List.mem_of_getElem? (i := 1919) (by decide +kernel)⟩
theorem lw_p67 : lw_okq (⟨"TemplateHouse$Maker", "optionsBack", "()V"⟩, 21) := ⟨⟨by decide +kernel, by decide +kernel⟩, List.mem_of_getElem? (i := 465) (by decide +kernel), List.mem_of_getElem? (i := 1957) (by decide +kernel), List.mem_of_getElem? (i := 1958) (by decide +kernel)⟩
theorem lw_p68 : lw_okq (⟨"TemplateHouse$Maker", "otherStep", "(I)V"⟩, 21) := ⟨⟨by decide +kernel, by decide +kernel⟩, List.mem_of_getElem? (i := 465) (by decide +kernel), List.mem_of_getElem? (i := 2227) (by decide +kernel), List.mem_of_getElem? (i := 2228) (by decide +kernel)⟩
theorem lw_p69 : lw_okq (⟨"TemplateHouse$Maker", "plain", "()V"⟩, 21) := ⟨⟨by decide +kernel, by decide +kernel⟩, List.mem_of_getElem? (i := 465) (by decide +kernel), List.mem_of_getElem? (i := 1809) (by decide +kernel), List.mem_of_getElem? (i := 1810) (by decide +kernel)⟩
theorem lw_p70 : lw_okq (⟨"TemplateHouse$Maker", "pop", "()I"⟩, 21) := ⟨⟨by decide +kernel, by decide +kernel⟩, List.mem_of_getElem? (i := 465) (by decide +kernel), List.mem_of_getElem? (i := 2100) (by decide +kernel), List.mem_of_getElem? (i := 2101) (by decide +kernel)⟩
theorem lw_p71 : lw_okq (⟨"TemplateHouse$Maker", "pour", "()V"⟩, 21) := ⟨⟨by decide +kernel, by decide +kernel⟩, List.mem_of_getElem? (i := 465) (by decide +kernel), List.mem_of_getElem? (i := 2052) (by decide +kernel), List.mem_of_getElem? (i := 2053) (by decide +kernel)⟩
theorem lw_p72 : lw_okq (⟨"TemplateHouse$Maker", "pourAll", "(Ljava/lang/String;)V"⟩, 21) := ⟨⟨by decide +kernel, by decide +kernel⟩, List.mem_of_getElem? (i := 465) (by decide +kernel), List.mem_of_getElem? (i := 2061) (by decide +kernel), List.mem_of_getElem? (i := 2062) (by decide +kernel)⟩
theorem lw_p73 : lw_okq (⟨"TemplateHouse$Maker", "push", "(I)V"⟩, 21) := ⟨⟨by decide +kernel, by decide +kernel⟩, List.mem_of_getElem? (i := 465) (by decide +kernel), List.mem_of_getElem? (i := 1980) (by decide +kernel), List.mem_of_getElem? (i := 1981) (by decide +kernel)⟩
theorem lw_p74 : lw_okq (⟨"TemplateHouse$Maker", "raw", "()V"⟩, 21) := ⟨⟨by decide +kernel, by decide +kernel⟩, List.mem_of_getElem? (i := 465) (by decide +kernel), List.mem_of_getElem? (i := 2087) (by decide +kernel), List.mem_of_getElem? (i := 2088) (by decide +kernel)⟩
theorem lw_p75 : lw_okq (⟨"TemplateHouse$Maker", "region", "()V"⟩, 21) := ⟨⟨by decide +kernel, by decide +kernel⟩, List.mem_of_getElem? (i := 465) (by decide +kernel), List.mem_of_getElem? (i := 2115) (by decide +kernel), List.mem_of_getElem? (i := 2116) (by decide +kernel)⟩
theorem lw_p76 : lw_okq (⟨"TemplateHouse$Maker", "reversed", "(II)I"⟩, 21) := ⟨⟨by decide +kernel, by decide +kernel⟩, List.mem_of_getElem? (i := 465) (by decide +kernel), List.mem_of_getElem? (i := 2205) (by decide +kernel), List.mem_of_getElem? (i := 2206) (by decide +kernel)⟩
theorem lw_p77 : lw_okq (⟨"TemplateHouse$Maker", "root", "(I)V"⟩, 21) := ⟨⟨by decide +kernel, by decide +kernel⟩, List.mem_of_getElem? (i := 465) (by decide +kernel), List.mem_of_getElem? (i := 1813) (by decide +kernel), List.mem_of_getElem? (i := 1814) (by decide +kernel)⟩
theorem lw_p78 : lw_okq (⟨"TemplateHouse$Maker", "shortcut", "(I)V"⟩, 21) := ⟨⟨by decide +kernel, by decide +kernel⟩, List.mem_of_getElem? (i := 465) (by decide +kernel), List.mem_of_getElem? (i := 2231) (by decide +kernel), List.mem_of_getElem? (i := 2232) (by decide +kernel)⟩
theorem lw_p79 : lw_okq (⟨"TemplateHouse$Maker", "slice", "(III)I"⟩, 21) := ⟨⟨by decide +kernel, by decide +kernel⟩, List.mem_of_getElem? (i := 465) (by decide +kernel), List.mem_of_getElem? (i := 2197) (by decide +kernel), List.mem_of_getElem? (i := 2198) (by decide +kernel)⟩
theorem lw_p80 : lw_okq (⟨"TemplateHouse$Maker", "slot", "()V"⟩, 21) := ⟨⟨by decide +kernel, by decide +kernel⟩, List.mem_of_getElem? (i := 465) (by decide +kernel), List.mem_of_getElem? (i := 2239) (by decide +kernel), List.mem_of_getElem? (i := 2240) (by decide +kernel)⟩
theorem lw_p81 : lw_okq (⟨"TemplateHouse$Maker", "spellIf", "()V"⟩, 21) := ⟨⟨by decide +kernel, by decide +kernel⟩, List.mem_of_getElem? (i := 465) (by decide +kernel), List.mem_of_getElem? (i := 2215) (by decide +kernel), List.mem_of_getElem? (i := 2216) (by decide +kernel)⟩
theorem lw_p82 : lw_okq (⟨"TemplateHouse$Maker", "spellOut", "(I)V"⟩, 21) := ⟨⟨by decide +kernel, by decide +kernel⟩, List.mem_of_getElem? (i := 465) (by decide +kernel), List.mem_of_getElem? (i := 2210) (by decide +kernel), List.mem_of_getElem? (i := 2211) (by decide +kernel)⟩
theorem lw_p83 : lw_okq (⟨"TemplateHouse$Maker", "spread", "(IIIZI)I"⟩, 21) := ⟨⟨by decide +kernel, by decide +kernel⟩, List.mem_of_getElem? (i := 465) (by decide +kernel), List.mem_of_getElem? (i := 1868) (by decide +kernel), List.mem_of_getElem? (i := 1869) (by decide +kernel)⟩
theorem lw_p84 : lw_okq (⟨"TemplateHouse$Maker", "start", "(I)V"⟩, 21) := ⟨⟨by decide +kernel, by decide +kernel⟩, List.mem_of_getElem? (i := 465) (by decide +kernel), List.mem_of_getElem? (i := 1922) (by decide +kernel), List.mem_of_getElem? (i := 1923) (by decide +kernel)⟩
theorem lw_p85 : lw_okq (⟨"TemplateHouse$Maker", "stripped", "(II)I"⟩, 21) := ⟨⟨by decide +kernel, by decide +kernel⟩, List.mem_of_getElem? (i := 465) (by decide +kernel), List.mem_of_getElem? (i := 2201) (by decide +kernel), List.mem_of_getElem? (i := 2202) (by decide +kernel)⟩
theorem lw_p86 : lw_okq (⟨"TemplateHouse$Maker", "tag", "()V"⟩, 21) := ⟨⟨by decide +kernel, by decide +kernel⟩, List.mem_of_getElem? (i := 465) (by decide +kernel), List.mem_of_getElem? (i := 2091) (by decide +kernel), List.mem_of_getElem? (i := 2092) (by decide +kernel)⟩
theorem lw_p87 : lw_okq (⟨"TemplateHouse$Maker", "tell", "(II)V"⟩, 21) := ⟨⟨by decide +kernel, by decide +kernel⟩, List.mem_of_getElem? (i := 465) (by decide +kernel), List.mem_of_getElem? (i := 1929) (by decide +kernel), List.mem_of_getElem? (i := 1930) (by decide +kernel)⟩
theorem lw_p88 : lw_okq (⟨"TemplateHouse$Maker", "templateBy", "(II)I"⟩, 21) := ⟨⟨by decide +kernel, by decide +kernel⟩, List.mem_of_getElem? (i := 465) (by decide +kernel), List.mem_of_getElem? (i := 2148) (by decide +kernel), List.mem_of_getElem? (i := 2149) (by decide +kernel)⟩
theorem lw_p89 : lw_okq (⟨"TemplateHouse$Maker", "textStep", "(I)V"⟩, 21) := ⟨⟨by decide +kernel, by decide +kernel⟩, List.mem_of_getElem? (i := 465) (by decide +kernel), List.mem_of_getElem? (i := 2071) (by decide +kernel), List.mem_of_getElem? (i := 2072) (by decide +kernel)⟩
theorem lw_p90 : lw_okq (⟨"TemplateHouse$Maker", "trimmed", "(I)I"⟩, 21) := ⟨⟨by decide +kernel, by decide +kernel⟩, List.mem_of_getElem? (i := 465) (by decide +kernel), List.mem_of_getElem? (i := 2219) (by decide +kernel), List.mem_of_getElem? (i := 2220) (by decide +kernel)⟩
theorem lw_p91 : lw_okq (⟨"TemplateHouse$Maker", "valueAdded", "(I)I"⟩, 21) := ⟨⟨by decide +kernel, by decide +kernel⟩, List.mem_of_getElem? (i := 465) (by decide +kernel), List.mem_of_getElem? (i := 1831) (by decide +kernel), List.mem_of_getElem? (i := 1832) (by decide +kernel)⟩
theorem lw_p92 : lw_okq (⟨"TemplateHouse$Maker", "valueStep", "(I)V"⟩, 21) := ⟨⟨by decide +kernel, by decide +kernel⟩, List.mem_of_getElem? (i := 465) (by decide +kernel), List.mem_of_getElem? (i := 2123) (by decide +kernel), List.mem_of_getElem? (i := 2124) (by decide +kernel)⟩
theorem lw_p93 : lw_okq (⟨"TemplateHouse$Maker", "wordOver", "()V"⟩, 21) := ⟨⟨by decide +kernel, by decide +kernel⟩, List.mem_of_getElem? (i := 465) (by decide +kernel), List.mem_of_getElem? (i := 1965) (by decide +kernel), List.mem_of_getElem? (i := 1966) (by decide +kernel)⟩
theorem lw_p94 : lw_okq (⟨"TemplateHouse$Maker", "wrapLine", "()V"⟩, 21) := ⟨⟨by decide +kernel, by decide +kernel⟩, List.mem_of_getElem? (i := 465) (by decide +kernel), List.mem_of_getElem? (i := 1984) (by decide +kernel), List.mem_of_getElem? (i := 1985) (by decide +kernel)⟩
theorem lw_p95 : lw_okq (⟨"TemplateHouse$Maker", "write", "(I)V"⟩, 21) := ⟨⟨by decide +kernel, by decide +kernel⟩, List.mem_of_getElem? (i := 465) (by decide +kernel), List.mem_of_getElem? (i := 1908) (by decide +kernel), List.mem_of_getElem? (i := 1909) (by decide +kernel)⟩
theorem lw_p96 : lw_okq (⟨"TemplateHouse$Maker", "writeTag", "()V"⟩, 21) := ⟨⟨by decide +kernel, by decide +kernel⟩, List.mem_of_getElem? (i := 465) (by decide +kernel), List.mem_of_getElem? (i := 2096) (by decide +kernel), List.mem_of_getElem? (i := 2097) (by decide +kernel)⟩
theorem lw_p97 : lw_okq (⟨"TemplateHouse$Maker", "zip", "()V"⟩, 21) := ⟨⟨by decide +kernel, by decide +kernel⟩, List.mem_of_getElem? (i := 465) (by decide +kernel), List.mem_of_getElem? (i := 2269) (by decide +kernel), List.mem_of_getElem? (i := 2270) (by decide +kernel)⟩
theorem lw_p98 : lw_okq (⟨"TemplateHouse$Source", "isBecomes", "()Z"⟩, 12) := ⟨⟨by decide +kernel, by decide +kernel⟩, List.mem_of_getElem? (i := 110) (by decide +kernel), List.mem_of_getElem? (i := 1239) (by decide +kernel), List.mem_of_getElem? (i := 1240) (by decide +kernel)⟩
theorem lw_p99 : lw_okq (⟨"TemplateHouse$TextReader", "applied", "(IZ)V"⟩, 17) := ⟨⟨by decide +kernel, by decide +kernel⟩, List.mem_of_getElem? (i := 325) (by decide +kernel), List.mem_of_getElem? (i := 1528) (by decide +kernel), List.mem_of_getElem? (i := 1529) (by decide +kernel)⟩
theorem lw_p100 : lw_okq (⟨"TemplateHouse$TextReader", "appliedBy", "(III)I"⟩, 17) := ⟨⟨by decide +kernel, by decide +kernel⟩, List.mem_of_getElem? (i := 325) (by decide +kernel), List.mem_of_getElem? (i := 1532) (by decide +kernel), List.mem_of_getElem? (i := 1533) (by decide +kernel)⟩
theorem lw_p101 : lw_okq (⟨"TemplateHouse$TextReader", "appliedOne", "(II)I"⟩, 17) := ⟨⟨by decide +kernel, by decide +kernel⟩, List.mem_of_getElem? (i := 325) (by decide +kernel), List.mem_of_getElem? (i := 1552) (by decide +kernel), List.mem_of_getElem? (i := 1553) (by decide +kernel)⟩
theorem lw_p102 : lw_okq (⟨"TemplateHouse$TextReader", "args", "(I)V"⟩, 17) := ⟨⟨by decide +kernel, by decide +kernel⟩, List.mem_of_getElem? (i := 325) (by decide +kernel), List.mem_of_getElem? (i := 1536) (by decide +kernel), List.mem_of_getElem? (i := 1537) (by decide +kernel)⟩
theorem lw_p103 : lw_okq (⟨"TemplateHouse$TextReader", "argument", "(I)V"⟩, 17) := ⟨⟨by decide +kernel, by decide +kernel⟩, List.mem_of_getElem? (i := 325) (by decide +kernel), List.mem_of_getElem? (i := 1524) (by decide +kernel), List.mem_of_getElem? (i := 1525) (by decide +kernel)⟩
theorem lw_p104 : lw_okq (⟨"TemplateHouse$TextReader", "block", "(IIII)V"⟩, 17) := ⟨⟨by decide +kernel, by decide +kernel⟩, List.mem_of_getElem? (i := 325) (by decide +kernel), List.mem_of_getElem? (i := 1485) (by decide +kernel), List.mem_of_getElem? (i := 1486) (by decide +kernel)⟩
theorem lw_p105 : lw_okq (⟨"TemplateHouse$TextReader", "both", "(I)V"⟩, 17) := ⟨⟨by decide +kernel, by decide +kernel⟩, List.mem_of_getElem? (i := 325) (by decide +kernel), List.mem_of_getElem? (i := 1501) (by decide +kernel), List.mem_of_getElem? (i := 1502) (by decide +kernel)⟩
theorem lw_p106 : lw_okq (⟨"TemplateHouse$TextReader", "branch", "(II)I"⟩, 17) := ⟨⟨by decide +kernel, by decide +kernel⟩, List.mem_of_getElem? (i := 325) (by decide +kernel), List.mem_of_getElem? (i := 1587) (by decide +kernel), List.mem_of_getElem? (i := 1588) (by decide +kernel)⟩
theorem lw_p107 : lw_okq (⟨"TemplateHouse$TextReader", "branchEnd", "(II)I"⟩, 17) := ⟨⟨by decide +kernel, by decide +kernel⟩, List.mem_of_getElem? (i := 325) (by decide +kernel), List.mem_of_getElem? (i := 1591) (by decide +kernel), List.mem_of_getElem? (i := 1592) (by decide +kernel)⟩
theorem lw_p108 : lw_okq (⟨"TemplateHouse$TextReader", "call", "(III)V"⟩, 17) := ⟨⟨by decide +kernel, by decide +kernel⟩, List.mem_of_getElem? (i := 325) (by decide +kernel), List.mem_of_getElem? (i := 1565) (by decide +kernel), List.mem_of_getElem? (i := 1566) (by decide +kernel)⟩
theorem lw_p109 : lw_okq (⟨"TemplateHouse$TextReader", "choice", "(II)V"⟩, 17) := ⟨⟨by decide +kernel, by decide +kernel⟩, List.mem_of_getElem? (i := 325) (by decide +kernel), List.mem_of_getElem? (i := 1489) (by decide +kernel), List.mem_of_getElem? (i := 1490) (by decide +kernel)⟩
theorem lw_p110 : lw_okq (⟨"TemplateHouse$TextReader", "comment", "()V"⟩, 17) := ⟨⟨by decide +kernel, by decide +kernel⟩, List.mem_of_getElem? (i := 325) (by decide +kernel), List.mem_of_getElem? (i := 1417) (by decide +kernel), List.mem_of_getElem? (i := 1418) (by decide +kernel)⟩
theorem lw_p111 : lw_okq (⟨"TemplateHouse$TextReader", "condition", "(I)I"⟩, 17) := ⟨⟨by decide +kernel, by decide +kernel⟩, List.mem_of_getElem? (i := 325) (by decide +kernel), List.mem_of_getElem? (i := 1493) (by decide +kernel), List.mem_of_getElem? (i := 1494) (by decide +kernel)⟩
theorem lw_p112 : lw_okq (⟨"TemplateHouse$TextReader", "dots", "()V"⟩, 17) := ⟨⟨by decide +kernel, by decide +kernel⟩, List.mem_of_getElem? (i := 325) (by decide +kernel), List.mem_of_getElem? (i := 1540) (by decide +kernel), List.mem_of_getElem? (i := 1541) (by decide +kernel)⟩
theorem lw_p113 : lw_okq (⟨"TemplateHouse$TextReader", "either", "(I)V"⟩, 17) := ⟨⟨by decide +kernel, by decide +kernel⟩, List.mem_of_getElem? (i := 325) (by decide +kernel), List.mem_of_getElem? (i := 1497) (by decide +kernel), List.mem_of_getElem? (i := 1498) (by decide +kernel)⟩
theorem lw_p114 : lw_okq (⟨"TemplateHouse$TextReader", "escape", "(I)V"⟩, 17) := ⟨⟨by decide +kernel, by decide +kernel⟩, List.mem_of_getElem? (i := 325) (by decide +kernel), List.mem_of_getElem? (i := 1430) (by decide +kernel), List.mem_of_getElem? (i := 1431) (by decide +kernel)⟩
theorem lw_p115 : lw_okq (⟨"TemplateHouse$TextReader", "expression", "(II)V"⟩, 17) := ⟨⟨by decide +kernel, by decide +kernel⟩, List.mem_of_getElem? (i := 325) (by decide +kernel), List.mem_of_getElem? (i := 1595) (by decide +kernel), List.mem_of_getElem? (i := 1596) (by decide +kernel)⟩
theorem lw_p116 : lw_okq (⟨"TemplateHouse$TextReader", "flush", "()I"⟩, 17) := ⟨⟨by decide +kernel, by decide +kernel⟩, List.mem_of_getElem? (i := 325) (by decide +kernel), List.mem_of_getElem? (i := 1405) (by decide +kernel), List.mem_of_getElem? (i := 1406) (by decide +kernel)⟩
theorem lw_p117 : lw_okq (⟨"TemplateHouse$TextReader", "function", "(II)V"⟩, 17) := ⟨⟨by decide +kernel, by decide +kernel⟩, List.mem_of_getElem? (i := 325) (by decide +kernel), List.mem_of_getElem? (i := 1583) (by decide +kernel), List.mem_of_getElem? (i := 1584) (by decide +kernel)⟩
theorem lw_p118 : lw_okq (⟨"TemplateHouse$TextReader", "isNamedAhead", "()Z"⟩, 17) := ⟨⟨by decide +kernel, by decide +kernel⟩, List.mem_of_getElem? (i := 325) (by decide +kernel), List.mem_of_getElem? (i := 1544) (by decide +kernel), List.mem_of_getElem? (i := 1545) (by decide +kernel)⟩
theorem lw_p119 : lw_okq (⟨"TemplateHouse$TextReader", "isParamsAhead", "()Z"⟩, 17) := ⟨⟨by decide +kernel, by decide +kernel⟩, List.mem_of_getElem? (i := 325) (by decide +kernel), List.mem_of_getElem? (i := 1372) (by decide +kernel), List.mem_of_getElem? (i := 1373) (by decide +kernel)⟩
theorem lw_p120 : lw_okq (⟨"TemplateHouse$TextReader", "items", "(I)V"⟩, 17) := ⟨⟨by decide +kernel, by decide +kernel⟩, List.mem_of_getElem? (i := 325) (by decide +kernel), List.mem_of_getElem? (i := 1520) (by decide +kernel), List.mem_of_getElem? (i := 1521) (by decide +kernel)⟩
theorem lw_p121 : lw_okq (⟨"TemplateHouse$TextReader", "joinLines", "()V"⟩, 17) := ⟨⟨by decide +kernel, by decide +kernel⟩, List.mem_of_getElem? (i := 325) (by decide +kernel), List.mem_of_getElem? (i := 1426) (by decide +kernel), List.mem_of_getElem? (i := 1427) (by decide +kernel)⟩
theorem lw_p122 : lw_okq (⟨"TemplateHouse$TextReader", "literal", "(I)V"⟩, 17) := ⟨⟨by decide +kernel, by decide +kernel⟩, List.mem_of_getElem? (i := 325) (by decide +kernel), List.mem_of_getElem? (i := 1613) (by decide +kernel), List.mem_of_getElem? (i := 1614) (by decide +kernel)⟩
theorem lw_p123 : lw_okq (⟨"TemplateHouse$TextReader", "member", "(I)V"⟩, 17) := ⟨⟨by decide +kernel, by decide +kernel⟩, List.mem_of_getElem? (i := 325) (by decide +kernel), List.mem_of_getElem? (i := 1509) (by decide +kernel), List.mem_of_getElem? (i := 1510) (by decide +kernel)⟩
theorem lw_p124 : lw_okq (⟨"TemplateHouse$TextReader", "namedArg", "(II)I"⟩, 17) := ⟨⟨by decide +kernel, by decide +kernel⟩, List.mem_of_getElem? (i := 325) (by decide +kernel), List.mem_of_getElem? (i := 1548) (by decide +kernel), List.mem_of_getElem? (i := 1549) (by decide +kernel)⟩
theorem lw_p125 : lw_okq (⟨"TemplateHouse$TextReader", "negation", "(I)V"⟩, 17) := ⟨⟨by decide +kernel, by decide +kernel⟩, List.mem_of_getElem? (i := 325) (by decide +kernel), List.mem_of_getElem? (i := 1505) (by decide +kernel), List.mem_of_getElem? (i := 1506) (by decide +kernel)⟩
theorem lw_p126 : lw_okq (⟨"TemplateHouse$TextReader", "option", "(II)V"⟩, 17) := ⟨⟨by decide +kernel, by decide +kernel⟩, List.mem_of_getElem? (i := 325) (by decide +kernel), List.mem_of_getElem? (i := 1609) (by decide +kernel), List.mem_of_getElem? (i := 1610) (by decide +kernel)⟩
theorem lw_p127 : lw_okq (⟨"TemplateHouse$TextReader", "options", "(I)V"⟩, 17) := ⟨⟨by decide +kernel, by decide +kernel⟩, List.mem_of_getElem? (i := 325) (by decide +kernel), List.mem_of_getElem? (i := 1603) (by decide +kernel), List.mem_of_getElem? (i := 1604) (by decide +kernel)⟩
theorem lw_p128 : lw_okq (⟨"TemplateHouse$TextReader", "parenthesis", "(I)V"⟩, 17) := ⟨⟨by decide +kernel, by decide +kernel⟩, List.mem_of_getElem? (i := 325) (by decide +kernel), List.mem_of_getElem? (i := 1573) (by decide +kernel), List.mem_of_getElem? (i := 1574) (by decide +kernel)⟩
theorem lw_p129 : lw_okq (⟨"TemplateHouse$TextReader", "partCall", "(IIII)V"⟩, 17) := ⟨⟨by decide +kernel, by decide +kernel⟩, List.mem_of_getElem? (i := 325) (by decide +kernel), List.mem_of_getElem? (i := 1471) (by decide +kernel), List.mem_of_getElem? (i := 1472) (by decide +kernel)⟩
theorem lw_p130 : lw_okq (⟨"TemplateHouse$TextReader", "plainTag", "(I)V"⟩, 17) := ⟨⟨by decide +kernel, by decide +kernel⟩, List.mem_of_getElem? (i := 325) (by decide +kernel), List.mem_of_getElem? (i := 1413) (by decide +kernel), List.mem_of_getElem? (i := 1414) (by decide +kernel)⟩
theorem lw_p131 : lw_okq (⟨"TemplateHouse$TextReader", "primary", "(I)V"⟩, 17) := ⟨⟨by decide +kernel, by decide +kernel⟩, List.mem_of_getElem? (i := 325) (by decide +kernel), List.mem_of_getElem? (i := 1513) (by decide +kernel), List.mem_of_getElem? (i := 1514) (by decide +kernel)⟩
theorem lw_p132 : lw_okq (⟨"TemplateHouse$TextReader", "region", "(III)I"⟩, 17) := ⟨⟨by decide +kernel, by decide +kernel⟩, List.mem_of_getElem? (i := 325) (by decide +kernel), List.mem_of_getElem? (i := 1439) (by decide +kernel), List.mem_of_getElem? (i := 1440) (by decide +kernel)⟩
theorem lw_p133 : lw_okq (⟨"TemplateHouse$TextReader", "regionEnd", "(II)I"⟩, 17) := ⟨⟨by decide +kernel, by decide +kernel⟩, List.mem_of_getElem? (i := 325) (by decide +kernel), List.mem_of_getElem? (i := 1445) (by decide +kernel), List.mem_of_getElem? (i := 1446) (by decide +kernel)⟩
theorem lw_p134 : lw_okq (⟨"TemplateHouse$TextReader", "restOfLine", "(ZI)V"⟩, 17) := ⟨⟨by decide +kernel, by decide +kernel⟩, List.mem_of_getElem? (i := 325) (by decide +kernel), List.mem_of_getElem? (i := 1422) (by decide +kernel), List.mem_of_getElem? (i := 1423) (by decide +kernel)⟩
theorem lw_p135 : lw_okq (⟨"TemplateHouse$TextReader", "sideBySide", "(II)V"⟩, 17) := ⟨⟨by decide +kernel, by decide +kernel⟩, List.mem_of_getElem? (i := 325) (by decide +kernel), List.mem_of_getElem? (i := 1599) (by decide +kernel), List.mem_of_getElem? (i := 1600) (by decide +kernel)⟩
theorem lw_p136 : lw_okq (⟨"TemplateHouse$TextReader", "sub", "(I)I"⟩, 17) := ⟨⟨by decide +kernel, by decide +kernel⟩, List.mem_of_getElem? (i := 325) (by decide +kernel), List.mem_of_getElem? (i := 1365) (by decide +kernel), List.mem_of_getElem? (i := 1366) (by decide +kernel)⟩
theorem lw_p137 : lw_okq (⟨"TemplateHouse$TextReader", "superCall", "(III)V"⟩, 17) := ⟨⟨by decide +kernel, by decide +kernel⟩, List.mem_of_getElem? (i := 325) (by decide +kernel), List.mem_of_getElem? (i := 1561) (by decide +kernel), List.mem_of_getElem? (i := 1562) (by decide +kernel)⟩
theorem lw_p138 : lw_okq (⟨"TemplateHouse$TextReader", "superRegion", "(III)V"⟩, 17) := ⟨⟨by decide +kernel, by decide +kernel⟩, List.mem_of_getElem? (i := 325) (by decide +kernel), List.mem_of_getElem? (i := 1455) (by decide +kernel), List.mem_of_getElem? (i := 1456) (by decide +kernel)⟩
theorem lw_p139 : lw_okq (⟨"TemplateHouse$TextReader", "tag", "(II)I"⟩, 17) := ⟨⟨by decide +kernel, by decide +kernel⟩, List.mem_of_getElem? (i := 325) (by decide +kernel), List.mem_of_getElem? (i := 1409) (by decide +kernel), List.mem_of_getElem? (i := 1410) (by decide +kernel)⟩
theorem lw_p140 : lw_okq (⟨"TemplateHouse$TextReader", "text", "(II)I"⟩, 17) := ⟨⟨by decide +kernel, by decide +kernel⟩, List.mem_of_getElem? (i := 325) (by decide +kernel), List.mem_of_getElem? (i := 1401) (by decide +kernel), List.mem_of_getElem? (i := 1402) (by decide +kernel)⟩
theorem lw_p141 : lw_okq (⟨"TemplateHouse$TextReader", "wordy", "(I)V"⟩, 17) := ⟨⟨by decide +kernel, by decide +kernel⟩, List.mem_of_getElem? (i := 325) (by decide +kernel), List.mem_of_getElem? (i := 1577) (by decide +kernel), List.mem_of_getElem? (i := 1578) (by decide +kernel)⟩
theorem lw_p142 : lw_okq (⟨"TemplateHouse$Writer", "raw", "(I)V"⟩, 16) := ⟨⟨by decide +kernel, by decide +kernel⟩, List.mem_of_getElem? (i := 572) (by decide +kernel), List.mem_of_getElem? (i := 2002) (by decide +kernel), List.mem_of_getElem? (i := 2003) (by decide +kernel)⟩
theorem lw_p143 : lw_okq (⟨"TemplateHouseModel", "addByte", "(II)V"⟩, 139) := ⟨⟨by decide +kernel, by decide +kernel⟩, List.mem_of_getElem? (i := 2294) (by decide +kernel), List.mem_of_getElem? (i := 3088) (by decide +kernel), List.mem_of_getElem? (i := 3089) (by decide +kernel)⟩
theorem lw_p144 : lw_okq (⟨"TemplateHouseModel", "addedOf", "(I)J"⟩, 139) := ⟨⟨by decide +kernel, by decide +kernel⟩, List.mem_of_getElem? (i := 2294) (by decide +kernel), List.mem_of_getElem? (i := 3444) (by decide +kernel), List.mem_of_getElem? (i := 3445) (by decide +kernel)⟩
theorem lw_p145 : lw_okq (⟨"TemplateHouseModel", "ahead", "(I)I"⟩, 139) := ⟨⟨by decide +kernel, by decide +kernel⟩, List.mem_of_getElem? (i := 2294) (by decide +kernel), List.mem_of_getElem? (i := 2990) (by decide +kernel), List.mem_of_getElem? (i := 2991) (by decide +kernel)⟩
theorem lw_p146 : lw_okq (⟨"TemplateHouseModel", "appliedAt", "(II)I"⟩, 139) := ⟨⟨by decide +kernel, by decide +kernel⟩, List.mem_of_getElem? (i := 2294) (by decide +kernel), List.mem_of_getElem? (i := 3680) (by decide +kernel), List.mem_of_getElem? (i := 3681) (by decide +kernel)⟩
theorem lw_p147 : lw_okq (⟨"TemplateHouseModel", "argument", "(III)I"⟩, 139) := ⟨⟨by decide +kernel, by decide +kernel⟩, List.mem_of_getElem? (i := 2294) (by decide +kernel), List.mem_of_getElem? (i := 3595) (by decide +kernel), List.mem_of_getElem? (i := 3596) (by decide +kernel)⟩
theorem lw_p148 : lw_okq (⟨"TemplateHouseModel", "asOption", "(IIJ)V"⟩, 139) := ⟨⟨by decide +kernel, by decide +kernel⟩, List.mem_of_getElem? (i := 2294) (by decide +kernel), List.mem_of_getElem? (i := 3692) (by decide +kernel), List.mem_of_getElem? (i := 3693) (by decide +kernel)⟩
theorem lw_p149 : lw_okq (⟨"TemplateHouseModel", "asWord", "(J)J"⟩, 139) := ⟨⟨by decide +kernel, by decide +kernel⟩, List.mem_of_getElem? (i := 2294) (by decide +kernel), List.mem_of_getElem? (i := 3575) (by decide +kernel), List.mem_of_getElem? (i := 3576) (by decide +kernel)⟩
theorem lw_p150 : lw_okq (⟨"TemplateHouseModel", "attributeOf", "(II)I"⟩, 139) := ⟨⟨by decide +kernel, by decide +kernel⟩, List.mem_of_getElem? (i := 2294) (by decide +kernel), List.mem_of_getElem? (i := 3522) (by decide +kernel), List.mem_of_getElem? (i := 3523) (by decide +kernel)⟩
theorem lw_p151 : lw_okq (⟨"TemplateHouseModel", "bad", "(II)V"⟩, 139) := ⟨⟨by decide +kernel, by decide +kernel⟩, List.mem_of_getElem? (i := 2294) (by decide +kernel), List.mem_of_getElem? (i := 3001) (by decide +kernel), List.mem_of_getElem? (i := 3002) (by decide +kernel)⟩
theorem lw_p152 : lw_okq (⟨"TemplateHouseModel", "bar", "()I"⟩, 139) := ⟨⟨by decide +kernel, by decide +kernel⟩, List.mem_of_getElem? (i := 2294) (by decide +kernel), List.mem_of_getElem? (i := 3227) (by decide +kernel), List.mem_of_getElem? (i := 3228) (by decide +kernel)⟩
theorem lw_p153 : lw_okq (⟨"TemplateHouseModel", "blanks", "()V"⟩, 139) := ⟨⟨by decide +kernel, by decide +kernel⟩, List.mem_of_getElem? (i := 2294) (by decide +kernel), List.mem_of_getElem? (i := 3120) (by decide +kernel), List.mem_of_getElem? (i := 3121) (by decide +kernel)⟩
theorem lw_p154 : lw_okq (⟨"TemplateHouseModel", "bookValue", "(IJ)J"⟩, 139) := ⟨⟨by decide +kernel, by decide +kernel⟩, List.mem_of_getElem? (i := 2294) (by decide +kernel), List.mem_of_getElem? (i := 3615) (by decide +kernel), List.mem_of_getElem? (i := 3616) (by decide +kernel)⟩
theorem lw_p155 : lw_okq (⟨"TemplateHouseModel", "build", "()I"⟩, 139) := ⟨⟨by decide +kernel, by decide +kernel⟩, List.mem_of_getElem? (i := 2294) (by decide +kernel), List.mem_of_getElem? (i := 3304) (by decide +kernel), List.mem_of_getElem? (i := 3305) (by decide +kernel)⟩
theorem lw_p156 : lw_okq (⟨"TemplateHouseModel", "bytesOf", "(J)V"⟩, 139) := ⟨⟨by decide +kernel, by decide +kernel⟩, List.mem_of_getElem? (i := 2294) (by decide +kernel), List.mem_of_getElem? (i := 3632) (by decide +kernel), List.mem_of_getElem? (i := 3633) (by decide +kernel)⟩
theorem lw_p157 : lw_okq (⟨"TemplateHouseModel", "called", "(I)I"⟩, 139) := ⟨⟨by decide +kernel, by decide +kernel⟩, List.mem_of_getElem? (i := 2294) (by decide +kernel), List.mem_of_getElem? (i := 3355) (by decide +kernel), List.mem_of_getElem? (i := 3356) (by decide +kernel)⟩
theorem lw_p158 : lw_okq (⟨"TemplateHouseModel", "check", "(IIII)V"⟩, 139) := ⟨⟨by decide +kernel, by decide +kernel⟩, List.mem_of_getElem? (i := 2294) (by decide +kernel), List.mem_of_getElem? (i := 3076) (by decide +kernel), List.mem_of_getElem? (i := 3077) (by decide +kernel)⟩
theorem lw_p159 : lw_okq (⟨"TemplateHouseModel", "checkAlias", "(I)V"⟩, 139) := ⟨⟨by decide +kernel, by decide +kernel⟩, List.mem_of_getElem? (i := 2294) (by decide +kernel), List.mem_of_getElem? (i := 3391) (by decide +kernel), List.mem_of_getElem? (i := 3392) (by decide +kernel)⟩
theorem lw_p160 : lw_okq (⟨"TemplateHouseModel", "checkAll", "()V"⟩, 139) := ⟨⟨by decide +kernel, by decide +kernel⟩, List.mem_of_getElem? (i := 2294) (by decide +kernel), List.mem_of_getElem? (i := 3347) (by decide +kernel), List.mem_of_getElem? (i := 3348) (by decide +kernel)⟩
theorem lw_p161 : lw_okq (⟨"TemplateHouseModel", "checkCall", "(II)V"⟩, 139) := ⟨⟨by decide +kernel, by decide +kernel⟩, List.mem_of_getElem? (i := 2294) (by decide +kernel), List.mem_of_getElem? (i := 3351) (by decide +kernel), List.mem_of_getElem? (i := 3352) (by decide +kernel)⟩
theorem lw_p162 : lw_okq (⟨"TemplateHouseModel", "cond", "(II)Z"⟩, 139) := ⟨⟨by decide +kernel, by decide +kernel⟩, List.mem_of_getElem? (i := 2294) (by decide +kernel), List.mem_of_getElem? (i := 3705) (by decide +kernel), List.mem_of_getElem? (i := 3706) (by decide +kernel)⟩
theorem lw_p163 : lw_okq (⟨"TemplateHouseModel", "condition", "()I"⟩, 139) := ⟨⟨by decide +kernel, by decide +kernel⟩, List.mem_of_getElem? (i := 2294) (by decide +kernel), List.mem_of_getElem? (i := 3187) (by decide +kernel), List.mem_of_getElem? (i := 3188) (by decide +kernel)⟩
theorem lw_p164 : lw_okq (⟨"TemplateHouseModel", "count", "(II)V"⟩, 139) := ⟨⟨by decide +kernel, by decide +kernel⟩, List.mem_of_getElem? (i := 2294) (by decide +kernel), List.mem_of_getElem? (i := 3599) (by decide +kernel), List.mem_of_getElem? (i := 3600) (by decide +kernel)⟩
theorem lw_p165 : lw_okq (⟨"TemplateHouseModel", "countList", "(I)V"⟩, 139) := ⟨⟨by decide +kernel, by decide +kernel⟩, List.mem_of_getElem? (i := 2294) (by decide +kernel), List.mem_of_getElem? (i := 3499) (by decide +kernel), List.mem_of_getElem? (i := 3500) (by decide +kernel)⟩
theorem lw_p166 : lw_okq (⟨"TemplateHouseModel", "countOf", "(J)I"⟩, 139) := ⟨⟨by decide +kernel, by decide +kernel⟩, List.mem_of_getElem? (i := 2294) (by decide +kernel), List.mem_of_getElem? (i := 3479) (by decide +kernel), List.mem_of_getElem? (i := 3480) (by decide +kernel)⟩
theorem lw_p167 : lw_okq (⟨"TemplateHouseModel", "counts", "()Z"⟩, 139) := ⟨⟨by decide +kernel, by decide +kernel⟩, List.mem_of_getElem? (i := 2294) (by decide +kernel), List.mem_of_getElem? (i := 3530) (by decide +kernel), List.mem_of_getElem? (i := 3531) (by decide +kernel)⟩
theorem lw_p168 : lw_okq (⟨"TemplateHouseModel", "deeper", "(I)V"⟩, 139) := ⟨⟨by decide +kernel, by decide +kernel⟩, List.mem_of_getElem? (i := 2294) (by decide +kernel), List.mem_of_getElem? (i := 3179) (by decide +kernel), List.mem_of_getElem? (i := 3180) (by decide +kernel)⟩
theorem lw_p169 : lw_okq (⟨"TemplateHouseModel", "defaultOf", "(II)J"⟩, 139) := ⟨⟨by decide +kernel, by decide +kernel⟩, List.mem_of_getElem? (i := 2294) (by decide +kernel), List.mem_of_getElem? (i := 3507) (by decide +kernel), List.mem_of_getElem? (i := 3508) (by decide +kernel)⟩
theorem lw_p170 : lw_okq (⟨"TemplateHouseModel", "delimiter", "()I"⟩, 139) := ⟨⟨by decide +kernel, by decide +kernel⟩, List.mem_of_getElem? (i := 2294) (by decide +kernel), List.mem_of_getElem? (i := 3024) (by decide +kernel), List.mem_of_getElem? (i := 3025) (by decide +kernel)⟩
theorem lw_p171 : lw_okq (⟨"TemplateHouseModel", "dots", "(I)V"⟩, 139) := ⟨⟨by decide +kernel, by decide +kernel⟩, List.mem_of_getElem? (i := 2294) (by decide +kernel), List.mem_of_getElem? (i := 3255) (by decide +kernel), List.mem_of_getElem? (i := 3256) (by decide +kernel)⟩
theorem lw_p172 : lw_okq (⟨"TemplateHouseModel", "element", "(I)I"⟩, 139) := ⟨⟨by decide +kernel, by decide +kernel⟩, List.mem_of_getElem? (i := 2294) (by decide +kernel), List.mem_of_getElem? (i := 3308) (by decide +kernel), List.mem_of_getElem? (i := 3309) (by decide +kernel)⟩
theorem lw_p173 : lw_okq (⟨"TemplateHouseModel", "emit", "(I)V"⟩, 139) := ⟨⟨by decide +kernel, by decide +kernel⟩, List.mem_of_getElem? (i := 2294) (by decide +kernel), List.mem_of_getElem? (i := 3551) (by decide +kernel), List.mem_of_getElem? (i := 3552) (by decide +kernel)⟩
theorem lw_p174 : lw_okq (⟨"TemplateHouseModel", "errorAt", "(II)V"⟩, 139) := ⟨⟨by decide +kernel, by decide +kernel⟩, List.mem_of_getElem? (i := 2294) (by decide +kernel), List.mem_of_getElem? (i := 3429) (by decide +kernel), List.mem_of_getElem? (i := 3430) (by decide +kernel)⟩
theorem lw_p175 : lw_okq (⟨"TemplateHouseModel", "eval", "(II)J"⟩, 139) := ⟨⟨by decide +kernel, by decide +kernel⟩, List.mem_of_getElem? (i := 2294) (by decide +kernel), List.mem_of_getElem? (i := 3567) (by decide +kernel), List.mem_of_getElem? (i := 3568) (by decide +kernel)⟩
theorem lw_p176 : lw_okq (⟨"TemplateHouseModel", "execute", "(IZ)V"⟩, 139) := ⟨⟨by decide +kernel, by decide +kernel⟩, List.mem_of_getElem? (i := 2294) (by decide +kernel), List.mem_of_getElem? (i := 3408) (by decide +kernel), List.mem_of_getElem? (i := 3409) (by decide +kernel)⟩
theorem lw_p177 : lw_okq (⟨"TemplateHouseModel", "fc", "(I)I"⟩, 139) := ⟨⟨by decide +kernel, by decide +kernel⟩, List.mem_of_getElem? (i := 2294) (by decide +kernel), List.mem_of_getElem? (i := 2994) (by decide +kernel), List.mem_of_getElem? (i := 2995) (by decide +kernel)⟩
theorem lw_p178 : lw_okq (⟨"TemplateHouseModel", "fileName", "()I"⟩, 139) := ⟨⟨by decide +kernel, by decide +kernel⟩, List.mem_of_getElem? (i := 2294) (by decide +kernel), List.mem_of_getElem? (i := 3052) (by decide +kernel), List.mem_of_getElem? (i := 3053) (by decide +kernel)⟩
theorem lw_p179 : lw_okq (⟨"TemplateHouseModel", "fileOf", "(I)I"⟩, 139) := ⟨⟨by decide +kernel, by decide +kernel⟩, List.mem_of_getElem? (i := 2294) (by decide +kernel), List.mem_of_getElem? (i := 3359) (by decide +kernel), List.mem_of_getElem? (i := 3360) (by decide +kernel)⟩
theorem lw_p180 : lw_okq (⟨"TemplateHouseModel", "fileString", "()V"⟩, 139) := ⟨⟨by decide +kernel, by decide +kernel⟩, List.mem_of_getElem? (i := 2294) (by decide +kernel), List.mem_of_getElem? (i := 3028) (by decide +kernel), List.mem_of_getElem? (i := 3029) (by decide +kernel)⟩
theorem lw_p181 : lw_okq (⟨"TemplateHouseModel", "find", "(II)J"⟩, 139) := ⟨⟨by decide +kernel, by decide +kernel⟩, List.mem_of_getElem? (i := 2294) (by decide +kernel), List.mem_of_getElem? (i := 3587) (by decide +kernel), List.mem_of_getElem? (i := 3588) (by decide +kernel)⟩
theorem lw_p182 : lw_okq (⟨"TemplateHouseModel", "format", "(I)V"⟩, 139) := ⟨⟨by decide +kernel, by decide +kernel⟩, List.mem_of_getElem? (i := 2294) (by decide +kernel), List.mem_of_getElem? (i := 3715) (by decide +kernel), List.mem_of_getElem? (i := 3716) (by decide +kernel)⟩
theorem lw_p183 : lw_okq (⟨"TemplateHouseModel", "function", "()I"⟩, 139) := ⟨⟨by decide +kernel, by decide +kernel⟩, List.mem_of_getElem? (i := 2294) (by decide +kernel), List.mem_of_getElem? (i := 3146) (by decide +kernel), List.mem_of_getElem? (i := 3147) (by decide +kernel)⟩
theorem lw_p184 : lw_okq (⟨"TemplateHouseModel", "functionOf", "(IJ)J"⟩, 139) := ⟨⟨by decide +kernel, by decide +kernel⟩, List.mem_of_getElem? (i := 2294) (by decide +kernel), List.mem_of_getElem? (i := 3603) (by decide +kernel), List.mem_of_getElem? (i := 3604) (by decide +kernel)⟩
theorem lw_p185 : lw_okq (⟨"TemplateHouseModel", "give", "(IIJ)V"⟩, 139) := ⟨⟨by decide +kernel, by decide +kernel⟩, List.mem_of_getElem? (i := 2294) (by decide +kernel), List.mem_of_getElem? (i := 3515) (by decide +kernel), List.mem_of_getElem? (i := 3516) (by decide +kernel)⟩
theorem lw_p186 : lw_okq (⟨"TemplateHouseModel", "here", "()I"⟩, 139) := ⟨⟨by decide +kernel, by decide +kernel⟩, List.mem_of_getElem? (i := 2294) (by decide +kernel), List.mem_of_getElem? (i := 3100) (by decide +kernel), List.mem_of_getElem? (i := 3101) (by decide +kernel)⟩
theorem lw_p187 : lw_okq (⟨"TemplateHouseModel", "indent", "(I)V"⟩, 139) := ⟨⟨by decide +kernel, by decide +kernel⟩, List.mem_of_getElem? (i := 2294) (by decide +kernel), List.mem_of_getElem? (i := 3701) (by decide +kernel), List.mem_of_getElem? (i := 3702) (by decide +kernel)⟩
theorem lw_p188 : lw_okq (⟨"TemplateHouseModel", "instance", "(III)J"⟩, 139) := ⟨⟨by decide +kernel, by decide +kernel⟩, List.mem_of_getElem? (i := 2294) (by decide +kernel), List.mem_of_getElem? (i := 3421) (by decide +kernel), List.mem_of_getElem? (i := 3422) (by decide +kernel)⟩
theorem lw_p189 : lw_okq (⟨"TemplateHouseModel", "isAdded", "(I)Z"⟩, 139) := ⟨⟨by decide +kernel, by decide +kernel⟩, List.mem_of_getElem? (i := 2294) (by decide +kernel), List.mem_of_getElem? (i := 3440) (by decide +kernel), List.mem_of_getElem? (i := 3441) (by decide +kernel)⟩
theorem lw_p190 : lw_okq (⟨"TemplateHouseModel", "isDots", "()Z"⟩, 139) := ⟨⟨by decide +kernel, by decide +kernel⟩, List.mem_of_getElem? (i := 2294) (by decide +kernel), List.mem_of_getElem? (i := 3251) (by decide +kernel), List.mem_of_getElem? (i := 3252) (by decide +kernel)⟩
theorem lw_p191 : lw_okq (⟨"TemplateHouseModel", "isFileReserved", "()Z"⟩, 139) := ⟨⟨by decide +kernel, by decide +kernel⟩, List.mem_of_getElem? (i := 2294) (by decide +kernel), List.mem_of_getElem? (i := 3056) (by decide +kernel), List.mem_of_getElem? (i := 3057) (by decide +kernel)⟩
theorem lw_p192 : lw_okq (⟨"TemplateHouseModel", "isFileWord", "(Ljava/lang/String;)Z"⟩, 139) := ⟨⟨by decide +kernel, by decide +kernel⟩, List.mem_of_getElem? (i := 2294) (by decide +kernel), List.mem_of_getElem? (i := 3006) (by decide +kernel), List.mem_of_getElem? (i := 3007) (by decide +kernel)⟩
theorem lw_p193 : lw_okq (⟨"TemplateHouseModel", "isLineTag", "(I)Z"⟩, 139) := ⟨⟨by decide +kernel, by decide +kernel⟩, List.mem_of_getElem? (i := 2294) (by decide +kernel), List.mem_of_getElem? (i := 3296) (by decide +kernel), List.mem_of_getElem? (i := 3297) (by decide +kernel)⟩
theorem lw_p194 : lw_okq (⟨"TemplateHouseModel", "isMade", "()Z"⟩, 139) := ⟨⟨by decide +kernel, by decide +kernel⟩, List.mem_of_getElem? (i := 2294) (by decide +kernel), List.mem_of_getElem? (i := 2894) (by decide +kernel), List.mem_of_getElem? (i := 2895) (by decide +kernel)⟩
theorem lw_p195 : lw_okq (⟨"TemplateHouseModel", "isMany", "(J)Z"⟩, 139) := ⟨⟨by decide +kernel, by decide +kernel⟩, List.mem_of_getElem? (i := 2294) (by decide +kernel), List.mem_of_getElem? (i := 3483) (by decide +kernel), List.mem_of_getElem? (i := 3484) (by decide +kernel)⟩
theorem lw_p196 : lw_okq (⟨"TemplateHouseModel", "isNamed", "()Z"⟩, 139) := ⟨⟨by decide +kernel, by decide +kernel⟩, List.mem_of_getElem? (i := 2294) (by decide +kernel), List.mem_of_getElem? (i := 3259) (by decide +kernel), List.mem_of_getElem? (i := 3260) (by decide +kernel)⟩
theorem lw_p197 : lw_okq (⟨"TemplateHouseModel", "isNext", "(I)Z"⟩, 139) := ⟨⟨by decide +kernel, by decide +kernel⟩, List.mem_of_getElem? (i := 2294) (by decide +kernel), List.mem_of_getElem? (i := 3324) (by decide +kernel), List.mem_of_getElem? (i := 3325) (by decide +kernel)⟩
theorem lw_p198 : lw_okq (⟨"TemplateHouseModel", "isOpen", "(II)Z"⟩, 139) := ⟨⟨by decide +kernel, by decide +kernel⟩, List.mem_of_getElem? (i := 2294) (by decide +kernel), List.mem_of_getElem? (i := 3133) (by decide +kernel), List.mem_of_getElem? (i := 3134) (by decide +kernel)⟩
theorem lw_p199 : lw_okq (⟨"TemplateHouseModel", "isPlain", "([BII)Z"⟩, 139) := ⟨⟨by decide +kernel, by decide +kernel⟩, List.mem_of_getElem? (i := 2294) (by decide +kernel), List.mem_of_getElem? (i := 3658) (by decide +kernel), List.mem_of_getElem? (i := 3659) (by decide +kernel)⟩
theorem lw_p200 : lw_okq (⟨"TemplateHouseModel", "isPlainText", "(Ljava/lang/String;)Z"⟩, 139) := ⟨⟨by decide +kernel, by decide +kernel⟩, List.mem_of_getElem? (i := 2294) (by decide +kernel), List.mem_of_getElem? (i := 3663) (by decide +kernel), List.mem_of_getElem? (i := 3664) (by decide +kernel)⟩
theorem lw_p201 : lw_okq (⟨"TemplateHouseModel", "isReserved", "()Z"⟩, 139) := ⟨⟨by decide +kernel, by decide +kernel⟩, List.mem_of_getElem? (i := 2294) (by decide +kernel), List.mem_of_getElem? (i := 3142) (by decide +kernel), List.mem_of_getElem? (i := 3143) (by decide +kernel)⟩
theorem lw_p202 : lw_okq (⟨"TemplateHouseModel", "isSameKey", "(I)Z"⟩, 139) := ⟨⟨by decide +kernel, by decide +kernel⟩, List.mem_of_getElem? (i := 2294) (by decide +kernel), List.mem_of_getElem? (i := 3343) (by decide +kernel), List.mem_of_getElem? (i := 3344) (by decide +kernel)⟩
theorem lw_p203 : lw_okq (⟨"TemplateHouseModel", "isSpace", "(I)Z"⟩, 139) := ⟨⟨by decide +kernel, by decide +kernel⟩, List.mem_of_getElem? (i := 2294) (by decide +kernel), List.mem_of_getElem? (i := 3300) (by decide +kernel), List.mem_of_getElem? (i := 3301) (by decide +kernel)⟩
theorem lw_p204 : lw_okq (⟨"TemplateHouseModel", "isSteering", "()Z"⟩, 139) := ⟨⟨by decide +kernel, by decide +kernel⟩, List.mem_of_getElem? (i := 2294) (by decide +kernel), List.mem_of_getElem? (i := 3159) (by decide +kernel), List.mem_of_getElem? (i := 3160) (by decide +kernel)⟩
theorem lw_p205 : lw_okq (⟨"TemplateHouseModel", "isTape", "(II)Z"⟩, 139) := ⟨⟨by decide +kernel, by decide +kernel⟩, List.mem_of_getElem? (i := 2294) (by decide +kernel), List.mem_of_getElem? (i := 2938) (by decide +kernel), List.mem_of_getElem? (i := 2939) (by decide +kernel)⟩
theorem lw_p206 : lw_okq (⟨"TemplateHouseModel", "isTold", "(JI)Z"⟩, 139) := ⟨⟨by decide +kernel, by decide +kernel⟩, List.mem_of_getElem? (i := 2294) (by decide +kernel), List.mem_of_getElem? (i := 3451) (by decide +kernel), List.mem_of_getElem? (i := 3452) (by decide +kernel)⟩
theorem lw_p207 : lw_okq (⟨"TemplateHouseModel", "isTrue", "(J)Z"⟩, 139) := ⟨⟨by decide +kernel, by decide +kernel⟩, List.mem_of_getElem? (i := 2294) (by decide +kernel), List.mem_of_getElem? (i := 3688) (by decide +kernel), List.mem_of_getElem? (i := 3689) (by decide +kernel)⟩
theorem lw_p208 : lw_okq (⟨"TemplateHouseModel", "isTwice", "(I)Z"⟩, 139) := ⟨⟨by decide +kernel, by decide +kernel⟩, List.mem_of_getElem? (i := 2294) (by decide +kernel), List.mem_of_getElem? (i := 3271) (by decide +kernel), List.mem_of_getElem? (i := 3272) (by decide +kernel)⟩
theorem lw_p209 : lw_okq (⟨"TemplateHouseModel", "isValue", "(II)Z"⟩, 139) := ⟨⟨by decide +kernel, by decide +kernel⟩, List.mem_of_getElem? (i := 2294) (by decide +kernel), List.mem_of_getElem? (i := 2926) (by decide +kernel), List.mem_of_getElem? (i := 2927) (by decide +kernel)⟩
theorem lw_p210 : lw_okq (⟨"TemplateHouseModel", "isWord", "(Ljava/lang/String;)Z"⟩, 139) := ⟨⟨by decide +kernel, by decide +kernel⟩, List.mem_of_getElem? (i := 2294) (by decide +kernel), List.mem_of_getElem? (i := 3129) (by decide +kernel), List.mem_of_getElem? (i := 3130) (by decide +kernel)⟩
theorem lw_p211 : lw_okq (⟨"TemplateHouseModel", "item", "(JI)J"⟩, 139) := ⟨⟨by decide +kernel, by decide +kernel⟩, List.mem_of_getElem? (i := 2294) (by decide +kernel), List.mem_of_getElem? (i := 3491) (by decide +kernel), List.mem_of_getElem? (i := 3492) (by decide +kernel)⟩
theorem lw_p212 : lw_okq (⟨"TemplateHouseModel", "keep", "([BII)V"⟩, 139) := ⟨⟨by decide +kernel, by decide +kernel⟩, List.mem_of_getElem? (i := 2294) (by decide +kernel), List.mem_of_getElem? (i := 3219) (by decide +kernel), List.mem_of_getElem? (i := 3220) (by decide +kernel)⟩
theorem lw_p213 : lw_okq (⟨"TemplateHouseModel", "keepString", "([BIII)I"⟩, 139) := ⟨⟨by decide +kernel, by decide +kernel⟩, List.mem_of_getElem? (i := 2294) (by decide +kernel), List.mem_of_getElem? (i := 3215) (by decide +kernel), List.mem_of_getElem? (i := 3216) (by decide +kernel)⟩
theorem lw_p214 : lw_okq (⟨"TemplateHouseModel", "keepTape", "()I"⟩, 139) := ⟨⟨by decide +kernel, by decide +kernel⟩, List.mem_of_getElem? (i := 2294) (by decide +kernel), List.mem_of_getElem? (i := 2942) (by decide +kernel), List.mem_of_getElem? (i := 2943) (by decide +kernel)⟩
theorem lw_p215 : lw_okq (⟨"TemplateHouseModel", "keptList", "(I)J"⟩, 139) := ⟨⟨by decide +kernel, by decide +kernel⟩, List.mem_of_getElem? (i := 2294) (by decide +kernel), List.mem_of_getElem? (i := 3503) (by decide +kernel), List.mem_of_getElem? (i := 3504) (by decide +kernel)⟩
theorem lw_p216 : lw_okq (⟨"TemplateHouseModel", "keyed", "(JJI)J"⟩, 139) := ⟨⟨by decide +kernel, by decide +kernel⟩, List.mem_of_getElem? (i := 2294) (by decide +kernel), List.mem_of_getElem? (i := 3624) (by decide +kernel), List.mem_of_getElem? (i := 3625) (by decide +kernel)⟩
theorem lw_p217 : lw_okq (⟨"TemplateHouseModel", "lead", "()V"⟩, 139) := ⟨⟨by decide +kernel, by decide +kernel⟩, List.mem_of_getElem? (i := 2294) (by decide +kernel), List.mem_of_getElem? (i := 3555) (by decide +kernel), List.mem_of_getElem? (i := 3556) (by decide +kernel)⟩
theorem lw_p218 : lw_okq (⟨"TemplateHouseModel", "line", "(II)V"⟩, 139) := ⟨⟨by decide +kernel, by decide +kernel⟩, List.mem_of_getElem? (i := 2294) (by decide +kernel), List.mem_of_getElem? (i := 3292) (by decide +kernel), List.mem_of_getElem? (i := 3293) (by decide +kernel)⟩
theorem lw_p219 : lw_okq (⟨"TemplateHouseModel", "lines", "(I)V"⟩, 139) := ⟨⟨by decide +kernel, by decide +kernel⟩, List.mem_of_getElem? (i := 2294) (by decide +kernel), List.mem_of_getElem? (i := 3288) (by decide +kernel), List.mem_of_getElem? (i := 3289) (by decide +kernel)⟩
theorem lw_p220 : lw_okq (⟨"TemplateHouseModel", "listFrom", "(I)J"⟩, 139) := ⟨⟨by decide +kernel, by decide +kernel⟩, List.mem_of_getElem? (i := 2294) (by decide +kernel), List.mem_of_getElem? (i := 3495) (by decide +kernel), List.mem_of_getElem? (i := 3496) (by decide +kernel)⟩
theorem lw_p221 : lw_okq (⟨"TemplateHouseModel", "looksAt", "(II)V"⟩, 139) := ⟨⟨by decide +kernel, by decide +kernel⟩, List.mem_of_getElem? (i := 2294) (by decide +kernel), List.mem_of_getElem? (i := 3650) (by decide +kernel), List.mem_of_getElem? (i := 3651) (by decide +kernel)⟩
theorem lw_p222 : lw_okq (⟨"TemplateHouseModel", "lowest", "()I"⟩, 139) := ⟨⟨by decide +kernel, by decide +kernel⟩, List.mem_of_getElem? (i := 2294) (by decide +kernel), List.mem_of_getElem? (i := 3239) (by decide +kernel), List.mem_of_getElem? (i := 3240) (by decide +kernel)⟩
theorem lw_p223 : lw_okq (⟨"TemplateHouseModel", "made", "(IIIJII)J"⟩, 139) := ⟨⟨by decide +kernel, by decide +kernel⟩, List.mem_of_getElem? (i := 2294) (by decide +kernel), List.mem_of_getElem? (i := 3591) (by decide +kernel), List.mem_of_getElem? (i := 3592) (by decide +kernel)⟩
theorem lw_p224 : lw_okq (⟨"TemplateHouseModel", "mayHave", "(II)Z"⟩, 139) := ⟨⟨by decide +kernel, by decide +kernel⟩, List.mem_of_getElem? (i := 2294) (by decide +kernel), List.mem_of_getElem? (i := 2930) (by decide +kernel), List.mem_of_getElem? (i := 2931) (by decide +kernel)⟩
theorem lw_p225 : lw_okq (⟨"TemplateHouseModel", "named", "(IJ)I"⟩, 139) := ⟨⟨by decide +kernel, by decide +kernel⟩, List.mem_of_getElem? (i := 2294) (by decide +kernel), List.mem_of_getElem? (i := 3571) (by decide +kernel), List.mem_of_getElem? (i := 3572) (by decide +kernel)⟩
theorem lw_p226 : lw_okq (⟨"TemplateHouseModel", "need", "(I)V"⟩, 139) := ⟨⟨by decide +kernel, by decide +kernel⟩, List.mem_of_getElem? (i := 2294) (by decide +kernel), List.mem_of_getElem? (i := 3137) (by decide +kernel), List.mem_of_getElem? (i := 3138) (by decide +kernel)⟩
theorem lw_p227 : lw_okq (⟨"TemplateHouseModel", "newValue", "(II)I"⟩, 139) := ⟨⟨by decide +kernel, by decide +kernel⟩, List.mem_of_getElem? (i := 2294) (by decide +kernel), List.mem_of_getElem? (i := 2890) (by decide +kernel), List.mem_of_getElem? (i := 2891) (by decide +kernel)⟩
theorem lw_p228 : lw_okq (⟨"TemplateHouseModel", "node", "(IIII)I"⟩, 139) := ⟨⟨by decide +kernel, by decide +kernel⟩, List.mem_of_getElem? (i := 2294) (by decide +kernel), List.mem_of_getElem? (i := 3171) (by decide +kernel), List.mem_of_getElem? (i := 3172) (by decide +kernel)⟩
theorem lw_p229 : lw_okq (⟨"TemplateHouseModel", "note", "(III)V"⟩, 139) := ⟨⟨by decide +kernel, by decide +kernel⟩, List.mem_of_getElem? (i := 2294) (by decide +kernel), List.mem_of_getElem? (i := 3112) (by decide +kernel), List.mem_of_getElem? (i := 3113) (by decide +kernel)⟩
theorem lw_p230 : lw_okq (⟨"TemplateHouseModel", "ofBean", "(II)J"⟩, 139) := ⟨⟨by decide +kernel, by decide +kernel⟩, List.mem_of_getElem? (i := 2294) (by decide +kernel), List.mem_of_getElem? (i := 3672) (by decide +kernel), List.mem_of_getElem? (i := 3673) (by decide +kernel)⟩
theorem lw_p231 : lw_okq (⟨"TemplateHouseModel", "ofBook", "(IJ)J"⟩, 139) := ⟨⟨by decide +kernel, by decide +kernel⟩, List.mem_of_getElem? (i := 2294) (by decide +kernel), List.mem_of_getElem? (i := 3668) (by decide +kernel), List.mem_of_getElem? (i := 3669) (by decide +kernel)⟩
theorem lw_p232 : lw_okq (⟨"TemplateHouseModel", "ofMap", "(I)J"⟩, 139) := ⟨⟨by decide +kernel, by decide +kernel⟩, List.mem_of_getElem? (i := 2294) (by decide +kernel), List.mem_of_getElem? (i := 3654) (by decide +kernel), List.mem_of_getElem? (i := 3655) (by decide +kernel)⟩
theorem lw_p233 : lw_okq (⟨"TemplateHouseModel", "ofSub", "(IJII)J"⟩, 139) := ⟨⟨by decide +kernel, by decide +kernel⟩, List.mem_of_getElem? (i := 2294) (by decide +kernel), List.mem_of_getElem? (i := 3684) (by decide +kernel), List.mem_of_getElem? (i := 3685) (by decide +kernel)⟩
theorem lw_p234 : lw_okq (⟨"TemplateHouseModel", "oneByOne", "(J)I"⟩, 139) := ⟨⟨by decide +kernel, by decide +kernel⟩, List.mem_of_getElem? (i := 2294) (by decide +kernel), List.mem_of_getElem? (i := 3611) (by decide +kernel), List.mem_of_getElem? (i := 3612) (by decide +kernel)⟩
theorem lw_p235 : lw_okq (⟨"TemplateHouseModel", "openFrame", "(J)V"⟩, 139) := ⟨⟨by decide +kernel, by decide +kernel⟩, List.mem_of_getElem? (i := 2294) (by decide +kernel), List.mem_of_getElem? (i := 3740) (by decide +kernel), List.mem_of_getElem? (i := 3741) (by decide +kernel)⟩
theorem lw_p236 : lw_okq (⟨"TemplateHouseModel", "over", "()V"⟩, 139) := ⟨⟨by decide +kernel, by decide +kernel⟩, List.mem_of_getElem? (i := 2294) (by decide +kernel), List.mem_of_getElem? (i := 3425) (by decide +kernel), List.mem_of_getElem? (i := 3426) (by decide +kernel)⟩
theorem lw_p237 : lw_okq (⟨"TemplateHouseModel", "packed", "(II)V"⟩, 139) := ⟨⟨by decide +kernel, by decide +kernel⟩, List.mem_of_getElem? (i := 2294) (by decide +kernel), List.mem_of_getElem? (i := 3084) (by decide +kernel), List.mem_of_getElem? (i := 3085) (by decide +kernel)⟩
theorem lw_p238 : lw_okq (⟨"TemplateHouseModel", "paramOf", "(II)I"⟩, 139) := ⟨⟨by decide +kernel, by decide +kernel⟩, List.mem_of_getElem? (i := 2294) (by decide +kernel), List.mem_of_getElem? (i := 3376) (by decide +kernel), List.mem_of_getElem? (i := 3377) (by decide +kernel)⟩
theorem lw_p239 : lw_okq (⟨"TemplateHouseModel", "place", "()I"⟩, 139) := ⟨⟨by decide +kernel, by decide +kernel⟩, List.mem_of_getElem? (i := 2294) (by decide +kernel), List.mem_of_getElem? (i := 3104) (by decide +kernel), List.mem_of_getElem? (i := 3105) (by decide +kernel)⟩
theorem lw_p240 : lw_okq (⟨"TemplateHouseModel", "plainNumber", "(J)V"⟩, 139) := ⟨⟨by decide +kernel, by decide +kernel⟩, List.mem_of_getElem? (i := 2294) (by decide +kernel), List.mem_of_getElem? (i := 3640) (by decide +kernel), List.mem_of_getElem? (i := 3641) (by decide +kernel)⟩
theorem lw_p241 : lw_okq (⟨"TemplateHouseModel", "plainOf", "([BII)V"⟩, 139) := ⟨⟨by decide +kernel, by decide +kernel⟩, List.mem_of_getElem? (i := 2294) (by decide +kernel), List.mem_of_getElem? (i := 3646) (by decide +kernel), List.mem_of_getElem? (i := 3647) (by decide +kernel)⟩
theorem lw_p242 : lw_okq (⟨"TemplateHouseModel", "plainText", "(Ljava/lang/String;)V"⟩, 139) := ⟨⟨by decide +kernel, by decide +kernel⟩, List.mem_of_getElem? (i := 2294) (by decide +kernel), List.mem_of_getElem? (i := 3636) (by decide +kernel), List.mem_of_getElem? (i := 3637) (by decide +kernel)⟩
theorem lw_p243 : lw_okq (⟨"TemplateHouseModel", "primary", "(IIJII)J"⟩, 139) := ⟨⟨by decide +kernel, by decide +kernel⟩, List.mem_of_getElem? (i := 2294) (by decide +kernel), List.mem_of_getElem? (i := 3579) (by decide +kernel), List.mem_of_getElem? (i := 3580) (by decide +kernel)⟩
theorem lw_p244 : lw_okq (⟨"TemplateHouseModel", "property", "(JJI)J"⟩, 139) := ⟨⟨by decide +kernel, by decide +kernel⟩, List.mem_of_getElem? (i := 2294) (by decide +kernel), List.mem_of_getElem? (i := 3628) (by decide +kernel), List.mem_of_getElem? (i := 3629) (by decide +kernel)⟩
theorem lw_p245 : lw_okq (⟨"TemplateHouseModel", "push", "(J)V"⟩, 139) := ⟨⟨by decide +kernel, by decide +kernel⟩, List.mem_of_getElem? (i := 2294) (by decide +kernel), List.mem_of_getElem? (i := 3461) (by decide +kernel), List.mem_of_getElem? (i := 3462) (by decide +kernel)⟩
theorem lw_p246 : lw_okq (⟨"TemplateHouseModel", "put", "(I)V"⟩, 139) := ⟨⟨by decide +kernel, by decide +kernel⟩, List.mem_of_getElem? (i := 2294) (by decide +kernel), List.mem_of_getElem? (i := 3547) (by decide +kernel), List.mem_of_getElem? (i := 3548) (by decide +kernel)⟩
theorem lw_p247 : lw_okq (⟨"TemplateHouseModel", "readApplied", "()I"⟩, 139) := ⟨⟨by decide +kernel, by decide +kernel⟩, List.mem_of_getElem? (i := 2294) (by decide +kernel), List.mem_of_getElem? (i := 3243) (by decide +kernel), List.mem_of_getElem? (i := 3244) (by decide +kernel)⟩
theorem lw_p248 : lw_okq (⟨"TemplateHouseModel", "readArg", "()I"⟩, 139) := ⟨⟨by decide +kernel, by decide +kernel⟩, List.mem_of_getElem? (i := 2294) (by decide +kernel), List.mem_of_getElem? (i := 3235) (by decide +kernel), List.mem_of_getElem? (i := 3236) (by decide +kernel)⟩
theorem lw_p249 : lw_okq (⟨"TemplateHouseModel", "readArgs", "(I)V"⟩, 139) := ⟨⟨by decide +kernel, by decide +kernel⟩, List.mem_of_getElem? (i := 2294) (by decide +kernel), List.mem_of_getElem? (i := 3247) (by decide +kernel), List.mem_of_getElem? (i := 3248) (by decide +kernel)⟩
theorem lw_p250 : lw_okq (⟨"TemplateHouseModel", "readAt", "(II)V"⟩, 139) := ⟨⟨by decide +kernel, by decide +kernel⟩, List.mem_of_getElem? (i := 2294) (by decide +kernel), List.mem_of_getElem? (i := 3124) (by decide +kernel), List.mem_of_getElem? (i := 3125) (by decide +kernel)⟩
theorem lw_p251 : lw_okq (⟨"TemplateHouseModel", "readBody", "()I"⟩, 139) := ⟨⟨by decide +kernel, by decide +kernel⟩, List.mem_of_getElem? (i := 2294) (by decide +kernel), List.mem_of_getElem? (i := 3080) (by decide +kernel), List.mem_of_getElem? (i := 3081) (by decide +kernel)⟩
theorem lw_p252 : lw_okq (⟨"TemplateHouseModel", "readBoth", "()I"⟩, 139) := ⟨⟨by decide +kernel, by decide +kernel⟩, List.mem_of_getElem? (i := 2294) (by decide +kernel), List.mem_of_getElem? (i := 3195) (by decide +kernel), List.mem_of_getElem? (i := 3196) (by decide +kernel)⟩
theorem lw_p253 : lw_okq (⟨"TemplateHouseModel", "readBytes", "(I)V"⟩, 139) := ⟨⟨by decide +kernel, by decide +kernel⟩, List.mem_of_getElem? (i := 2294) (by decide +kernel), List.mem_of_getElem? (i := 3116) (by decide +kernel), List.mem_of_getElem? (i := 3117) (by decide +kernel)⟩
theorem lw_p254 : lw_okq (⟨"TemplateHouseModel", "readCall", "(IZ)I"⟩, 139) := ⟨⟨by decide +kernel, by decide +kernel⟩, List.mem_of_getElem? (i := 2294) (by decide +kernel), List.mem_of_getElem? (i := 3267) (by decide +kernel), List.mem_of_getElem? (i := 3268) (by decide +kernel)⟩
theorem lw_p255 : lw_okq (⟨"TemplateHouseModel", "readCond", "()I"⟩, 139) := ⟨⟨by decide +kernel, by decide +kernel⟩, List.mem_of_getElem? (i := 2294) (by decide +kernel), List.mem_of_getElem? (i := 3191) (by decide +kernel), List.mem_of_getElem? (i := 3192) (by decide +kernel)⟩
theorem lw_p256 : lw_okq (⟨"TemplateHouseModel", "readDefinition", "()V"⟩, 139) := ⟨⟨by decide +kernel, by decide +kernel⟩, List.mem_of_getElem? (i := 2294) (by decide +kernel), List.mem_of_getElem? (i := 3044) (by decide +kernel), List.mem_of_getElem? (i := 3045) (by decide +kernel)⟩
theorem lw_p257 : lw_okq (⟨"TemplateHouseModel", "readDictionary", "(I)V"⟩, 139) := ⟨⟨by decide +kernel, by decide +kernel⟩, List.mem_of_getElem? (i := 2294) (by decide +kernel), List.mem_of_getElem? (i := 3338) (by decide +kernel), List.mem_of_getElem? (i := 3339) (by decide +kernel)⟩
theorem lw_p258 : lw_okq (⟨"TemplateHouseModel", "readExpr", "(I)V"⟩, 139) := ⟨⟨by decide +kernel, by decide +kernel⟩, List.mem_of_getElem? (i := 2294) (by decide +kernel), List.mem_of_getElem? (i := 3275) (by decide +kernel), List.mem_of_getElem? (i := 3276) (by decide +kernel)⟩
theorem lw_p259 : lw_okq (⟨"TemplateHouseModel", "readFile", "(I)V"⟩, 139) := ⟨⟨by decide +kernel, by decide +kernel⟩, List.mem_of_getElem? (i := 2294) (by decide +kernel), List.mem_of_getElem? (i := 2982) (by decide +kernel), List.mem_of_getElem? (i := 2983) (by decide +kernel)⟩
theorem lw_p260 : lw_okq (⟨"TemplateHouseModel", "readFileSub", "()I"⟩, 139) := ⟨⟨by decide +kernel, by decide +kernel⟩, List.mem_of_getElem? (i := 2294) (by decide +kernel), List.mem_of_getElem? (i := 3333) (by decide +kernel), List.mem_of_getElem? (i := 3334) (by decide +kernel)⟩
theorem lw_p261 : lw_okq (⟨"TemplateHouseModel", "readImport", "()V"⟩, 139) := ⟨⟨by decide +kernel, by decide +kernel⟩, List.mem_of_getElem? (i := 2294) (by decide +kernel), List.mem_of_getElem? (i := 3040) (by decide +kernel), List.mem_of_getElem? (i := 3041) (by decide +kernel)⟩
theorem lw_p262 : lw_okq (⟨"TemplateHouseModel", "readMember", "()I"⟩, 139) := ⟨⟨by decide +kernel, by decide +kernel⟩, List.mem_of_getElem? (i := 2294) (by decide +kernel), List.mem_of_getElem? (i := 3203) (by decide +kernel), List.mem_of_getElem? (i := 3204) (by decide +kernel)⟩
theorem lw_p263 : lw_okq (⟨"TemplateHouseModel", "readNamed", "(I)I"⟩, 139) := ⟨⟨by decide +kernel, by decide +kernel⟩, List.mem_of_getElem? (i := 2294) (by decide +kernel), List.mem_of_getElem? (i := 3263) (by decide +kernel), List.mem_of_getElem? (i := 3264) (by decide +kernel)⟩
theorem lw_p264 : lw_okq (⟨"TemplateHouseModel", "readNot", "()I"⟩, 139) := ⟨⟨by decide +kernel, by decide +kernel⟩, List.mem_of_getElem? (i := 2294) (by decide +kernel), List.mem_of_getElem? (i := 3199) (by decide +kernel), List.mem_of_getElem? (i := 3200) (by decide +kernel)⟩
theorem lw_p265 : lw_okq (⟨"TemplateHouseModel", "readOptions", "(I)V"⟩, 139) := ⟨⟨by decide +kernel, by decide +kernel⟩, List.mem_of_getElem? (i := 2294) (by decide +kernel), List.mem_of_getElem? (i := 3279) (by decide +kernel), List.mem_of_getElem? (i := 3280) (by decide +kernel)⟩
theorem lw_p266 : lw_okq (⟨"TemplateHouseModel", "readParams", "(I)V"⟩, 139) := ⟨⟨by decide +kernel, by decide +kernel⟩, List.mem_of_getElem? (i := 2294) (by decide +kernel), List.mem_of_getElem? (i := 3320) (by decide +kernel), List.mem_of_getElem? (i := 3321) (by decide +kernel)⟩
theorem lw_p267 : lw_okq (⟨"TemplateHouseModel", "readPrimary", "()I"⟩, 139) := ⟨⟨by decide +kernel, by decide +kernel⟩, List.mem_of_getElem? (i := 2294) (by decide +kernel), List.mem_of_getElem? (i := 3207) (by decide +kernel), List.mem_of_getElem? (i := 3208) (by decide +kernel)⟩
theorem lw_p268 : lw_okq (⟨"TemplateHouseModel", "readRegion", "(I)V"⟩, 139) := ⟨⟨by decide +kernel, by decide +kernel⟩, List.mem_of_getElem? (i := 2294) (by decide +kernel), List.mem_of_getElem? (i := 3048) (by decide +kernel), List.mem_of_getElem? (i := 3049) (by decide +kernel)⟩
theorem lw_p269 : lw_okq (⟨"TemplateHouseModel", "readRow", "()I"⟩, 139) := ⟨⟨by decide +kernel, by decide +kernel⟩, List.mem_of_getElem? (i := 2294) (by decide +kernel), List.mem_of_getElem? (i := 3231) (by decide +kernel), List.mem_of_getElem? (i := 3232) (by decide +kernel)⟩
theorem lw_p270 : lw_okq (⟨"TemplateHouseModel", "readSteering", "(II)V"⟩, 139) := ⟨⟨by decide +kernel, by decide +kernel⟩, List.mem_of_getElem? (i := 2294) (by decide +kernel), List.mem_of_getElem? (i := 3183) (by decide +kernel), List.mem_of_getElem? (i := 3184) (by decide +kernel)⟩
theorem lw_p271 : lw_okq (⟨"TemplateHouseModel", "readString", "(I)I"⟩, 139) := ⟨⟨by decide +kernel, by decide +kernel⟩, List.mem_of_getElem? (i := 2294) (by decide +kernel), List.mem_of_getElem? (i := 3211) (by decide +kernel), List.mem_of_getElem? (i := 3212) (by decide +kernel)⟩
theorem lw_p272 : lw_okq (⟨"TemplateHouseModel", "readSub", "()I"⟩, 139) := ⟨⟨by decide +kernel, by decide +kernel⟩, List.mem_of_getElem? (i := 2294) (by decide +kernel), List.mem_of_getElem? (i := 3223) (by decide +kernel), List.mem_of_getElem? (i := 3224) (by decide +kernel)⟩
theorem lw_p273 : lw_okq (⟨"TemplateHouseModel", "readTag", "(I)V"⟩, 139) := ⟨⟨by decide +kernel, by decide +kernel⟩, List.mem_of_getElem? (i := 2294) (by decide +kernel), List.mem_of_getElem? (i := 3108) (by decide +kernel), List.mem_of_getElem? (i := 3109) (by decide +kernel)⟩
theorem lw_p274 : lw_okq (⟨"TemplateHouseModel", "readText", "(Z)I"⟩, 139) := ⟨⟨by decide +kernel, by decide +kernel⟩, List.mem_of_getElem? (i := 2294) (by decide +kernel), List.mem_of_getElem? (i := 3096) (by decide +kernel), List.mem_of_getElem? (i := 3097) (by decide +kernel)⟩
theorem lw_p275 : lw_okq (⟨"TemplateHouseModel", "readValue", "(Z)I"⟩, 139) := ⟨⟨by decide +kernel, by decide +kernel⟩, List.mem_of_getElem? (i := 2294) (by decide +kernel), List.mem_of_getElem? (i := 3329) (by decide +kernel), List.mem_of_getElem? (i := 3330) (by decide +kernel)⟩
theorem lw_p276 : lw_okq (⟨"TemplateHouseModel", "root", "()V"⟩, 139) := ⟨⟨by decide +kernel, by decide +kernel⟩, List.mem_of_getElem? (i := 2294) (by decide +kernel), List.mem_of_getElem? (i := 3417) (by decide +kernel), List.mem_of_getElem? (i := 3418) (by decide +kernel)⟩
theorem lw_p277 : lw_okq (⟨"TemplateHouseModel", "rowOf", "(I)J"⟩, 139) := ⟨⟨by decide +kernel, by decide +kernel⟩, List.mem_of_getElem? (i := 2294) (by decide +kernel), List.mem_of_getElem? (i := 3583) (by decide +kernel), List.mem_of_getElem? (i := 3584) (by decide +kernel)⟩
theorem lw_p278 : lw_okq (⟨"TemplateHouseModel", "shape", "(I)V"⟩, 139) := ⟨⟨by decide +kernel, by decide +kernel⟩, List.mem_of_getElem? (i := 2294) (by decide +kernel), List.mem_of_getElem? (i := 3719) (by decide +kernel), List.mem_of_getElem? (i := 3720) (by decide +kernel)⟩
theorem lw_p279 : lw_okq (⟨"TemplateHouseModel", "shapeText", "(Ljava/lang/String;)V"⟩, 139) := ⟨⟨by decide +kernel, by decide +kernel⟩, List.mem_of_getElem? (i := 2294) (by decide +kernel), List.mem_of_getElem? (i := 3733) (by decide +kernel), List.mem_of_getElem? (i := 3734) (by decide +kernel)⟩
theorem lw_p280 : lw_okq (⟨"TemplateHouseModel", "sign", "(Ljava/lang/String;)V"⟩, 139) := ⟨⟨by decide +kernel, by decide +kernel⟩, List.mem_of_getElem? (i := 2294) (by decide +kernel), List.mem_of_getElem? (i := 3035) (by decide +kernel), List.mem_of_getElem? (i := 3036) (by decide +kernel)⟩
theorem lw_p281 : lw_okq (⟨"TemplateHouseModel", "skip", "()V"⟩, 139) := ⟨⟨by decide +kernel, by decide +kernel⟩, List.mem_of_getElem? (i := 2294) (by decide +kernel), List.mem_of_getElem? (i := 2986) (by decide +kernel), List.mem_of_getElem? (i := 2987) (by decide +kernel)⟩
theorem lw_p282 : lw_okq (⟨"TemplateHouseModel", "startWriter", "()V"⟩, 139) := ⟨⟨by decide +kernel, by decide +kernel⟩, List.mem_of_getElem? (i := 2294) (by decide +kernel), List.mem_of_getElem? (i := 3413) (by decide +kernel), List.mem_of_getElem? (i := 3414) (by decide +kernel)⟩
theorem lw_p283 : lw_okq (⟨"TemplateHouseModel", "subOf", "(II)J"⟩, 139) := ⟨⟨by decide +kernel, by decide +kernel⟩, List.mem_of_getElem? (i := 2294) (by decide +kernel), List.mem_of_getElem? (i := 3511) (by decide +kernel), List.mem_of_getElem? (i := 3512) (by decide +kernel)⟩
theorem lw_p284 : lw_okq (⟨"TemplateHouseModel", "tagName", "()I"⟩, 139) := ⟨⟨by decide +kernel, by decide +kernel⟩, List.mem_of_getElem? (i := 2294) (by decide +kernel), List.mem_of_getElem? (i := 3167) (by decide +kernel), List.mem_of_getElem? (i := 3168) (by decide +kernel)⟩
theorem lw_p285 : lw_okq (⟨"TemplateHouseModel", "take", "()V"⟩, 139) := ⟨⟨by decide +kernel, by decide +kernel⟩, List.mem_of_getElem? (i := 2294) (by decide +kernel), List.mem_of_getElem? (i := 2906) (by decide +kernel), List.mem_of_getElem? (i := 2907) (by decide +kernel)⟩
theorem lw_p286 : lw_okq (⟨"TemplateHouseModel", "tell", "(III)V"⟩, 139) := ⟨⟨by decide +kernel, by decide +kernel⟩, List.mem_of_getElem? (i := 2294) (by decide +kernel), List.mem_of_getElem? (i := 3433) (by decide +kernel), List.mem_of_getElem? (i := 3434) (by decide +kernel)⟩
theorem lw_p287 : lw_okq (⟨"TemplateHouseModel", "templateOf", "(IJ)I"⟩, 139) := ⟨⟨by decide +kernel, by decide +kernel⟩, List.mem_of_getElem? (i := 2294) (by decide +kernel), List.mem_of_getElem? (i := 3676) (by decide +kernel), List.mem_of_getElem? (i := 3677) (by decide +kernel)⟩
theorem lw_p288 : lw_okq (⟨"TemplateHouseModel", "trimmed", "(J)J"⟩, 139) := ⟨⟨by decide +kernel, by decide +kernel⟩, List.mem_of_getElem? (i := 2294) (by decide +kernel), List.mem_of_getElem? (i := 3607) (by decide +kernel), List.mem_of_getElem? (i := 3608) (by decide +kernel)⟩
theorem lw_p289 : lw_okq (⟨"TemplateHouseModel", "wholeText", "()I"⟩, 139) := ⟨⟨by decide +kernel, by decide +kernel⟩, List.mem_of_getElem? (i := 2294) (by decide +kernel), List.mem_of_getElem? (i := 3092) (by decide +kernel), List.mem_of_getElem? (i := 3093) (by decide +kernel)⟩
theorem lw_p290 : lw_okq (⟨"TemplateHouseModel", "wrap", "(I)V"⟩, 139) := ⟨⟨by decide +kernel, by decide +kernel⟩, List.mem_of_getElem? (i := 2294) (by decide +kernel), List.mem_of_getElem? (i := 3543) (by decide +kernel), List.mem_of_getElem? (i := 3544) (by decide +kernel)⟩
theorem lw_p291 : lw_okq (⟨"TemplateHouseModel", "write", "(JI)V"⟩, 139) := ⟨⟨by decide +kernel, by decide +kernel⟩, List.mem_of_getElem? (i := 2294) (by decide +kernel), List.mem_of_getElem? (i := 3526) (by decide +kernel), List.mem_of_getElem? (i := 3527) (by decide +kernel)⟩
theorem lw_p292 : lw_okq (⟨"TemplateHouseModel", "writeExpr", "(II)V"⟩, 139) := ⟨⟨by decide +kernel, by decide +kernel⟩, List.mem_of_getElem? (i := 2294) (by decide +kernel), List.mem_of_getElem? (i := 3563) (by decide +kernel), List.mem_of_getElem? (i := 3564) (by decide +kernel)⟩
theorem lw_p293 : lw_okq (⟨"TemplateHouseModel", "writeInstance", "(II)V"⟩, 139) := ⟨⟨by decide +kernel, by decide +kernel⟩, List.mem_of_getElem? (i := 2294) (by decide +kernel), List.mem_of_getElem? (i := 3539) (by decide +kernel), List.mem_of_getElem? (i := 3540) (by decide +kernel)⟩
theorem lw_p294 : lw_okq (⟨"TemplateHouseModel", "writeOne", "(JI)V"⟩, 139) := ⟨⟨by decide +kernel, by decide +kernel⟩, List.mem_of_getElem? (i := 2294) (by decide +kernel), List.mem_of_getElem? (i := 3535) (by decide +kernel), List.mem_of_getElem? (i := 3536) (by decide +kernel)⟩
theorem lw_p295 : lw_okq (⟨"TemplateHouseModel", "writePart", "(II)V"⟩, 139) := ⟨⟨by decide +kernel, by decide +kernel⟩, List.mem_of_getElem? (i := 2294) (by decide +kernel), List.mem_of_getElem? (i := 3709) (by decide +kernel), List.mem_of_getElem? (i := 3710) (by decide +kernel)⟩
theorem lw_p296 : lw_okq (⟨"TemplateHouseModel", "writeText", "(II)V"⟩, 139) := ⟨⟨by decide +kernel, by decide +kernel⟩, List.mem_of_getElem? (i := 2294) (by decide +kernel), List.mem_of_getElem? (i := 3559) (by decide +kernel), List.mem_of_getElem? (i := 3560) (by decide +kernel)⟩
theorem lw_p297 : lw_okq (⟨"TemplateHouseModel", "zip", "(III)J"⟩, 139) := ⟨⟨by decide +kernel, by decide +kernel⟩, List.mem_of_getElem? (i := 2294) (by decide +kernel), List.mem_of_getElem? (i := 3619) (by decide +kernel), List.mem_of_getElem? (i := 3620) (by decide +kernel)⟩
theorem lw_p298 : lw_okq (⟨"java/lang/Throwable", "fillInStackTrace", "(I)Ljava/lang/Throwable;"⟩, 6) := ⟨⟨by decide +kernel, by decide +kernel⟩, List.mem_of_getElem? (i := 1063) (by decide +kernel), List.mem_of_getElem? (i := 1061) (by decide +kernel), List.mem_of_getElem? (i := 1062) (by decide +kernel)⟩
def lw_privs : List (MethodName × Nat) := [(⟨"TemplateHouse", "fourReady", "(II)V"⟩, 19), (⟨"TemplateHouse", "fromTape", "(I)I"⟩, 19), (⟨"TemplateHouse", "isRead", "(I)Z"⟩, 19), (⟨"TemplateHouse", "told", "(I)I"⟩, 19), (⟨"TemplateHouse$Checker", "checkAlias", "(I)V"⟩, 5), (⟨"TemplateHouse$Checker", "checkCall", "(I)V"⟩, 5), (⟨"TemplateHouse$Checker", "checkCalls", "()V"⟩, 5), (⟨"TemplateHouse$Checker", "checkDefs", "()V"⟩, 5), (⟨"TemplateHouse$Checker", "checkParts", "()V"⟩, 5), (⟨"TemplateHouse$Checker", "filledPart", "(III)I"⟩, 5), (⟨"TemplateHouse$Checker", "isNamed", "(II)Z"⟩, 5), (⟨"TemplateHouse$Checker", "mark", "(II)V"⟩, 5), (⟨"TemplateHouse$Checker", "mayHaveArgs", "(II)Z"⟩, 5), (⟨"TemplateHouse$Checker", "nameAll", "()V"⟩, 5), (⟨"TemplateHouse$Checker", "nameFile", "(I)V"⟩, 5), (⟨"TemplateHouse$Checker", "ownPart", "(III)I"⟩, 5), (⟨"TemplateHouse$Checker", "partFrom", "(IIII)I"⟩, 5), (⟨"TemplateHouse$Checker", "templateFrom", "(III)I"⟩, 5), (⟨"TemplateHouse$Checker", "tieParts", "()V"⟩, 5), (⟨"TemplateHouse$FileReader", "checkParam", "(IIZ)V"⟩, 19), (⟨"TemplateHouse$FileReader", "constant", "(Z)I"⟩, 19), (⟨"TemplateHouse$FileReader", "defaultWord", "()I"⟩, 19), (⟨"TemplateHouse$FileReader", "delimiter", "()I"⟩, 19), (⟨"TemplateHouse$FileReader", "emptyList", "()I"⟩, 19), (⟨"TemplateHouse$FileReader", "head", "()V"⟩, 19), (⟨"TemplateHouse$FileReader", "isOnTheWay", "(I)Z"⟩, 19), (⟨"TemplateHouse$FileReader", "newKey", "()I"⟩, 19), (⟨"TemplateHouse$FileReader", "openBody", "()V"⟩, 19), (⟨"TemplateHouse$FileReader", "openFile", "(I)V"⟩, 19), (⟨"TemplateHouse$FileReader", "param", "(Z)Z"⟩, 19), (⟨"TemplateHouse$FileReader", "regionFilled", "(I)V"⟩, 19), (⟨"TemplateHouse$Heap", "isYes", "(I)Z"⟩, 20), (⟨"TemplateHouse$Heap", "spellNumber", "(J)V"⟩, 20), (⟨"TemplateHouse$Heap", "spellTruth", "(Z)V"⟩, 20), (⟨"TemplateHouse$Imports", "extend", "([I[IIII)V"⟩, 6), (⟨"TemplateHouse$Maker", "apply", "()V"⟩, 21), (⟨"TemplateHouse$Maker", "called", "(III)I"⟩, 21), (⟨"TemplateHouse$Maker", "calledBy", "(I)V"⟩, 21), (⟨"TemplateHouse$Maker", "code", "(I)I"⟩, 21), (⟨"TemplateHouse$Maker", "collect", "(I)V"⟩, 21), (⟨"TemplateHouse$Maker", "counted", "()V"⟩, 21), (⟨"TemplateHouse$Maker", "current", "()I"⟩, 21), (⟨"TemplateHouse$Maker", "done", "()I"⟩, 21), (⟨"TemplateHouse$Maker", "dot", "()V"⟩, 21), (⟨"TemplateHouse$Maker", "dotBy", "()V"⟩, 21), (⟨"TemplateHouse$Maker", "dotted", "(III)I"⟩, 21), (⟨"TemplateHouse$Maker", "eachSub", "()V"⟩, 21), (⟨"TemplateHouse$Maker", "eachText", "()I"⟩, 21), (⟨"TemplateHouse$Maker", "enter", "()V"⟩, 21), (⟨"TemplateHouse$Maker", "find", "()V"⟩, 21), (⟨"TemplateHouse$Maker", "format", "()V"⟩, 21), (⟨"TemplateHouse$Maker", "function", "(II)I"⟩, 21), (⟨"TemplateHouse$Maker", "goOn", "(I)V"⟩, 21), (⟨"TemplateHouse$Maker", "isSpelled", "(Ljava/lang/String;)Z"⟩, 21), (⟨"TemplateHouse$Maker", "items", "()V"⟩, 21), (⟨"TemplateHouse$Maker", "leave", "()V"⟩, 21), (⟨"TemplateHouse$Maker", "leaveLoop", "(II)V"⟩, 21), (⟨"TemplateHouse$Maker", "line", "()V"⟩, 21), (⟨"TemplateHouse$Maker", "listStep", "()V"⟩, 21), (⟨"TemplateHouse$Maker", "literal", "()V"⟩, 21), (⟨"TemplateHouse$Maker", "name", "()V"⟩, 21), (⟨"TemplateHouse$Maker", "next", "()V"⟩, 21), (⟨"TemplateHouse$Maker", "ofDictionary", "(II)I"⟩, 21), (⟨"TemplateHouse$Maker", "ofInstance", "(III)I"⟩, 21), (⟨"TemplateHouse$Maker", "ofMap", "(I)I"⟩, 21), (⟨"TemplateHouse$Maker", "option", "()V"⟩, 21), (⟨"TemplateHouse$Maker", "options", "()V"⟩, 21), (⟨"TemplateHouse$Maker", "optionsBack", "()V"⟩, 21), (⟨"TemplateHouse$Maker", "otherStep", "(I)V"⟩, 21), (⟨"TemplateHouse$Maker", "plain", "()V"⟩, 21), (⟨"TemplateHouse$Maker", "pop", "()I"⟩, 21), (⟨"TemplateHouse$Maker", "pour", "()V"⟩, 21), (⟨"TemplateHouse$Maker", "pourAll", "(Ljava/lang/String;)V"⟩, 21), (⟨"TemplateHouse$Maker", "push", "(I)V"⟩, 21), (⟨"TemplateHouse$Maker", "raw", "()V"⟩, 21), (⟨"TemplateHouse$Maker", "region", "()V"⟩, 21), (⟨"TemplateHouse$Maker", "reversed", "(II)I"⟩, 21), (⟨"TemplateHouse$Maker", "root", "(I)V"⟩, 21), (⟨"TemplateHouse$Maker", "shortcut", "(I)V"⟩, 21), (⟨"TemplateHouse$Maker", "slice", "(III)I"⟩, 21), (⟨"TemplateHouse$Maker", "slot", "()V"⟩, 21), (⟨"TemplateHouse$Maker", "spellIf", "()V"⟩, 21), (⟨"TemplateHouse$Maker", "spellOut", "(I)V"⟩, 21), (⟨"TemplateHouse$Maker", "spread", "(IIIZI)I"⟩, 21), (⟨"TemplateHouse$Maker", "start", "(I)V"⟩, 21), (⟨"TemplateHouse$Maker", "stripped", "(II)I"⟩, 21), (⟨"TemplateHouse$Maker", "tag", "()V"⟩, 21), (⟨"TemplateHouse$Maker", "tell", "(II)V"⟩, 21), (⟨"TemplateHouse$Maker", "templateBy", "(II)I"⟩, 21), (⟨"TemplateHouse$Maker", "textStep", "(I)V"⟩, 21), (⟨"TemplateHouse$Maker", "trimmed", "(I)I"⟩, 21), (⟨"TemplateHouse$Maker", "valueAdded", "(I)I"⟩, 21), (⟨"TemplateHouse$Maker", "valueStep", "(I)V"⟩, 21), (⟨"TemplateHouse$Maker", "wordOver", "()V"⟩, 21), (⟨"TemplateHouse$Maker", "wrapLine", "()V"⟩, 21), (⟨"TemplateHouse$Maker", "write", "(I)V"⟩, 21), (⟨"TemplateHouse$Maker", "writeTag", "()V"⟩, 21), (⟨"TemplateHouse$Maker", "zip", "()V"⟩, 21), (⟨"TemplateHouse$Source", "isBecomes", "()Z"⟩, 12), (⟨"TemplateHouse$TextReader", "applied", "(IZ)V"⟩, 17), (⟨"TemplateHouse$TextReader", "appliedBy", "(III)I"⟩, 17), (⟨"TemplateHouse$TextReader", "appliedOne", "(II)I"⟩, 17), (⟨"TemplateHouse$TextReader", "args", "(I)V"⟩, 17), (⟨"TemplateHouse$TextReader", "argument", "(I)V"⟩, 17), (⟨"TemplateHouse$TextReader", "block", "(IIII)V"⟩, 17), (⟨"TemplateHouse$TextReader", "both", "(I)V"⟩, 17), (⟨"TemplateHouse$TextReader", "branch", "(II)I"⟩, 17), (⟨"TemplateHouse$TextReader", "branchEnd", "(II)I"⟩, 17), (⟨"TemplateHouse$TextReader", "call", "(III)V"⟩, 17), (⟨"TemplateHouse$TextReader", "choice", "(II)V"⟩, 17), (⟨"TemplateHouse$TextReader", "comment", "()V"⟩, 17), (⟨"TemplateHouse$TextReader", "condition", "(I)I"⟩, 17), (⟨"TemplateHouse$TextReader", "dots", "()V"⟩, 17), (⟨"TemplateHouse$TextReader", "either", "(I)V"⟩, 17), (⟨"TemplateHouse$TextReader", "escape", "(I)V"⟩, 17), (⟨"TemplateHouse$TextReader", "expression", "(II)V"⟩, 17), (⟨"TemplateHouse$TextReader", "flush", "()I"⟩, 17), (⟨"TemplateHouse$TextReader", "function", "(II)V"⟩, 17), (⟨"TemplateHouse$TextReader", "isNamedAhead", "()Z"⟩, 17), (⟨"TemplateHouse$TextReader", "isParamsAhead", "()Z"⟩, 17), (⟨"TemplateHouse$TextReader", "items", "(I)V"⟩, 17), (⟨"TemplateHouse$TextReader", "joinLines", "()V"⟩, 17), (⟨"TemplateHouse$TextReader", "literal", "(I)V"⟩, 17), (⟨"TemplateHouse$TextReader", "member", "(I)V"⟩, 17), (⟨"TemplateHouse$TextReader", "namedArg", "(II)I"⟩, 17), (⟨"TemplateHouse$TextReader", "negation", "(I)V"⟩, 17), (⟨"TemplateHouse$TextReader", "option", "(II)V"⟩, 17), (⟨"TemplateHouse$TextReader", "options", "(I)V"⟩, 17), (⟨"TemplateHouse$TextReader", "parenthesis", "(I)V"⟩, 17), (⟨"TemplateHouse$TextReader", "partCall", "(IIII)V"⟩, 17), (⟨"TemplateHouse$TextReader", "plainTag", "(I)V"⟩, 17), (⟨"TemplateHouse$TextReader", "primary", "(I)V"⟩, 17), (⟨"TemplateHouse$TextReader", "region", "(III)I"⟩, 17), (⟨"TemplateHouse$TextReader", "regionEnd", "(II)I"⟩, 17), (⟨"TemplateHouse$TextReader", "restOfLine", "(ZI)V"⟩, 17), (⟨"TemplateHouse$TextReader", "sideBySide", "(II)V"⟩, 17), (⟨"TemplateHouse$TextReader", "sub", "(I)I"⟩, 17), (⟨"TemplateHouse$TextReader", "superCall", "(III)V"⟩, 17), (⟨"TemplateHouse$TextReader", "superRegion", "(III)V"⟩, 17), (⟨"TemplateHouse$TextReader", "tag", "(II)I"⟩, 17), (⟨"TemplateHouse$TextReader", "text", "(II)I"⟩, 17), (⟨"TemplateHouse$TextReader", "wordy", "(I)V"⟩, 17), (⟨"TemplateHouse$Writer", "raw", "(I)V"⟩, 16), (⟨"TemplateHouseModel", "addByte", "(II)V"⟩, 139), (⟨"TemplateHouseModel", "addedOf", "(I)J"⟩, 139), (⟨"TemplateHouseModel", "ahead", "(I)I"⟩, 139), (⟨"TemplateHouseModel", "appliedAt", "(II)I"⟩, 139), (⟨"TemplateHouseModel", "argument", "(III)I"⟩, 139), (⟨"TemplateHouseModel", "asOption", "(IIJ)V"⟩, 139), (⟨"TemplateHouseModel", "asWord", "(J)J"⟩, 139), (⟨"TemplateHouseModel", "attributeOf", "(II)I"⟩, 139), (⟨"TemplateHouseModel", "bad", "(II)V"⟩, 139), (⟨"TemplateHouseModel", "bar", "()I"⟩, 139), (⟨"TemplateHouseModel", "blanks", "()V"⟩, 139), (⟨"TemplateHouseModel", "bookValue", "(IJ)J"⟩, 139), (⟨"TemplateHouseModel", "build", "()I"⟩, 139), (⟨"TemplateHouseModel", "bytesOf", "(J)V"⟩, 139), (⟨"TemplateHouseModel", "called", "(I)I"⟩, 139), (⟨"TemplateHouseModel", "check", "(IIII)V"⟩, 139), (⟨"TemplateHouseModel", "checkAlias", "(I)V"⟩, 139), (⟨"TemplateHouseModel", "checkAll", "()V"⟩, 139), (⟨"TemplateHouseModel", "checkCall", "(II)V"⟩, 139), (⟨"TemplateHouseModel", "cond", "(II)Z"⟩, 139), (⟨"TemplateHouseModel", "condition", "()I"⟩, 139), (⟨"TemplateHouseModel", "count", "(II)V"⟩, 139), (⟨"TemplateHouseModel", "countList", "(I)V"⟩, 139), (⟨"TemplateHouseModel", "countOf", "(J)I"⟩, 139), (⟨"TemplateHouseModel", "counts", "()Z"⟩, 139), (⟨"TemplateHouseModel", "deeper", "(I)V"⟩, 139), (⟨"TemplateHouseModel", "defaultOf", "(II)J"⟩, 139), (⟨"TemplateHouseModel", "delimiter", "()I"⟩, 139), (⟨"TemplateHouseModel", "dots", "(I)V"⟩, 139), (⟨"TemplateHouseModel", "element", "(I)I"⟩, 139), (⟨"TemplateHouseModel", "emit", "(I)V"⟩, 139), (⟨"TemplateHouseModel", "errorAt", "(II)V"⟩, 139), (⟨"TemplateHouseModel", "eval", "(II)J"⟩, 139), (⟨"TemplateHouseModel", "execute", "(IZ)V"⟩, 139), (⟨"TemplateHouseModel", "fc", "(I)I"⟩, 139), (⟨"TemplateHouseModel", "fileName", "()I"⟩, 139), (⟨"TemplateHouseModel", "fileOf", "(I)I"⟩, 139), (⟨"TemplateHouseModel", "fileString", "()V"⟩, 139), (⟨"TemplateHouseModel", "find", "(II)J"⟩, 139), (⟨"TemplateHouseModel", "format", "(I)V"⟩, 139), (⟨"TemplateHouseModel", "function", "()I"⟩, 139), (⟨"TemplateHouseModel", "functionOf", "(IJ)J"⟩, 139), (⟨"TemplateHouseModel", "give", "(IIJ)V"⟩, 139), (⟨"TemplateHouseModel", "here", "()I"⟩, 139), (⟨"TemplateHouseModel", "indent", "(I)V"⟩, 139), (⟨"TemplateHouseModel", "instance", "(III)J"⟩, 139), (⟨"TemplateHouseModel", "isAdded", "(I)Z"⟩, 139), (⟨"TemplateHouseModel", "isDots", "()Z"⟩, 139), (⟨"TemplateHouseModel", "isFileReserved", "()Z"⟩, 139), (⟨"TemplateHouseModel", "isFileWord", "(Ljava/lang/String;)Z"⟩, 139), (⟨"TemplateHouseModel", "isLineTag", "(I)Z"⟩, 139), (⟨"TemplateHouseModel", "isMade", "()Z"⟩, 139), (⟨"TemplateHouseModel", "isMany", "(J)Z"⟩, 139), (⟨"TemplateHouseModel", "isNamed", "()Z"⟩, 139), (⟨"TemplateHouseModel", "isNext", "(I)Z"⟩, 139), (⟨"TemplateHouseModel", "isOpen", "(II)Z"⟩, 139), (⟨"TemplateHouseModel", "isPlain", "([BII)Z"⟩, 139), (⟨"TemplateHouseModel", "isPlainText", "(Ljava/lang/String;)Z"⟩, 139), (⟨"TemplateHouseModel", "isReserved", "()Z"⟩, 139), (⟨"TemplateHouseModel", "isSameKey", "(I)Z"⟩, 139), (⟨"TemplateHouseModel", "isSpace", "(I)Z"⟩, 139), (⟨"TemplateHouseModel", "isSteering", "()Z"⟩, 139), (⟨"TemplateHouseModel", "isTape", "(II)Z"⟩, 139), (⟨"TemplateHouseModel", "isTold", "(JI)Z"⟩, 139), (⟨"TemplateHouseModel", "isTrue", "(J)Z"⟩, 139), (⟨"TemplateHouseModel", "isTwice", "(I)Z"⟩, 139), (⟨"TemplateHouseModel", "isValue", "(II)Z"⟩, 139), (⟨"TemplateHouseModel", "isWord", "(Ljava/lang/String;)Z"⟩, 139), (⟨"TemplateHouseModel", "item", "(JI)J"⟩, 139), (⟨"TemplateHouseModel", "keep", "([BII)V"⟩, 139), (⟨"TemplateHouseModel", "keepString", "([BIII)I"⟩, 139), (⟨"TemplateHouseModel", "keepTape", "()I"⟩, 139), (⟨"TemplateHouseModel", "keptList", "(I)J"⟩, 139), (⟨"TemplateHouseModel", "keyed", "(JJI)J"⟩, 139), (⟨"TemplateHouseModel", "lead", "()V"⟩, 139), (⟨"TemplateHouseModel", "line", "(II)V"⟩, 139), (⟨"TemplateHouseModel", "lines", "(I)V"⟩, 139), (⟨"TemplateHouseModel", "listFrom", "(I)J"⟩, 139), (⟨"TemplateHouseModel", "looksAt", "(II)V"⟩, 139), (⟨"TemplateHouseModel", "lowest", "()I"⟩, 139), (⟨"TemplateHouseModel", "made", "(IIIJII)J"⟩, 139), (⟨"TemplateHouseModel", "mayHave", "(II)Z"⟩, 139), (⟨"TemplateHouseModel", "named", "(IJ)I"⟩, 139), (⟨"TemplateHouseModel", "need", "(I)V"⟩, 139), (⟨"TemplateHouseModel", "newValue", "(II)I"⟩, 139), (⟨"TemplateHouseModel", "node", "(IIII)I"⟩, 139), (⟨"TemplateHouseModel", "note", "(III)V"⟩, 139), (⟨"TemplateHouseModel", "ofBean", "(II)J"⟩, 139), (⟨"TemplateHouseModel", "ofBook", "(IJ)J"⟩, 139), (⟨"TemplateHouseModel", "ofMap", "(I)J"⟩, 139), (⟨"TemplateHouseModel", "ofSub", "(IJII)J"⟩, 139), (⟨"TemplateHouseModel", "oneByOne", "(J)I"⟩, 139), (⟨"TemplateHouseModel", "openFrame", "(J)V"⟩, 139), (⟨"TemplateHouseModel", "over", "()V"⟩, 139), (⟨"TemplateHouseModel", "packed", "(II)V"⟩, 139), (⟨"TemplateHouseModel", "paramOf", "(II)I"⟩, 139), (⟨"TemplateHouseModel", "place", "()I"⟩, 139), (⟨"TemplateHouseModel", "plainNumber", "(J)V"⟩, 139), (⟨"TemplateHouseModel", "plainOf", "([BII)V"⟩, 139), (⟨"TemplateHouseModel", "plainText", "(Ljava/lang/String;)V"⟩, 139), (⟨"TemplateHouseModel", "primary", "(IIJII)J"⟩, 139), (⟨"TemplateHouseModel", "property", "(JJI)J"⟩, 139), (⟨"TemplateHouseModel", "push", "(J)V"⟩, 139), (⟨"TemplateHouseModel", "put", "(I)V"⟩, 139), (⟨"TemplateHouseModel", "readApplied", "()I"⟩, 139), (⟨"TemplateHouseModel", "readArg", "()I"⟩, 139), (⟨"TemplateHouseModel", "readArgs", "(I)V"⟩, 139), (⟨"TemplateHouseModel", "readAt", "(II)V"⟩, 139), (⟨"TemplateHouseModel", "readBody", "()I"⟩, 139), (⟨"TemplateHouseModel", "readBoth", "()I"⟩, 139), (⟨"TemplateHouseModel", "readBytes", "(I)V"⟩, 139), (⟨"TemplateHouseModel", "readCall", "(IZ)I"⟩, 139), (⟨"TemplateHouseModel", "readCond", "()I"⟩, 139), (⟨"TemplateHouseModel", "readDefinition", "()V"⟩, 139), (⟨"TemplateHouseModel", "readDictionary", "(I)V"⟩, 139), (⟨"TemplateHouseModel", "readExpr", "(I)V"⟩, 139), (⟨"TemplateHouseModel", "readFile", "(I)V"⟩, 139), (⟨"TemplateHouseModel", "readFileSub", "()I"⟩, 139), (⟨"TemplateHouseModel", "readImport", "()V"⟩, 139), (⟨"TemplateHouseModel", "readMember", "()I"⟩, 139), (⟨"TemplateHouseModel", "readNamed", "(I)I"⟩, 139), (⟨"TemplateHouseModel", "readNot", "()I"⟩, 139), (⟨"TemplateHouseModel", "readOptions", "(I)V"⟩, 139), (⟨"TemplateHouseModel", "readParams", "(I)V"⟩, 139), (⟨"TemplateHouseModel", "readPrimary", "()I"⟩, 139), (⟨"TemplateHouseModel", "readRegion", "(I)V"⟩, 139), (⟨"TemplateHouseModel", "readRow", "()I"⟩, 139), (⟨"TemplateHouseModel", "readSteering", "(II)V"⟩, 139), (⟨"TemplateHouseModel", "readString", "(I)I"⟩, 139), (⟨"TemplateHouseModel", "readSub", "()I"⟩, 139), (⟨"TemplateHouseModel", "readTag", "(I)V"⟩, 139), (⟨"TemplateHouseModel", "readText", "(Z)I"⟩, 139), (⟨"TemplateHouseModel", "readValue", "(Z)I"⟩, 139), (⟨"TemplateHouseModel", "root", "()V"⟩, 139), (⟨"TemplateHouseModel", "rowOf", "(I)J"⟩, 139), (⟨"TemplateHouseModel", "shape", "(I)V"⟩, 139), (⟨"TemplateHouseModel", "shapeText", "(Ljava/lang/String;)V"⟩, 139), (⟨"TemplateHouseModel", "sign", "(Ljava/lang/String;)V"⟩, 139), (⟨"TemplateHouseModel", "skip", "()V"⟩, 139), (⟨"TemplateHouseModel", "startWriter", "()V"⟩, 139), (⟨"TemplateHouseModel", "subOf", "(II)J"⟩, 139), (⟨"TemplateHouseModel", "tagName", "()I"⟩, 139), (⟨"TemplateHouseModel", "take", "()V"⟩, 139), (⟨"TemplateHouseModel", "tell", "(III)V"⟩, 139), (⟨"TemplateHouseModel", "templateOf", "(IJ)I"⟩, 139), (⟨"TemplateHouseModel", "trimmed", "(J)J"⟩, 139), (⟨"TemplateHouseModel", "wholeText", "()I"⟩, 139), (⟨"TemplateHouseModel", "wrap", "(I)V"⟩, 139), (⟨"TemplateHouseModel", "write", "(JI)V"⟩, 139), (⟨"TemplateHouseModel", "writeExpr", "(II)V"⟩, 139), (⟨"TemplateHouseModel", "writeInstance", "(II)V"⟩, 139), (⟨"TemplateHouseModel", "writeOne", "(JI)V"⟩, 139), (⟨"TemplateHouseModel", "writePart", "(II)V"⟩, 139), (⟨"TemplateHouseModel", "writeText", "(II)V"⟩, 139), (⟨"TemplateHouseModel", "zip", "(III)J"⟩, 139), (⟨"java/lang/Throwable", "fillInStackTrace", "(I)Ljava/lang/Throwable;"⟩, 6)]
set_option maxRecDepth 100000 in
theorem lw_privs_ok : ∀ q ∈ lw_privs, lw_okq q := List.forall_mem_cons.mpr ⟨lw_p0, List.forall_mem_cons.mpr ⟨lw_p1, List.forall_mem_cons.mpr ⟨lw_p2, List.forall_mem_cons.mpr ⟨lw_p3, List.forall_mem_cons.mpr ⟨lw_p4, List.forall_mem_cons.mpr ⟨lw_p5, List.forall_mem_cons.mpr ⟨lw_p6, List.forall_mem_cons.mpr ⟨lw_p7, List.forall_mem_cons.mpr ⟨lw_p8, List.forall_mem_cons.mpr ⟨lw_p9, List.forall_mem_cons.mpr ⟨lw_p10, List.forall_mem_cons.mpr ⟨lw_p11, List.forall_mem_cons.mpr ⟨lw_p12, List.forall_mem_cons.mpr ⟨lw_p13, List.forall_mem_cons.mpr ⟨lw_p14, List.forall_mem_cons.mpr ⟨lw_p15, List.forall_mem_cons.mpr ⟨lw_p16, List.forall_mem_cons.mpr ⟨lw_p17, List.forall_mem_cons.mpr ⟨lw_p18, List.forall_mem_cons.mpr ⟨lw_p19, List.forall_mem_cons.mpr ⟨lw_p20, List.forall_mem_cons.mpr ⟨lw_p21, List.forall_mem_cons.mpr ⟨lw_p22, List.forall_mem_cons.mpr ⟨lw_p23, List.forall_mem_cons.mpr ⟨lw_p24, List.forall_mem_cons.mpr ⟨lw_p25, List.forall_mem_cons.mpr ⟨lw_p26, List.forall_mem_cons.mpr ⟨lw_p27, List.forall_mem_cons.mpr ⟨lw_p28, List.forall_mem_cons.mpr ⟨lw_p29, List.forall_mem_cons.mpr ⟨lw_p30, List.forall_mem_cons.mpr ⟨lw_p31, List.forall_mem_cons.mpr ⟨lw_p32, List.forall_mem_cons.mpr ⟨lw_p33, List.forall_mem_cons.mpr ⟨lw_p34, List.forall_mem_cons.mpr ⟨lw_p35, List.forall_mem_cons.mpr ⟨lw_p36, List.forall_mem_cons.mpr ⟨lw_p37, List.forall_mem_cons.mpr ⟨lw_p38, List.forall_mem_cons.mpr ⟨lw_p39, List.forall_mem_cons.mpr ⟨lw_p40, List.forall_mem_cons.mpr ⟨lw_p41, List.forall_mem_cons.mpr ⟨lw_p42, List.forall_mem_cons.mpr ⟨lw_p43, List.forall_mem_cons.mpr ⟨lw_p44, List.forall_mem_cons.mpr ⟨lw_p45, List.forall_mem_cons.mpr ⟨lw_p46, List.forall_mem_cons.mpr ⟨lw_p47, List.forall_mem_cons.mpr ⟨lw_p48, List.forall_mem_cons.mpr ⟨lw_p49, List.forall_mem_cons.mpr ⟨lw_p50, List.forall_mem_cons.mpr ⟨lw_p51, List.forall_mem_cons.mpr ⟨lw_p52, List.forall_mem_cons.mpr ⟨lw_p53, List.forall_mem_cons.mpr ⟨lw_p54, List.forall_mem_cons.mpr ⟨lw_p55, List.forall_mem_cons.mpr ⟨lw_p56, List.forall_mem_cons.mpr ⟨lw_p57, List.forall_mem_cons.mpr ⟨lw_p58, List.forall_mem_cons.mpr ⟨lw_p59, List.forall_mem_cons.mpr ⟨lw_p60, List.forall_mem_cons.mpr ⟨lw_p61, List.forall_mem_cons.mpr ⟨lw_p62, List.forall_mem_cons.mpr ⟨lw_p63, List.forall_mem_cons.mpr ⟨lw_p64, List.forall_mem_cons.mpr ⟨lw_p65, List.forall_mem_cons.mpr ⟨lw_p66, List.forall_mem_cons.mpr ⟨lw_p67, List.forall_mem_cons.mpr ⟨lw_p68, List.forall_mem_cons.mpr ⟨lw_p69, List.forall_mem_cons.mpr ⟨lw_p70, List.forall_mem_cons.mpr ⟨lw_p71, List.forall_mem_cons.mpr ⟨lw_p72, List.forall_mem_cons.mpr ⟨lw_p73, List.forall_mem_cons.mpr ⟨lw_p74, List.forall_mem_cons.mpr ⟨lw_p75, List.forall_mem_cons.mpr ⟨lw_p76, List.forall_mem_cons.mpr ⟨lw_p77, List.forall_mem_cons.mpr ⟨lw_p78, List.forall_mem_cons.mpr ⟨lw_p79, List.forall_mem_cons.mpr ⟨lw_p80, List.forall_mem_cons.mpr ⟨lw_p81, List.forall_mem_cons.mpr ⟨lw_p82, List.forall_mem_cons.mpr ⟨lw_p83, List.forall_mem_cons.mpr ⟨lw_p84, List.forall_mem_cons.mpr ⟨lw_p85, List.forall_mem_cons.mpr ⟨lw_p86, List.forall_mem_cons.mpr ⟨lw_p87, List.forall_mem_cons.mpr ⟨lw_p88, List.forall_mem_cons.mpr ⟨lw_p89, List.forall_mem_cons.mpr ⟨lw_p90, List.forall_mem_cons.mpr ⟨lw_p91, List.forall_mem_cons.mpr ⟨lw_p92, List.forall_mem_cons.mpr ⟨lw_p93, List.forall_mem_cons.mpr ⟨lw_p94, List.forall_mem_cons.mpr ⟨lw_p95, List.forall_mem_cons.mpr ⟨lw_p96, List.forall_mem_cons.mpr ⟨lw_p97, List.forall_mem_cons.mpr ⟨lw_p98, List.forall_mem_cons.mpr ⟨lw_p99, List.forall_mem_cons.mpr ⟨lw_p100, List.forall_mem_cons.mpr ⟨lw_p101, List.forall_mem_cons.mpr ⟨lw_p102, List.forall_mem_cons.mpr ⟨lw_p103, List.forall_mem_cons.mpr ⟨lw_p104, List.forall_mem_cons.mpr ⟨lw_p105, List.forall_mem_cons.mpr ⟨lw_p106, List.forall_mem_cons.mpr ⟨lw_p107, List.forall_mem_cons.mpr ⟨lw_p108, List.forall_mem_cons.mpr ⟨lw_p109, List.forall_mem_cons.mpr ⟨lw_p110, List.forall_mem_cons.mpr ⟨lw_p111, List.forall_mem_cons.mpr ⟨lw_p112, List.forall_mem_cons.mpr ⟨lw_p113, List.forall_mem_cons.mpr ⟨lw_p114, List.forall_mem_cons.mpr ⟨lw_p115, List.forall_mem_cons.mpr ⟨lw_p116, List.forall_mem_cons.mpr ⟨lw_p117, List.forall_mem_cons.mpr ⟨lw_p118, List.forall_mem_cons.mpr ⟨lw_p119, List.forall_mem_cons.mpr ⟨lw_p120, List.forall_mem_cons.mpr ⟨lw_p121, List.forall_mem_cons.mpr ⟨lw_p122, List.forall_mem_cons.mpr ⟨lw_p123, List.forall_mem_cons.mpr ⟨lw_p124, List.forall_mem_cons.mpr ⟨lw_p125, List.forall_mem_cons.mpr ⟨lw_p126, List.forall_mem_cons.mpr ⟨lw_p127, List.forall_mem_cons.mpr ⟨lw_p128, List.forall_mem_cons.mpr ⟨lw_p129, List.forall_mem_cons.mpr ⟨lw_p130, List.forall_mem_cons.mpr ⟨lw_p131, List.forall_mem_cons.mpr ⟨lw_p132, List.forall_mem_cons.mpr ⟨lw_p133, List.forall_mem_cons.mpr ⟨lw_p134, List.forall_mem_cons.mpr ⟨lw_p135, List.forall_mem_cons.mpr ⟨lw_p136, List.forall_mem_cons.mpr ⟨lw_p137, List.forall_mem_cons.mpr ⟨lw_p138, List.forall_mem_cons.mpr ⟨lw_p139, List.forall_mem_cons.mpr ⟨lw_p140, List.forall_mem_cons.mpr ⟨lw_p141, List.forall_mem_cons.mpr ⟨lw_p142, List.forall_mem_cons.mpr ⟨lw_p143, List.forall_mem_cons.mpr ⟨lw_p144, List.forall_mem_cons.mpr ⟨lw_p145, List.forall_mem_cons.mpr ⟨lw_p146, List.forall_mem_cons.mpr ⟨lw_p147, List.forall_mem_cons.mpr ⟨lw_p148, List.forall_mem_cons.mpr ⟨lw_p149, List.forall_mem_cons.mpr ⟨lw_p150, List.forall_mem_cons.mpr ⟨lw_p151, List.forall_mem_cons.mpr ⟨lw_p152, List.forall_mem_cons.mpr ⟨lw_p153, List.forall_mem_cons.mpr ⟨lw_p154, List.forall_mem_cons.mpr ⟨lw_p155, List.forall_mem_cons.mpr ⟨lw_p156, List.forall_mem_cons.mpr ⟨lw_p157, List.forall_mem_cons.mpr ⟨lw_p158, List.forall_mem_cons.mpr ⟨lw_p159, List.forall_mem_cons.mpr ⟨lw_p160, List.forall_mem_cons.mpr ⟨lw_p161, List.forall_mem_cons.mpr ⟨lw_p162, List.forall_mem_cons.mpr ⟨lw_p163, List.forall_mem_cons.mpr ⟨lw_p164, List.forall_mem_cons.mpr ⟨lw_p165, List.forall_mem_cons.mpr ⟨lw_p166, List.forall_mem_cons.mpr ⟨lw_p167, List.forall_mem_cons.mpr ⟨lw_p168, List.forall_mem_cons.mpr ⟨lw_p169, List.forall_mem_cons.mpr ⟨lw_p170, List.forall_mem_cons.mpr ⟨lw_p171, List.forall_mem_cons.mpr ⟨lw_p172, List.forall_mem_cons.mpr ⟨lw_p173, List.forall_mem_cons.mpr ⟨lw_p174, List.forall_mem_cons.mpr ⟨lw_p175, List.forall_mem_cons.mpr ⟨lw_p176, List.forall_mem_cons.mpr ⟨lw_p177, List.forall_mem_cons.mpr ⟨lw_p178, List.forall_mem_cons.mpr ⟨lw_p179, List.forall_mem_cons.mpr ⟨lw_p180, List.forall_mem_cons.mpr ⟨lw_p181, List.forall_mem_cons.mpr ⟨lw_p182, List.forall_mem_cons.mpr ⟨lw_p183, List.forall_mem_cons.mpr ⟨lw_p184, List.forall_mem_cons.mpr ⟨lw_p185, List.forall_mem_cons.mpr ⟨lw_p186, List.forall_mem_cons.mpr ⟨lw_p187, List.forall_mem_cons.mpr ⟨lw_p188, List.forall_mem_cons.mpr ⟨lw_p189, List.forall_mem_cons.mpr ⟨lw_p190, List.forall_mem_cons.mpr ⟨lw_p191, List.forall_mem_cons.mpr ⟨lw_p192, List.forall_mem_cons.mpr ⟨lw_p193, List.forall_mem_cons.mpr ⟨lw_p194, List.forall_mem_cons.mpr ⟨lw_p195, List.forall_mem_cons.mpr ⟨lw_p196, List.forall_mem_cons.mpr ⟨lw_p197, List.forall_mem_cons.mpr ⟨lw_p198, List.forall_mem_cons.mpr ⟨lw_p199, List.forall_mem_cons.mpr ⟨lw_p200, List.forall_mem_cons.mpr ⟨lw_p201, List.forall_mem_cons.mpr ⟨lw_p202, List.forall_mem_cons.mpr ⟨lw_p203, List.forall_mem_cons.mpr ⟨lw_p204, List.forall_mem_cons.mpr ⟨lw_p205, List.forall_mem_cons.mpr ⟨lw_p206, List.forall_mem_cons.mpr ⟨lw_p207, List.forall_mem_cons.mpr ⟨lw_p208, List.forall_mem_cons.mpr ⟨lw_p209, List.forall_mem_cons.mpr ⟨lw_p210, List.forall_mem_cons.mpr ⟨lw_p211, List.forall_mem_cons.mpr ⟨lw_p212, List.forall_mem_cons.mpr ⟨lw_p213, List.forall_mem_cons.mpr ⟨lw_p214, List.forall_mem_cons.mpr ⟨lw_p215, List.forall_mem_cons.mpr ⟨lw_p216, List.forall_mem_cons.mpr ⟨lw_p217, List.forall_mem_cons.mpr ⟨lw_p218, List.forall_mem_cons.mpr ⟨lw_p219, List.forall_mem_cons.mpr ⟨lw_p220, List.forall_mem_cons.mpr ⟨lw_p221, List.forall_mem_cons.mpr ⟨lw_p222, List.forall_mem_cons.mpr ⟨lw_p223, List.forall_mem_cons.mpr ⟨lw_p224, List.forall_mem_cons.mpr ⟨lw_p225, List.forall_mem_cons.mpr ⟨lw_p226, List.forall_mem_cons.mpr ⟨lw_p227, List.forall_mem_cons.mpr ⟨lw_p228, List.forall_mem_cons.mpr ⟨lw_p229, List.forall_mem_cons.mpr ⟨lw_p230, List.forall_mem_cons.mpr ⟨lw_p231, List.forall_mem_cons.mpr ⟨lw_p232, List.forall_mem_cons.mpr ⟨lw_p233, List.forall_mem_cons.mpr ⟨lw_p234, List.forall_mem_cons.mpr ⟨lw_p235, List.forall_mem_cons.mpr ⟨lw_p236, List.forall_mem_cons.mpr ⟨lw_p237, List.forall_mem_cons.mpr ⟨lw_p238, List.forall_mem_cons.mpr ⟨lw_p239, List.forall_mem_cons.mpr ⟨lw_p240, List.forall_mem_cons.mpr ⟨lw_p241, List.forall_mem_cons.mpr ⟨lw_p242, List.forall_mem_cons.mpr ⟨lw_p243, List.forall_mem_cons.mpr ⟨lw_p244, List.forall_mem_cons.mpr ⟨lw_p245, List.forall_mem_cons.mpr ⟨lw_p246, List.forall_mem_cons.mpr ⟨lw_p247, List.forall_mem_cons.mpr ⟨lw_p248, List.forall_mem_cons.mpr ⟨lw_p249, List.forall_mem_cons.mpr ⟨lw_p250, List.forall_mem_cons.mpr ⟨lw_p251, List.forall_mem_cons.mpr ⟨lw_p252, List.forall_mem_cons.mpr ⟨lw_p253, List.forall_mem_cons.mpr ⟨lw_p254, List.forall_mem_cons.mpr ⟨lw_p255, List.forall_mem_cons.mpr ⟨lw_p256, List.forall_mem_cons.mpr ⟨lw_p257, List.forall_mem_cons.mpr ⟨lw_p258, List.forall_mem_cons.mpr ⟨lw_p259, List.forall_mem_cons.mpr ⟨lw_p260, List.forall_mem_cons.mpr ⟨lw_p261, List.forall_mem_cons.mpr ⟨lw_p262, List.forall_mem_cons.mpr ⟨lw_p263, List.forall_mem_cons.mpr ⟨lw_p264, List.forall_mem_cons.mpr ⟨lw_p265, List.forall_mem_cons.mpr ⟨lw_p266, List.forall_mem_cons.mpr ⟨lw_p267, List.forall_mem_cons.mpr ⟨lw_p268, List.forall_mem_cons.mpr ⟨lw_p269, List.forall_mem_cons.mpr ⟨lw_p270, List.forall_mem_cons.mpr ⟨lw_p271, List.forall_mem_cons.mpr ⟨lw_p272, List.forall_mem_cons.mpr ⟨lw_p273, List.forall_mem_cons.mpr ⟨lw_p274, List.forall_mem_cons.mpr ⟨lw_p275, List.forall_mem_cons.mpr ⟨lw_p276, List.forall_mem_cons.mpr ⟨lw_p277, List.forall_mem_cons.mpr ⟨lw_p278, List.forall_mem_cons.mpr ⟨lw_p279, List.forall_mem_cons.mpr ⟨lw_p280, List.forall_mem_cons.mpr ⟨lw_p281, List.forall_mem_cons.mpr ⟨lw_p282, List.forall_mem_cons.mpr ⟨lw_p283, List.forall_mem_cons.mpr ⟨lw_p284, List.forall_mem_cons.mpr ⟨lw_p285, List.forall_mem_cons.mpr ⟨lw_p286, List.forall_mem_cons.mpr ⟨lw_p287, List.forall_mem_cons.mpr ⟨lw_p288, List.forall_mem_cons.mpr ⟨lw_p289, List.forall_mem_cons.mpr ⟨lw_p290, List.forall_mem_cons.mpr ⟨lw_p291, List.forall_mem_cons.mpr ⟨lw_p292, List.forall_mem_cons.mpr ⟨lw_p293, List.forall_mem_cons.mpr ⟨lw_p294, List.forall_mem_cons.mpr ⟨lw_p295, List.forall_mem_cons.mpr ⟨lw_p296, List.forall_mem_cons.mpr ⟨lw_p297, List.forall_mem_cons.mpr ⟨lw_p298, (fun _ h => absurd h List.not_mem_nil)⟩⟩⟩⟩⟩⟩⟩⟩⟩⟩⟩⟩⟩⟩⟩⟩⟩⟩⟩⟩⟩⟩⟩⟩⟩⟩⟩⟩⟩⟩⟩⟩⟩⟩⟩⟩⟩⟩⟩⟩⟩⟩⟩⟩⟩⟩⟩⟩⟩⟩⟩⟩⟩⟩⟩⟩⟩⟩⟩⟩⟩⟩⟩⟩⟩⟩⟩⟩⟩⟩⟩⟩⟩⟩⟩⟩⟩⟩⟩⟩⟩⟩⟩⟩⟩⟩⟩⟩⟩⟩⟩⟩⟩⟩⟩⟩⟩⟩⟩⟩⟩⟩⟩⟩⟩⟩⟩⟩⟩⟩⟩⟩⟩⟩⟩⟩⟩⟩⟩⟩⟩⟩⟩⟩⟩⟩⟩⟩⟩⟩⟩⟩⟩⟩⟩⟩⟩⟩⟩⟩⟩⟩⟩⟩⟩⟩⟩⟩⟩⟩⟩⟩⟩⟩⟩⟩⟩⟩⟩⟩⟩⟩⟩⟩⟩⟩⟩⟩⟩⟩⟩⟩⟩⟩⟩⟩⟩⟩⟩⟩⟩⟩⟩⟩⟩⟩⟩⟩⟩⟩⟩⟩⟩⟩⟩⟩⟩⟩⟩⟩⟩⟩⟩⟩⟩⟩⟩⟩⟩⟩⟩⟩⟩⟩⟩⟩⟩⟩⟩⟩⟩⟩⟩⟩⟩⟩⟩⟩⟩⟩⟩⟩⟩⟩⟩⟩⟩⟩⟩⟩⟩⟩⟩⟩⟩⟩⟩⟩⟩⟩⟩⟩⟩⟩⟩⟩⟩⟩⟩⟩⟩⟩⟩⟩⟩⟩⟩⟩⟩⟩⟩⟩⟩⟩⟩⟩⟩⟩⟩⟩⟩⟩⟩⟩⟩⟩⟩⟩⟩⟩⟩⟩⟩⟩⟩⟩⟩⟩⟩
def lw_tbl : List Cond := k2_sels lw_privs ++ tables_1
def RX0 : String := "TemplateHouse$Checker"
def TX0 : u_T := fun k => match k with
  | 0 => ("TemplateHouse$Checker", "s", "LTemplateHouse$Source;", true)
  | 1 => ("TemplateHouse$Checker", "g", "LTemplateHouse$Gen;", false)
  | 2 => ("TemplateHouse$Checker", "file", "I", false)
  | 3 => ("TemplateHouse$Checker", "number", "I", false)
  | _ => ("TemplateHouse$Checker", "place", "I", false)
def tyX0 : Nat → FieldType := fun k => match k with
  | 0 => .object "TemplateHouse$Source"
  | 1 => .object "TemplateHouse$Gen"
  | 2 => .int
  | 3 => .int
  | _ => .int
theorem nmX0 : ∀ a, a < 5 → ∀ b, b < 5 → a ≠ b → (TX0 a).2.1 ≠ (TX0 b).2.1 := by decide +kernel
theorem tyX0_ok : ∀ k, k < 5 → parseFieldDescriptor (TX0 k).2.2.1 = some (tyX0 k) := by decide +kernel
def RX1 : String := "TemplateHouse$FileReader"
def TX1 : u_T := fun k => match k with
  | 0 => ("TemplateHouse$FileReader", "files", "[[B", true)
  | 1 => ("TemplateHouse$FileReader", "sizes", "[I", true)
  | 2 => ("TemplateHouse$FileReader", "s", "LTemplateHouse$Source;", true)
  | 3 => ("TemplateHouse$FileReader", "g", "LTemplateHouse$Gen;", false)
  | 4 => ("TemplateHouse$FileReader", "t", "LTemplateHouse$TextReader;", true)
  | 5 => ("TemplateHouse$FileReader", "names", "[I", true)
  | 6 => ("TemplateHouse$FileReader", "defaults", "[I", true)
  | 7 => ("TemplateHouse$FileReader", "params", "I", false)
  | 8 => ("TemplateHouse$FileReader", "keys", "[I", true)
  | 9 => ("TemplateHouse$FileReader", "contents", "[I", true)
  | 10 => ("TemplateHouse$FileReader", "entries", "I", false)
  | 11 => ("TemplateHouse$FileReader", "otherwise", "I", false)
  | 12 => ("TemplateHouse$FileReader", "way", "[I", true)
  | 13 => ("TemplateHouse$FileReader", "step", "[I", true)
  | 14 => ("TemplateHouse$FileReader", "deep", "I", false)
  | 15 => ("TemplateHouse$FileReader", "firstDef", "I", false)
  | 16 => ("TemplateHouse$FileReader", "def", "I", false)
  | 17 => ("TemplateHouse$FileReader", "ahead", "I", false)
  | _ => ("TemplateHouse$FileReader", "hasBody", "Z", false)
def tyX1 : Nat → FieldType := fun k => match k with
  | 0 => .array (.array .byte)
  | 1 => .array .int
  | 2 => .object "TemplateHouse$Source"
  | 3 => .object "TemplateHouse$Gen"
  | 4 => .object "TemplateHouse$TextReader"
  | 5 => .array .int
  | 6 => .array .int
  | 7 => .int
  | 8 => .array .int
  | 9 => .array .int
  | 10 => .int
  | 11 => .int
  | 12 => .array .int
  | 13 => .array .int
  | 14 => .int
  | 15 => .int
  | 16 => .int
  | 17 => .int
  | _ => .boolean
theorem nmX1 : ∀ a, a < 19 → ∀ b, b < 19 → a ≠ b → (TX1 a).2.1 ≠ (TX1 b).2.1 := by decide +kernel
theorem tyX1_ok : ∀ k, k < 19 → parseFieldDescriptor (TX1 k).2.2.1 = some (tyX1 k) := by decide +kernel
def RX2 : String := "TemplateHouse$Gen"
def TX2 : u_T := fun k => match k with
  | 0 => ("TemplateHouse$Gen", "names", "LTemplateHouse$Names;", true)
  | 1 => ("TemplateHouse$Gen", "imports", "LTemplateHouse$Imports;", true)
  | 2 => ("TemplateHouse$Gen", "code", "[I", true)
  | 3 => ("TemplateHouse$Gen", "codeEnd", "I", false)
  | 4 => ("TemplateHouse$Gen", "pool", "[B", true)
  | 5 => ("TemplateHouse$Gen", "places", "[I", true)
  | 6 => ("TemplateHouse$Gen", "poolEnd", "I", false)
  | 7 => ("TemplateHouse$Gen", "defs", "[I", true)
  | 8 => ("TemplateHouse$Gen", "defCount", "I", false)
  | 9 => ("TemplateHouse$Gen", "parts", "[I", true)
  | 10 => ("TemplateHouse$Gen", "partCount", "I", false)
  | 11 => ("TemplateHouse$Gen", "calls", "[I", true)
  | 12 => ("TemplateHouse$Gen", "callCount", "I", false)
  | 13 => ("TemplateHouse$Gen", "late", "[I", true)
  | 14 => ("TemplateHouse$Gen", "template", "[I", true)
  | 15 => ("TemplateHouse$Gen", "dictionary", "[I", true)
  | _ => ("TemplateHouse$Gen", "templates", "I", false)
def tyX2 : Nat → FieldType := fun k => match k with
  | 0 => .object "TemplateHouse$Names"
  | 1 => .object "TemplateHouse$Imports"
  | 2 => .array .int
  | 3 => .int
  | 4 => .array .byte
  | 5 => .array .int
  | 6 => .int
  | 7 => .array .int
  | 8 => .int
  | 9 => .array .int
  | 10 => .int
  | 11 => .array .int
  | 12 => .int
  | 13 => .array .int
  | 14 => .array .int
  | 15 => .array .int
  | _ => .int
theorem nmX2 : ∀ a, a < 17 → ∀ b, b < 17 → a ≠ b → (TX2 a).2.1 ≠ (TX2 b).2.1 := by decide +kernel
theorem tyX2_ok : ∀ k, k < 17 → parseFieldDescriptor (TX2 k).2.2.1 = some (tyX2 k) := by decide +kernel
def RX3 : String := "TemplateHouse$Heap"
def TX3 : u_T := fun k => match k with
  | 0 => ("TemplateHouse$Heap", "store", "LTemplateHouse$Store;", true)
  | 1 => ("TemplateHouse$Heap", "teller", "LTemplateHouse$Teller;", true)
  | 2 => ("TemplateHouse$Heap", "g", "LTemplateHouse$Gen;", false)
  | 3 => ("TemplateHouse$Heap", "text", "[I", true)
  | 4 => ("TemplateHouse$Heap", "parent", "[I", true)
  | 5 => ("TemplateHouse$Heap", "turn", "[I", true)
  | 6 => ("TemplateHouse$Heap", "attrs", "[I", true)
  | 7 => ("TemplateHouse$Heap", "made", "I", false)
  | 8 => ("TemplateHouse$Heap", "rows", "[I", true)
  | 9 => ("TemplateHouse$Heap", "rowsEnd", "I", false)
  | 10 => ("TemplateHouse$Heap", "listed", "I", false)
  | 11 => ("TemplateHouse$Heap", "words", "[B", true)
  | 12 => ("TemplateHouse$Heap", "wordsEnd", "I", false)
  | 13 => ("TemplateHouse$Heap", "rootNames", "[I", true)
  | 14 => ("TemplateHouse$Heap", "rootValues", "[I", true)
  | 15 => ("TemplateHouse$Heap", "rootCount", "I", false)
  | 16 => ("TemplateHouse$Heap", "spelled", "[B", false)
  | 17 => ("TemplateHouse$Heap", "from", "I", false)
  | 18 => ("TemplateHouse$Heap", "length", "I", false)
  | _ => ("TemplateHouse$Heap", "digits", "[B", true)
def tyX3 : Nat → FieldType := fun k => match k with
  | 0 => .object "TemplateHouse$Store"
  | 1 => .object "TemplateHouse$Teller"
  | 2 => .object "TemplateHouse$Gen"
  | 3 => .array .int
  | 4 => .array .int
  | 5 => .array .int
  | 6 => .array .int
  | 7 => .int
  | 8 => .array .int
  | 9 => .int
  | 10 => .int
  | 11 => .array .byte
  | 12 => .int
  | 13 => .array .int
  | 14 => .array .int
  | 15 => .int
  | 16 => .array .byte
  | 17 => .int
  | 18 => .int
  | _ => .array .byte
theorem nmX3 : ∀ a, a < 20 → ∀ b, b < 20 → a ≠ b → (TX3 a).2.1 ≠ (TX3 b).2.1 := by decide +kernel
theorem tyX3_ok : ∀ k, k < 20 → parseFieldDescriptor (TX3 k).2.2.1 = some (tyX3 k) := by decide +kernel
def RX4 : String := "TemplateHouse$Imports"
def TX4 : u_T := fun k => match k with
  | 0 => ("TemplateHouse$Imports", "direct", "[I", true)
  | 1 => ("TemplateHouse$Imports", "directs", "[I", true)
  | 2 => ("TemplateHouse$Imports", "ways", "[I", true)
  | 3 => ("TemplateHouse$Imports", "wayLengths", "[I", true)
  | 4 => ("TemplateHouse$Imports", "read", "[I", true)
  | _ => ("TemplateHouse$Imports", "reads", "I", false)
def tyX4 : Nat → FieldType := fun k => match k with
  | 0 => .array .int
  | 1 => .array .int
  | 2 => .array .int
  | 3 => .array .int
  | 4 => .array .int
  | _ => .int
theorem nmX4 : ∀ a, a < 6 → ∀ b, b < 6 → a ≠ b → (TX4 a).2.1 ≠ (TX4 b).2.1 := by decide +kernel
theorem tyX4_ok : ∀ k, k < 6 → parseFieldDescriptor (TX4 k).2.2.1 = some (tyX4 k) := by decide +kernel
def RX5 : String := "TemplateHouse$Maker"
def TX5 : u_T := fun k => match k with
  | 0 => ("TemplateHouse$Maker", "teller", "LTemplateHouse$Teller;", true)
  | 1 => ("TemplateHouse$Maker", "writer", "LTemplateHouse$Writer;", true)
  | 2 => ("TemplateHouse$Maker", "heap", "LTemplateHouse$Heap;", true)
  | 3 => ("TemplateHouse$Maker", "g", "LTemplateHouse$Gen;", false)
  | 4 => ("TemplateHouse$Maker", "stack", "[I", true)
  | 5 => ("TemplateHouse$Maker", "top", "I", false)
  | 6 => ("TemplateHouse$Maker", "frames", "[I", true)
  | 7 => ("TemplateHouse$Maker", "begun", "I", false)
  | 8 => ("TemplateHouse$Maker", "pc", "I", false)
  | 9 => ("TemplateHouse$Maker", "self", "I", false)
  | 10 => ("TemplateHouse$Maker", "element", "I", false)
  | 11 => ("TemplateHouse$Maker", "mark", "I", false)
  | 12 => ("TemplateHouse$Maker", "depth", "I", false)
  | 13 => ("TemplateHouse$Maker", "loop", "I", false)
  | 14 => ("TemplateHouse$Maker", "written", "I", false)
  | 15 => ("TemplateHouse$Maker", "separator", "I", false)
  | 16 => ("TemplateHouse$Maker", "ofNothing", "I", false)
  | 17 => ("TemplateHouse$Maker", "format", "I", false)
  | 18 => ("TemplateHouse$Maker", "wrap", "I", false)
  | 19 => ("TemplateHouse$Maker", "ended", "Z", false)
  | _ => ("TemplateHouse$Maker", "atFirst", "I", false)
def tyX5 : Nat → FieldType := fun k => match k with
  | 0 => .object "TemplateHouse$Teller"
  | 1 => .object "TemplateHouse$Writer"
  | 2 => .object "TemplateHouse$Heap"
  | 3 => .object "TemplateHouse$Gen"
  | 4 => .array .int
  | 5 => .int
  | 6 => .array .int
  | 7 => .int
  | 8 => .int
  | 9 => .int
  | 10 => .int
  | 11 => .int
  | 12 => .int
  | 13 => .int
  | 14 => .int
  | 15 => .int
  | 16 => .int
  | 17 => .int
  | 18 => .int
  | 19 => .boolean
  | _ => .int
theorem nmX5 : ∀ a, a < 21 → ∀ b, b < 21 → a ≠ b → (TX5 a).2.1 ≠ (TX5 b).2.1 := by decide +kernel
theorem tyX5_ok : ∀ k, k < 21 → parseFieldDescriptor (TX5 k).2.2.1 = some (tyX5 k) := by decide +kernel
def RX6 : String := "TemplateHouse$Names"
def TX6 : u_T := fun k => match k with
  | 0 => ("TemplateHouse$Names", "bytes", "[B", true)
  | 1 => ("TemplateHouse$Names", "from", "[I", true)
  | 2 => ("TemplateHouse$Names", "next", "[I", true)
  | 3 => ("TemplateHouse$Names", "head", "[I", true)
  | 4 => ("TemplateHouse$Names", "count", "I", false)
  | _ => ("TemplateHouse$Names", "used", "I", false)
def tyX6 : Nat → FieldType := fun k => match k with
  | 0 => .array .byte
  | 1 => .array .int
  | 2 => .array .int
  | 3 => .array .int
  | 4 => .int
  | _ => .int
theorem nmX6 : ∀ a, a < 6 → ∀ b, b < 6 → a ≠ b → (TX6 a).2.1 ≠ (TX6 b).2.1 := by decide +kernel
theorem tyX6_ok : ∀ k, k < 6 → parseFieldDescriptor (TX6 k).2.2.1 = some (tyX6 k) := by decide +kernel
def RX7 : String := "TemplateHouse$Source"
def TX7 : u_T := fun k => match k with
  | 0 => ("TemplateHouse$Source", "src", "[B", false)
  | 1 => ("TemplateHouse$Source", "isFile", "Z", false)
  | 2 => ("TemplateHouse$Source", "packed", "[B", true)
  | 3 => ("TemplateHouse$Source", "places", "[I", true)
  | 4 => ("TemplateHouse$Source", "lim", "I", false)
  | 5 => ("TemplateHouse$Source", "pos", "I", false)
  | 6 => ("TemplateHouse$Source", "file", "I", false)
  | 7 => ("TemplateHouse$Source", "number", "I", false)
  | 8 => ("TemplateHouse$Source", "where", "I", false)
  | 9 => ("TemplateHouse$Source", "whole", "[B", false)
  | 10 => ("TemplateHouse$Source", "wholeLim", "I", false)
  | _ => ("TemplateHouse$Source", "after", "I", false)
def tyX7 : Nat → FieldType := fun k => match k with
  | 0 => .array .byte
  | 1 => .boolean
  | 2 => .array .byte
  | 3 => .array .int
  | 4 => .int
  | 5 => .int
  | 6 => .int
  | 7 => .int
  | 8 => .int
  | 9 => .array .byte
  | 10 => .int
  | _ => .int
theorem nmX7 : ∀ a, a < 12 → ∀ b, b < 12 → a ≠ b → (TX7 a).2.1 ≠ (TX7 b).2.1 := by decide +kernel
theorem tyX7_ok : ∀ k, k < 12 → parseFieldDescriptor (TX7 k).2.2.1 = some (tyX7 k) := by decide +kernel
def RX8 : String := "TemplateHouse$Store"
def TX8 : u_T := fun k => match k with
  | 0 => ("TemplateHouse$Store", "sort", "[I", true)
  | 1 => ("TemplateHouse$Store", "much", "[J", true)
  | 2 => ("TemplateHouse$Store", "from", "[I", true)
  | 3 => ("TemplateHouse$Store", "length", "[I", true)
  | 4 => ("TemplateHouse$Store", "size", "[I", true)
  | 5 => ("TemplateHouse$Store", "cells", "[I", true)
  | 6 => ("TemplateHouse$Store", "bytes", "[B", true)
  | 7 => ("TemplateHouse$Store", "count", "I", false)
  | 8 => ("TemplateHouse$Store", "used", "I", false)
  | 9 => ("TemplateHouse$Store", "listed", "I", false)
  | 10 => ("TemplateHouse$Store", "addedNames", "[B", true)
  | 11 => ("TemplateHouse$Store", "addedLengths", "[I", true)
  | 12 => ("TemplateHouse$Store", "addedValues", "[I", true)
  | _ => ("TemplateHouse$Store", "addedCount", "I", false)
def tyX8 : Nat → FieldType := fun k => match k with
  | 0 => .array .int
  | 1 => .array .long
  | 2 => .array .int
  | 3 => .array .int
  | 4 => .array .int
  | 5 => .array .int
  | 6 => .array .byte
  | 7 => .int
  | 8 => .int
  | 9 => .int
  | 10 => .array .byte
  | 11 => .array .int
  | 12 => .array .int
  | _ => .int
theorem nmX8 : ∀ a, a < 14 → ∀ b, b < 14 → a ≠ b → (TX8 a).2.1 ≠ (TX8 b).2.1 := by decide +kernel
theorem tyX8_ok : ∀ k, k < 14 → parseFieldDescriptor (TX8 k).2.2.1 = some (tyX8 k) := by decide +kernel
def RX9 : String := "TemplateHouse$Teller"
def TX9 : u_T := fun k => match k with
  | 0 => ("TemplateHouse$Teller", "errors", "[I", true)
  | 1 => ("TemplateHouse$Teller", "looks", "[I", true)
  | _ => ("TemplateHouse$Teller", "counts", "[I", true)
def tyX9 : Nat → FieldType := fun k => match k with
  | 0 => .array .int
  | 1 => .array .int
  | _ => .array .int
theorem nmX9 : ∀ a, a < 3 → ∀ b, b < 3 → a ≠ b → (TX9 a).2.1 ≠ (TX9 b).2.1 := by decide +kernel
theorem tyX9_ok : ∀ k, k < 3 → parseFieldDescriptor (TX9 k).2.2.1 = some (tyX9 k) := by decide +kernel
def RX10 : String := "TemplateHouse$TextReader"
def TX10 : u_T := fun k => match k with
  | 0 => ("TemplateHouse$TextReader", "s", "LTemplateHouse$Source;", true)
  | 1 => ("TemplateHouse$TextReader", "g", "LTemplateHouse$Gen;", false)
  | 2 => ("TemplateHouse$TextReader", "open", "I", false)
  | 3 => ("TemplateHouse$TextReader", "close", "I", false)
  | 4 => ("TemplateHouse$TextReader", "kind", "I", false)
  | 5 => ("TemplateHouse$TextReader", "owner", "I", false)
  | 6 => ("TemplateHouse$TextReader", "filled", "I", false)
  | 7 => ("TemplateHouse$TextReader", "firstPart", "I", false)
  | 8 => ("TemplateHouse$TextReader", "inSub", "Z", false)
  | 9 => ("TemplateHouse$TextReader", "runFrom", "I", false)
  | 10 => ("TemplateHouse$TextReader", "runLength", "I", false)
  | 11 => ("TemplateHouse$TextReader", "lineStart", "Z", false)
  | 12 => ("TemplateHouse$TextReader", "argCount", "I", false)
  | 13 => ("TemplateHouse$TextReader", "argFlags", "I", false)
  | 14 => ("TemplateHouse$TextReader", "argNamed", "I", false)
  | 15 => ("TemplateHouse$TextReader", "endAlone", "Z", false)
  | _ => ("TemplateHouse$TextReader", "endPatch", "I", false)
def tyX10 : Nat → FieldType := fun k => match k with
  | 0 => .object "TemplateHouse$Source"
  | 1 => .object "TemplateHouse$Gen"
  | 2 => .int
  | 3 => .int
  | 4 => .int
  | 5 => .int
  | 6 => .int
  | 7 => .int
  | 8 => .boolean
  | 9 => .int
  | 10 => .int
  | 11 => .boolean
  | 12 => .int
  | 13 => .int
  | 14 => .int
  | 15 => .boolean
  | _ => .int
theorem nmX10 : ∀ a, a < 17 → ∀ b, b < 17 → a ≠ b → (TX10 a).2.1 ≠ (TX10 b).2.1 := by decide +kernel
theorem tyX10_ok : ∀ k, k < 17 → parseFieldDescriptor (TX10 k).2.2.1 = some (tyX10 k) := by decide +kernel
def RX11 : String := "TemplateHouse$Writer"
def TX11 : u_T := fun k => match k with
  | 0 => ("TemplateHouse$Writer", "teller", "LTemplateHouse$Teller;", true)
  | 1 => ("TemplateHouse$Writer", "text", "[B", true)
  | 2 => ("TemplateHouse$Writer", "noted", "[I", true)
  | 3 => ("TemplateHouse$Writer", "length", "I", false)
  | 4 => ("TemplateHouse$Writer", "width", "I", false)
  | 5 => ("TemplateHouse$Writer", "column", "I", false)
  | 6 => ("TemplateHouse$Writer", "atStart", "Z", false)
  | 7 => ("TemplateHouse$Writer", "puts", "I", false)
  | 8 => ("TemplateHouse$Writer", "level", "I", false)
  | 9 => ("TemplateHouse$Writer", "words", "[B", true)
  | 10 => ("TemplateHouse$Writer", "wordLength", "I", false)
  | 11 => ("TemplateHouse$Writer", "pool", "[B", false)
  | 12 => ("TemplateHouse$Writer", "indents", "[I", true)
  | 13 => ("TemplateHouse$Writer", "indentBase", "I", false)
  | 14 => ("TemplateHouse$Writer", "indentEnd", "I", false)
  | _ => ("TemplateHouse$Writer", "anchor", "I", false)
def tyX11 : Nat → FieldType := fun k => match k with
  | 0 => .object "TemplateHouse$Teller"
  | 1 => .array .byte
  | 2 => .array .int
  | 3 => .int
  | 4 => .int
  | 5 => .int
  | 6 => .boolean
  | 7 => .int
  | 8 => .int
  | 9 => .array .byte
  | 10 => .int
  | 11 => .array .byte
  | 12 => .array .int
  | 13 => .int
  | 14 => .int
  | _ => .int
theorem nmX11 : ∀ a, a < 16 → ∀ b, b < 16 → a ≠ b → (TX11 a).2.1 ≠ (TX11 b).2.1 := by decide +kernel
theorem tyX11_ok : ∀ k, k < 16 → parseFieldDescriptor (TX11 k).2.2.1 = some (tyX11 k) := by decide +kernel
def RX12 : String := "TemplateHouse"
def TX12 : u_T := fun k => match k with
  | 0 => ("TemplateHouse", "ready", "[B", true)
  | 1 => ("TemplateHouse", "tape", "[B", true)
  | 2 => ("TemplateHouse", "taped", "I", false)
  | 3 => ("TemplateHouse", "files", "[[B", true)
  | 4 => ("TemplateHouse", "sizes", "[I", true)
  | 5 => ("TemplateHouse", "store", "LTemplateHouse$Store;", true)
  | 6 => ("TemplateHouse", "source", "LTemplateHouse$Source;", true)
  | 7 => ("TemplateHouse", "now", "LTemplateHouse$Gen;", false)
  | 8 => ("TemplateHouse", "spare", "LTemplateHouse$Gen;", false)
  | 9 => ("TemplateHouse", "reader", "LTemplateHouse$FileReader;", true)
  | 10 => ("TemplateHouse", "checker", "LTemplateHouse$Checker;", true)
  | 11 => ("TemplateHouse", "maker", "LTemplateHouse$Maker;", true)
  | 12 => ("TemplateHouse", "generations", "I", false)
  | 13 => ("TemplateHouse", "faultNumber", "I", false)
  | 14 => ("TemplateHouse", "faultFile", "I", false)
  | 15 => ("TemplateHouse", "faultPlace", "I", false)
  | 16 => ("TemplateHouse", "wide", "I", false)
  | 17 => ("TemplateHouse", "state", "I", false)
  | _ => ("TemplateHouse", "shown", "I", false)
def tyX12 : Nat → FieldType := fun k => match k with
  | 0 => .array .byte
  | 1 => .array .byte
  | 2 => .int
  | 3 => .array (.array .byte)
  | 4 => .array .int
  | 5 => .object "TemplateHouse$Store"
  | 6 => .object "TemplateHouse$Source"
  | 7 => .object "TemplateHouse$Gen"
  | 8 => .object "TemplateHouse$Gen"
  | 9 => .object "TemplateHouse$FileReader"
  | 10 => .object "TemplateHouse$Checker"
  | 11 => .object "TemplateHouse$Maker"
  | 12 => .int
  | 13 => .int
  | 14 => .int
  | 15 => .int
  | 16 => .int
  | 17 => .int
  | _ => .int
theorem nmX12 : ∀ a, a < 19 → ∀ b, b < 19 → a ≠ b → (TX12 a).2.1 ≠ (TX12 b).2.1 := by decide +kernel
theorem tyX12_ok : ∀ k, k < 19 → parseFieldDescriptor (TX12 k).2.2.1 = some (tyX12 k) := by decide +kernel
def RX13 : String := "TemplateHouseModel$Group"
def TX13 : u_T := fun k => match k with
  | 0 => ("TemplateHouseModel$Group", "kind", "[I", true)
  | 1 => ("TemplateHouseModel$Group", "a", "[I", true)
  | 2 => ("TemplateHouseModel$Group", "b", "[I", true)
  | 3 => ("TemplateHouseModel$Group", "c", "[I", true)
  | 4 => ("TemplateHouseModel$Group", "d", "[I", true)
  | 5 => ("TemplateHouseModel$Group", "next", "[I", true)
  | 6 => ("TemplateHouseModel$Group", "place", "[I", true)
  | 7 => ("TemplateHouseModel$Group", "nodes", "I", false)
  | 8 => ("TemplateHouseModel$Group", "bytes", "[B", true)
  | 9 => ("TemplateHouseModel$Group", "size", "I", false)
  | 10 => ("TemplateHouseModel$Group", "nameAt", "[I", true)
  | 11 => ("TemplateHouseModel$Group", "nameSize", "[I", true)
  | 12 => ("TemplateHouseModel$Group", "names", "I", false)
  | 13 => ("TemplateHouseModel$Group", "readNames", "I", false)
  | 14 => ("TemplateHouseModel$Group", "readSize", "I", false)
  | 15 => ("TemplateHouseModel$Group", "defKind", "[I", true)
  | 16 => ("TemplateHouseModel$Group", "defName", "[I", true)
  | 17 => ("TemplateHouseModel$Group", "defOther", "[I", true)
  | 18 => ("TemplateHouseModel$Group", "defText", "[I", true)
  | 19 => ("TemplateHouseModel$Group", "defParams", "[I", true)
  | 20 => ("TemplateHouseModel$Group", "defMany", "[I", true)
  | 21 => ("TemplateHouseModel$Group", "defDefault", "[I", true)
  | 22 => ("TemplateHouseModel$Group", "defPlace", "[I", true)
  | 23 => ("TemplateHouseModel$Group", "defPlace2", "[I", true)
  | 24 => ("TemplateHouseModel$Group", "many", "[I", true)
  | 25 => ("TemplateHouseModel$Group", "imports", "[I", true)
  | 26 => ("TemplateHouseModel$Group", "importMany", "[I", true)
  | 27 => ("TemplateHouseModel$Group", "isRead", "[Z", true)
  | 28 => ("TemplateHouseModel$Group", "first", "I", false)
  | 29 => ("TemplateHouseModel$Group", "partDef", "[I", true)
  | 30 => ("TemplateHouseModel$Group", "partName", "[I", true)
  | 31 => ("TemplateHouseModel$Group", "partNode", "[I", true)
  | 32 => ("TemplateHouseModel$Group", "parts", "I", false)
  | 33 => ("TemplateHouseModel$Group", "checkKind", "[I", true)
  | 34 => ("TemplateHouseModel$Group", "checkNode", "[I", true)
  | 35 => ("TemplateHouseModel$Group", "checkOf", "[I", true)
  | 36 => ("TemplateHouseModel$Group", "checkPlace", "[I", true)
  | 37 => ("TemplateHouseModel$Group", "checkFile", "[I", true)
  | _ => ("TemplateHouseModel$Group", "checks", "I", false)
def tyX13 : Nat → FieldType := fun k => match k with
  | 0 => .array .int
  | 1 => .array .int
  | 2 => .array .int
  | 3 => .array .int
  | 4 => .array .int
  | 5 => .array .int
  | 6 => .array .int
  | 7 => .int
  | 8 => .array .byte
  | 9 => .int
  | 10 => .array .int
  | 11 => .array .int
  | 12 => .int
  | 13 => .int
  | 14 => .int
  | 15 => .array .int
  | 16 => .array .int
  | 17 => .array .int
  | 18 => .array .int
  | 19 => .array .int
  | 20 => .array .int
  | 21 => .array .int
  | 22 => .array .int
  | 23 => .array .int
  | 24 => .array .int
  | 25 => .array .int
  | 26 => .array .int
  | 27 => .array .boolean
  | 28 => .int
  | 29 => .array .int
  | 30 => .array .int
  | 31 => .array .int
  | 32 => .int
  | 33 => .array .int
  | 34 => .array .int
  | 35 => .array .int
  | 36 => .array .int
  | 37 => .array .int
  | _ => .int
theorem nmX13 : ∀ a, a < 39 → ∀ b, b < 39 → a ≠ b → (TX13 a).2.1 ≠ (TX13 b).2.1 := by decide +kernel
theorem tyX13_ok : ∀ k, k < 39 → parseFieldDescriptor (TX13 k).2.2.1 = some (tyX13 k) := by decide +kernel
def RX14 : String := "TemplateHouseModel"
def TX14 : u_T := fun k => match k with
  | 0 => ("TemplateHouseModel", "thrown", "I", false)
  | 1 => ("TemplateHouseModel", "ready", "[B", true)
  | 2 => ("TemplateHouseModel", "tape", "[B", true)
  | 3 => ("TemplateHouseModel", "taped", "I", false)
  | 4 => ("TemplateHouseModel", "files", "[[B", true)
  | 5 => ("TemplateHouseModel", "fileSize", "[I", true)
  | 6 => ("TemplateHouseModel", "groups", "[LTemplateHouseModel$Group;", true)
  | 7 => ("TemplateHouseModel", "g", "LTemplateHouseModel$Group;", false)
  | 8 => ("TemplateHouseModel", "now", "LTemplateHouseModel$Group;", false)
  | 9 => ("TemplateHouseModel", "made", "LTemplateHouseModel$Group;", false)
  | 10 => ("TemplateHouseModel", "fault", "I", false)
  | 11 => ("TemplateHouseModel", "faultFile", "I", false)
  | 12 => ("TemplateHouseModel", "faultPlace", "I", false)
  | 13 => ("TemplateHouseModel", "wasLoaded", "Z", false)
  | 14 => ("TemplateHouseModel", "f", "I", false)
  | 15 => ("TemplateHouseModel", "fb", "[B", false)
  | 16 => ("TemplateHouseModel", "fn", "I", false)
  | 17 => ("TemplateHouseModel", "fp", "I", false)
  | 18 => ("TemplateHouseModel", "open", "I", false)
  | 19 => ("TemplateHouseModel", "close", "I", false)
  | 20 => ("TemplateHouseModel", "onWay", "[Z", true)
  | 21 => ("TemplateHouseModel", "wordAt", "I", false)
  | 22 => ("TemplateHouseModel", "stringAt", "I", false)
  | 23 => ("TemplateHouseModel", "stringEnd", "I", false)
  | 24 => ("TemplateHouseModel", "keptAt", "I", false)
  | 25 => ("TemplateHouseModel", "keptSize", "I", false)
  | 26 => ("TemplateHouseModel", "tb", "[B", true)
  | 27 => ("TemplateHouseModel", "tp", "[I", true)
  | 28 => ("TemplateHouseModel", "tn", "I", false)
  | 29 => ("TemplateHouseModel", "at", "I", false)
  | 30 => ("TemplateHouseModel", "endPlace", "I", false)
  | 31 => ("TemplateHouseModel", "depth", "I", false)
  | 32 => ("TemplateHouseModel", "inTemplate", "I", false)
  | 33 => ("TemplateHouseModel", "inRegion", "I", false)
  | 34 => ("TemplateHouseModel", "wordKind", "[I", true)
  | 35 => ("TemplateHouseModel", "wordNode", "[I", true)
  | 36 => ("TemplateHouseModel", "wordPlace", "[I", true)
  | 37 => ("TemplateHouseModel", "gone", "[Z", true)
  | 38 => ("TemplateHouseModel", "words", "I", false)
  | 39 => ("TemplateHouseModel", "openMany", "I", false)
  | 40 => ("TemplateHouseModel", "openKind", "[I", true)
  | 41 => ("TemplateHouseModel", "namePlace", "I", false)
  | 42 => ("TemplateHouseModel", "at0", "I", false)
  | 43 => ("TemplateHouseModel", "values", "I", false)
  | 44 => ("TemplateHouseModel", "listed", "I", false)
  | 45 => ("TemplateHouseModel", "kept", "I", false)
  | 46 => ("TemplateHouseModel", "valueKind", "[I", true)
  | 47 => ("TemplateHouseModel", "number", "[J", true)
  | 48 => ("TemplateHouseModel", "letters", "[B", true)
  | 49 => ("TemplateHouseModel", "wordFrom", "[I", true)
  | 50 => ("TemplateHouseModel", "wordSize", "[I", true)
  | 51 => ("TemplateHouseModel", "many", "[I", true)
  | 52 => ("TemplateHouseModel", "listValue", "[I", true)
  | 53 => ("TemplateHouseModel", "keyFrom", "[I", true)
  | 54 => ("TemplateHouseModel", "keySize", "[I", true)
  | 55 => ("TemplateHouseModel", "mapValue", "[I", true)
  | 56 => ("TemplateHouseModel", "propertyFrom", "[I", true)
  | 57 => ("TemplateHouseModel", "propertySize", "[I", true)
  | 58 => ("TemplateHouseModel", "propertySort", "[I", true)
  | 59 => ("TemplateHouseModel", "propertyValue", "[I", true)
  | 60 => ("TemplateHouseModel", "added", "I", false)
  | 61 => ("TemplateHouseModel", "addedFrom", "[I", true)
  | 62 => ("TemplateHouseModel", "addedSize", "[I", true)
  | 63 => ("TemplateHouseModel", "addedValue", "[I", true)
  | 64 => ("TemplateHouseModel", "addedBytes", "[B", true)
  | 65 => ("TemplateHouseModel", "width", "I", false)
  | 66 => ("TemplateHouseModel", "took", "I", false)
  | 67 => ("TemplateHouseModel", "generations", "I", false)
  | 68 => ("TemplateHouseModel", "state", "I", false)
  | 69 => ("TemplateHouseModel", "out", "[B", true)
  | 70 => ("TemplateHouseModel", "outs", "I", false)
  | 71 => ("TemplateHouseModel", "limit", "I", false)
  | 72 => ("TemplateHouseModel", "halt", "I", false)
  | 73 => ("TemplateHouseModel", "errors", "I", false)
  | 74 => ("TemplateHouseModel", "looks", "I", false)
  | 75 => ("TemplateHouseModel", "errorKind", "[I", true)
  | 76 => ("TemplateHouseModel", "errorFile", "[I", true)
  | 77 => ("TemplateHouseModel", "errorPlace", "[I", true)
  | 78 => ("TemplateHouseModel", "lookBean", "[I", true)
  | 79 => ("TemplateHouseModel", "lookOf", "[I", true)
  | 80 => ("TemplateHouseModel", "textWidth", "I", false)
  | 81 => ("TemplateHouseModel", "textAdded", "I", false)
  | 82 => ("TemplateHouseModel", "textTemplate", "I", false)
  | 83 => ("TemplateHouseModel", "instances", "I", false)
  | 84 => ("TemplateHouseModel", "instText", "[I", true)
  | 85 => ("TemplateHouseModel", "instIn", "[I", true)
  | 86 => ("TemplateHouseModel", "instFrom", "[I", true)
  | 87 => ("TemplateHouseModel", "instMany", "[I", true)
  | 88 => ("TemplateHouseModel", "attributes", "I", false)
  | 89 => ("TemplateHouseModel", "attrName", "[I", true)
  | 90 => ("TemplateHouseModel", "attrValue", "[J", true)
  | 91 => ("TemplateHouseModel", "wordBytes", "[B", true)
  | 92 => ("TemplateHouseModel", "wordBytesUsed", "I", false)
  | 93 => ("TemplateHouseModel", "row", "[J", true)
  | 94 => ("TemplateHouseModel", "rowUsed", "I", false)
  | 95 => ("TemplateHouseModel", "pile", "[J", false)
  | 96 => ("TemplateHouseModel", "piled", "I", false)
  | 97 => ("TemplateHouseModel", "written", "I", false)
  | 98 => ("TemplateHouseModel", "hand", "I", false)
  | 99 => ("TemplateHouseModel", "nest", "I", false)
  | 100 => ("TemplateHouseModel", "listedNow", "I", false)
  | 101 => ("TemplateHouseModel", "wasThere", "Z", false)
  | 102 => ("TemplateHouseModel", "plain", "[B", true)
  | 103 => ("TemplateHouseModel", "plainSize", "I", false)
  | 104 => ("TemplateHouseModel", "writer", "I", false)
  | 105 => ("TemplateHouseModel", "columnOf", "[I", true)
  | 106 => ("TemplateHouseModel", "sizeOfWord", "[I", true)
  | 107 => ("TemplateHouseModel", "indentBase", "[I", true)
  | 108 => ("TemplateHouseModel", "anchorBase", "[I", true)
  | 109 => ("TemplateHouseModel", "putOut", "[J", true)
  | 110 => ("TemplateHouseModel", "atBeginning", "[Z", true)
  | 111 => ("TemplateHouseModel", "wordOf", "[B", true)
  | 112 => ("TemplateHouseModel", "indents", "I", false)
  | 113 => ("TemplateHouseModel", "anchors", "I", false)
  | 114 => ("TemplateHouseModel", "indentFrom", "[I", true)
  | 115 => ("TemplateHouseModel", "indentSize", "[I", true)
  | 116 => ("TemplateHouseModel", "anchorAt", "[I", true)
  | 117 => ("TemplateHouseModel", "counters", "[B", true)
  | 118 => ("TemplateHouseModel", "nameI", "I", false)
  | 119 => ("TemplateHouseModel", "nameI0", "I", false)
  | 120 => ("TemplateHouseModel", "condOf", "[I", true)
  | 121 => ("TemplateHouseModel", "condAt", "[I", true)
  | 122 => ("TemplateHouseModel", "conds", "I", false)
  | 123 => ("TemplateHouseModel", "options", "I", false)
  | 124 => ("TemplateHouseModel", "separatorOf", "[J", true)
  | 125 => ("TemplateHouseModel", "nullOf", "[J", true)
  | 126 => ("TemplateHouseModel", "formatOf", "[I", true)
  | 127 => ("TemplateHouseModel", "digitsOf", "[I", true)
  | 128 => ("TemplateHouseModel", "wrapFrom", "[I", true)
  | 129 => ("TemplateHouseModel", "wrapSize", "[I", true)
  | 130 => ("TemplateHouseModel", "frameOf", "[J", false)
  | 131 => ("TemplateHouseModel", "frameAt", "[I", false)
  | 132 => ("TemplateHouseModel", "frameEnd", "[I", false)
  | 133 => ("TemplateHouseModel", "frameFrom", "[I", false)
  | 134 => ("TemplateHouseModel", "frameSeen", "[Z", false)
  | 135 => ("TemplateHouseModel", "frames", "I", false)
  | 136 => ("TemplateHouseModel", "shaped", "[B", true)
  | 137 => ("TemplateHouseModel", "shapedSize", "I", false)
  | _ => ("TemplateHouseModel", "addedName", "[I", true)
def tyX14 : Nat → FieldType := fun k => match k with
  | 0 => .int
  | 1 => .array .byte
  | 2 => .array .byte
  | 3 => .int
  | 4 => .array (.array .byte)
  | 5 => .array .int
  | 6 => .array (.object "TemplateHouseModel$Group")
  | 7 => .object "TemplateHouseModel$Group"
  | 8 => .object "TemplateHouseModel$Group"
  | 9 => .object "TemplateHouseModel$Group"
  | 10 => .int
  | 11 => .int
  | 12 => .int
  | 13 => .boolean
  | 14 => .int
  | 15 => .array .byte
  | 16 => .int
  | 17 => .int
  | 18 => .int
  | 19 => .int
  | 20 => .array .boolean
  | 21 => .int
  | 22 => .int
  | 23 => .int
  | 24 => .int
  | 25 => .int
  | 26 => .array .byte
  | 27 => .array .int
  | 28 => .int
  | 29 => .int
  | 30 => .int
  | 31 => .int
  | 32 => .int
  | 33 => .int
  | 34 => .array .int
  | 35 => .array .int
  | 36 => .array .int
  | 37 => .array .boolean
  | 38 => .int
  | 39 => .int
  | 40 => .array .int
  | 41 => .int
  | 42 => .int
  | 43 => .int
  | 44 => .int
  | 45 => .int
  | 46 => .array .int
  | 47 => .array .long
  | 48 => .array .byte
  | 49 => .array .int
  | 50 => .array .int
  | 51 => .array .int
  | 52 => .array .int
  | 53 => .array .int
  | 54 => .array .int
  | 55 => .array .int
  | 56 => .array .int
  | 57 => .array .int
  | 58 => .array .int
  | 59 => .array .int
  | 60 => .int
  | 61 => .array .int
  | 62 => .array .int
  | 63 => .array .int
  | 64 => .array .byte
  | 65 => .int
  | 66 => .int
  | 67 => .int
  | 68 => .int
  | 69 => .array .byte
  | 70 => .int
  | 71 => .int
  | 72 => .int
  | 73 => .int
  | 74 => .int
  | 75 => .array .int
  | 76 => .array .int
  | 77 => .array .int
  | 78 => .array .int
  | 79 => .array .int
  | 80 => .int
  | 81 => .int
  | 82 => .int
  | 83 => .int
  | 84 => .array .int
  | 85 => .array .int
  | 86 => .array .int
  | 87 => .array .int
  | 88 => .int
  | 89 => .array .int
  | 90 => .array .long
  | 91 => .array .byte
  | 92 => .int
  | 93 => .array .long
  | 94 => .int
  | 95 => .array .long
  | 96 => .int
  | 97 => .int
  | 98 => .int
  | 99 => .int
  | 100 => .int
  | 101 => .boolean
  | 102 => .array .byte
  | 103 => .int
  | 104 => .int
  | 105 => .array .int
  | 106 => .array .int
  | 107 => .array .int
  | 108 => .array .int
  | 109 => .array .long
  | 110 => .array .boolean
  | 111 => .array .byte
  | 112 => .int
  | 113 => .int
  | 114 => .array .int
  | 115 => .array .int
  | 116 => .array .int
  | 117 => .array .byte
  | 118 => .int
  | 119 => .int
  | 120 => .array .int
  | 121 => .array .int
  | 122 => .int
  | 123 => .int
  | 124 => .array .long
  | 125 => .array .long
  | 126 => .array .int
  | 127 => .array .int
  | 128 => .array .int
  | 129 => .array .int
  | 130 => .array .long
  | 131 => .array .int
  | 132 => .array .int
  | 133 => .array .int
  | 134 => .array .boolean
  | 135 => .int
  | 136 => .array .byte
  | 137 => .int
  | _ => .array .int
theorem nmX14 : ∀ a, a < 139 → ∀ b, b < 139 → a ≠ b → (TX14 a).2.1 ≠ (TX14 b).2.1 := by decide +kernel
theorem tyX14_ok : ∀ k, k < 139 → parseFieldDescriptor (TX14 k).2.2.1 = some (tyX14 k) := by decide +kernel
def zcl : List vw_C := [(RX0, TX0, 5), (RX1, TX1, 19), (RX2, TX2, 17), (RX3, TX3, 20), (RX4, TX4, 6), (RX5, TX5, 21), (RX6, TX6, 6), (RX7, TX7, 12), (RX8, TX8, 14), (RX9, TX9, 3), (RX10, TX10, 17), (RX11, TX11, 16), (RX12, TX12, 19), (RX13, TX13, 39), (RX14, TX14, 139)]
theorem zin {w : Cond} (i : Nat) (h : lw_tbl[i]? = some w) (g : goodWord w = true) : w ∈ lw_tbl.filter goodWord := List.mem_filter.mpr ⟨List.mem_of_getElem? h, g⟩
def zT : List Cond := lw_tbl.filter goodWord
theorem zinAll {ws : List Cond} (ps : List Nat) (hp : ws = ps.filterMap (fun i => lw_tbl[i]?)) (g : ws.all goodWord = true) : ∀ w ∈ ws, w ∈ zT := fun w hw => by
  have h1 := List.all_eq_true.mp g w hw
  rw [hp] at hw
  obtain ⟨i, -, hi⟩ := List.mem_filterMap.mp hw
  exact List.mem_filter.mpr ⟨List.mem_of_getElem? hi, h1⟩
/-- a class of ours: its number, its fields, their words in the tables -/
def zF (ci : Nat) (C : String) (T : u_T) (N : Nat) (ty : Nat → FieldType) : Prop := zcl[ci]? = some (C, T, N) ∧ (∀ w ∈ u_ws C T N, w ∈ zT) ∧ (∀ k, k < N → parseFieldDescriptor (T k).2.2.1 = some (ty k)) ∧ (∀ a, a < N → ∀ b, b < N → a ≠ b → (T a).2.1 ≠ (T b).2.1)
set_option maxRecDepth 20000 in
theorem zf0 : zF 0 RX0 TX0 5 tyX0 := ⟨rfl, zinAll [752, 754, 756, 758, 760] (by decide +kernel) (by decide +kernel), tyX0_ok, nmX0⟩
set_option maxRecDepth 20000 in
theorem zf1 : zF 1 RX1 TX1 19 tyX1 := ⟨rfl, zinAll [702, 704, 706, 708, 710, 712, 714, 716, 718, 720, 722, 724, 726, 728, 730, 732, 734, 736, 738] (by decide +kernel) (by decide +kernel), tyX1_ok, nmX1⟩
set_option maxRecDepth 20000 in
theorem zf2 : zF 2 RX2 TX2 17 tyX2 := ⟨rfl, zinAll [581, 583, 585, 587, 589, 591, 593, 595, 597, 599, 601, 603, 605, 607, 609, 611, 613] (by decide +kernel) (by decide +kernel), tyX2_ok, nmX2⟩
set_option maxRecDepth 20000 in
theorem zf3 : zF 3 RX3 TX3 20 tyX3 := ⟨rfl, zinAll [829, 831, 833, 835, 837, 839, 841, 843, 845, 847, 849, 851, 853, 855, 857, 859, 861, 863, 865, 867] (by decide +kernel) (by decide +kernel), tyX3_ok, nmX3⟩
set_option maxRecDepth 20000 in
theorem zf4 : zF 4 RX4 TX4 6 tyX4 := ⟨rfl, zinAll [515, 517, 519, 521, 523, 525] (by decide +kernel) (by decide +kernel), tyX4_ok, nmX4⟩
set_option maxRecDepth 20000 in
theorem zf5 : zF 5 RX5 TX5 21 tyX5 := ⟨rfl, zinAll [964, 966, 968, 970, 972, 974, 976, 978, 980, 982, 984, 986, 988, 990, 992, 994, 996, 998, 1000, 1002, 1004] (by decide +kernel) (by decide +kernel), tyX5_ok, nmX5⟩
set_option maxRecDepth 20000 in
theorem zf6 : zF 6 RX6 TX6 6 tyX6 := ⟨rfl, zinAll [486, 488, 490, 492, 494, 496] (by decide +kernel) (by decide +kernel), tyX6_ok, nmX6⟩
set_option maxRecDepth 20000 in
theorem zf7 : zF 7 RX7 TX7 12 tyX7 := ⟨rfl, zinAll [436, 438, 440, 442, 444, 446, 448, 450, 452, 454, 456, 458] (by decide +kernel) (by decide +kernel), tyX7_ok, nmX7⟩
set_option maxRecDepth 20000 in
theorem zf8 : zF 8 RX8 TX8 14 tyX8 := ⟨rfl, zinAll [376, 378, 380, 382, 384, 386, 388, 390, 392, 394, 396, 398, 400, 402] (by decide +kernel) (by decide +kernel), tyX8_ok, nmX8⟩
set_option maxRecDepth 20000 in
theorem zf9 : zF 9 RX9 TX9 3 tyX9 := ⟨rfl, zinAll [786, 788, 790] (by decide +kernel) (by decide +kernel), tyX9_ok, nmX9⟩
set_option maxRecDepth 20000 in
theorem zf10 : zF 10 RX10 TX10 17 tyX10 := ⟨rfl, zinAll [648, 650, 652, 654, 656, 658, 660, 662, 664, 666, 668, 670, 672, 674, 676, 678, 680] (by decide +kernel) (by decide +kernel), tyX10_ok, nmX10⟩
set_option maxRecDepth 20000 in
theorem zf11 : zF 11 RX11 TX11 16 tyX11 := ⟨rfl, zinAll [906, 908, 910, 912, 914, 916, 918, 920, 922, 924, 926, 928, 930, 932, 934, 936] (by decide +kernel) (by decide +kernel), tyX11_ok, nmX11⟩
set_option maxRecDepth 20000 in
theorem zf12 : zF 12 RX12 TX12 19 tyX12 := ⟨rfl, zinAll [1026, 1028, 1030, 1032, 1034, 1036, 1038, 1040, 1042, 1044, 1046, 1048, 1050, 1052, 1054, 1056, 1058, 1060, 1062] (by decide +kernel) (by decide +kernel), tyX12_ok, nmX12⟩
set_option maxRecDepth 20000 in
theorem zf13 : zF 13 RX13 TX13 39 tyX13 := ⟨rfl, zinAll [2684, 2686, 2688, 2690, 2692, 2694, 2696, 2698, 2700, 2702, 2704, 2706, 2708, 2710, 2712, 2714, 2716, 2718, 2720, 2722, 2724, 2726, 2728, 2730, 2732, 2734, 2736, 2738, 2740, 2742, 2744, 2746, 2748, 2750, 2752, 2754, 2756, 2758, 2760] (by decide +kernel) (by decide +kernel), tyX13_ok, nmX13⟩
set_option maxRecDepth 20000 in
theorem zf14 : zF 14 RX14 TX14 139 tyX14 := ⟨rfl, zinAll [2905, 2907, 2909, 2911, 2913, 2915, 2917, 2919, 2921, 2923, 2925, 2927, 2929, 2931, 2933, 2935, 2937, 2939, 2941, 2943, 2945, 2947, 2949, 2951, 2953, 2955, 2957, 2959, 2961, 2963, 2965, 2967, 2969, 2971, 2973, 2975, 2977, 2979, 2981, 2983, 2985, 2987, 2989, 2991, 2993, 2995, 2997, 2999, 3001, 3003, 3005, 3007, 3009, 3011, 3013, 3015, 3017, 3019, 3021, 3023, 3025, 3027, 3029, 3031, 3033, 3035, 3037, 3039, 3041, 3043, 3045, 3047, 3049, 3051, 3053, 3055, 3057, 3059, 3061, 3063, 3065, 3067, 3069, 3071, 3073, 3075, 3077, 3079, 3081, 3083, 3085, 3087, 3089, 3091, 3093, 3095, 3097, 3099, 3101, 3103, 3105, 3107, 3109, 3111, 3113, 3115, 3117, 3119, 3121, 3123, 3125, 3127, 3129, 3131, 3133, 3135, 3137, 3139, 3141, 3143, 3145, 3147, 3149, 3151, 3153, 3155, 3157, 3159, 3161, 3163, 3165, 3167, 3169, 3171, 3173, 3175, 3177, 3179, 3181] (by decide +kernel) (by decide +kernel), tyX14_ok, nmX14⟩
