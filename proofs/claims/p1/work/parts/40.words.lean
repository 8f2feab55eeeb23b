theorem zw936 : Cond.classLink "TemplateHouse" 154 "java/lang/IllegalStateException" ∈ zT := zsub4 216 (by decide +kernel) (by decide +kernel)
theorem zw20 : Cond.initialized "java/lang/IllegalStateException" ∈ zT := zsub1 20 (by decide +kernel) (by decide +kernel)
theorem zw2476 : Cond.fieldLink "TemplateHouseModel" 836 "TemplateHouseModel" "now" "LTemplateHouseModel$Group;" ∈ zT := zsub11 76 (by decide +kernel) (by decide +kernel)
theorem zw1740 : Cond.classLink "TemplateHouse" 123 "java/lang/IllegalArgumentException" ∈ zT := zsub8 60 (by decide +kernel) (by decide +kernel)
theorem zw27 : Cond.initialized "java/lang/IllegalArgumentException" ∈ zT := zsub1 27 (by decide +kernel) (by decide +kernel)
theorem zw949 : Cond.methodLink "TemplateHouse$Names" 32 ⟨"java/util/Arrays", "fill", "([II)V"⟩ ∈ zT := zsub4 229 (by decide +kernel) (by decide +kernel)
theorem zw952 : Cond.fieldLink "TemplateHouse$Names" 38 "TemplateHouse$Names" "TURN" "[B" ∈ zT := zsub4 232 (by decide +kernel) (by decide +kernel)
theorem zw962 : Cond.methodLink "TemplateHouse$Names" 45 ⟨"TemplateHouse$Names", "hash", "([BII)I"⟩ ∈ zT := zsub5 2 (by decide +kernel) (by decide +kernel)
theorem zw965 : Cond.methodLinkNest "TemplateHouse$Names" 48 ⟨"TemplateHouse", "get", "([II)I"⟩ "TemplateHouse" ∈ zNest := zsubN5 5 (by decide +kernel) (by decide +kernel)
theorem zw958 : Cond.methodLink "TemplateHouse$Names" 60 ⟨"TemplateHouse$Names", "find", "([BII)I"⟩ ∈ zT := zsub4 238 (by decide +kernel) (by decide +kernel)
theorem zw971 : Cond.methodLinkNest "TemplateHouse$Names" 63 ⟨"TemplateHouse", "getByte", "([BI)I"⟩ "TemplateHouse" ∈ zNest := zsubN5 11 (by decide +kernel) (by decide +kernel)
theorem zw972 : Cond.methodLinkNest "TemplateHouse$Names" 67 ⟨"TemplateHouse", "setByte", "([BII)V"⟩ "TemplateHouse" ∈ zNest := zsubN5 12 (by decide +kernel) (by decide +kernel)
theorem zw973 : Cond.methodLinkNest "TemplateHouse$Names" 71 ⟨"TemplateHouse", "set", "([III)V"⟩ "TemplateHouse" ∈ zNest := zsubN5 13 (by decide +kernel) (by decide +kernel)
theorem zw954 : Cond.methodLink "TemplateHouse$Names" 41 ⟨"TemplateHouse$Names", "intern", "([BII)I"⟩ ∈ zT := zsub4 234 (by decide +kernel) (by decide +kernel)
theorem zw945 : Cond.methodLink "TemplateHouse$Gen" 74 ⟨"TemplateHouse$Names", "forget", "()V"⟩ ∈ zT := zsub4 225 (by decide +kernel) (by decide +kernel)
theorem zw978 : Cond.methodLink "TemplateHouse$Imports" 29 ⟨"java/util/Arrays", "fill", "([II)V"⟩ ∈ zT := zsub5 18 (by decide +kernel) (by decide +kernel)
theorem zw974 : Cond.methodLink "TemplateHouse$Gen" 77 ⟨"TemplateHouse$Imports", "forget", "()V"⟩ ∈ zT := zsub5 14 (by decide +kernel) (by decide +kernel)
theorem zw979 : Cond.methodLink "TemplateHouse$Gen" 78 ⟨"java/util/Arrays", "fill", "([II)V"⟩ ∈ zT := zsub5 19 (by decide +kernel) (by decide +kernel)
theorem zw980 : Cond.methodLink "TemplateHouse$Gen" 84 ⟨"TemplateHouse$Gen", "keep", "(II)V"⟩ ∈ zT := zsub5 20 (by decide +kernel) (by decide +kernel)
theorem zw941 : Cond.methodLink "TemplateHouse$FileReader" 81 ⟨"TemplateHouse$Gen", "forget", "()V"⟩ ∈ zT := zsub4 221 (by decide +kernel) (by decide +kernel)
theorem zw238 : Cond.fieldLink "TemplateHouse$FileReader" 105 "TemplateHouse$Gen" "imports" "LTemplateHouse$Imports;" ∈ zT := zsub1 238 (by decide +kernel) (by decide +kernel)
theorem zw988 : Cond.methodLink "TemplateHouse$FileReader" 121 ⟨"TemplateHouse$Imports", "wasRead", "(I)Z"⟩ ∈ zT := zsub5 28 (by decide +kernel) (by decide +kernel)
theorem zw993 : Cond.methodLinkNest "TemplateHouse$FileReader" 114 ⟨"TemplateHouse", "set", "([III)V"⟩ "TemplateHouse" ∈ zNest := zsubN5 33 (by decide +kernel) (by decide +kernel)
theorem zw998 : Cond.methodLinkNest "TemplateHouse$Imports" 41 ⟨"TemplateHouse", "set", "([III)V"⟩ "TemplateHouse" ∈ zNest := zsubN5 38 (by decide +kernel) (by decide +kernel)
theorem zw994 : Cond.methodLink "TemplateHouse$FileReader" 125 ⟨"TemplateHouse$Imports", "noteRead", "(I)V"⟩ ∈ zT := zsub5 34 (by decide +kernel) (by decide +kernel)
theorem zw999 : Cond.methodLinkNest "TemplateHouse$FileReader" 101 ⟨"TemplateHouse", "get", "([II)I"⟩ "TemplateHouse" ∈ zNest := zsubN5 39 (by decide +kernel) (by decide +kernel)
theorem zw1000 : Cond.methodLink "TemplateHouse$FileReader" 128 ⟨"TemplateHouse$Source", "openFile", "(I[BI)V"⟩ ∈ zT := zsub5 40 (by decide +kernel) (by decide +kernel)
theorem zw1004 : Cond.methodLink "TemplateHouse$FileReader" 131 ⟨"TemplateHouse$TextReader", "openFile", "(LTemplateHouse$Gen;)V"⟩ ∈ zT := zsub5 44 (by decide +kernel) (by decide +kernel)
theorem zw260 : Cond.fieldLink "TemplateHouse$FileReader" 134 "TemplateHouse$Gen" "defCount" "I" ∈ zT := zsub2 20 (by decide +kernel) (by decide +kernel)
theorem zw1016 : Cond.methodLink "TemplateHouse$Source" 139 ⟨"TemplateHouse$Source", "past", "(I)I"⟩ ∈ zT := zsub5 56 (by decide +kernel) (by decide +kernel)
theorem zw1012 : Cond.methodLink "TemplateHouse$FileReader" 90 ⟨"TemplateHouse$Source", "skip", "()V"⟩ ∈ zT := zsub5 52 (by decide +kernel) (by decide +kernel)
theorem zw123 : Cond.fieldLink "TemplateHouse$FileReader" 95 "TemplateHouse$Source" "pos" "I" ∈ zT := zsub1 123 (by decide +kernel) (by decide +kernel)
theorem zw1087 : Cond.methodLink "TemplateHouse$FileReader" 140 ⟨"TemplateHouse$Source", "rowEnd", "(I)I"⟩ ∈ zT := zsub5 127 (by decide +kernel) (by decide +kernel)
theorem zw1099 : Cond.methodLink "TemplateHouse" 257 ⟨"java/lang/String", "length", "()I"⟩ ∈ zT := zsub5 139 (by decide +kernel) (by decide +kernel)
theorem zw1096 : Cond.methodLinkNest "TemplateHouse$Source" 90 ⟨"TemplateHouse", "isText", "([BIILjava/lang/String;)Z"⟩ "TemplateHouse" ∈ zNest := zsubN5 136 (by decide +kernel) (by decide +kernel)
theorem zw1092 : Cond.methodLink "TemplateHouse$FileReader" 146 ⟨"TemplateHouse$Source", "isHere", "(ILjava/lang/String;)Z"⟩ ∈ zT := zsub5 132 (by decide +kernel) (by decide +kernel)
theorem zw1008 : Cond.methodLink "TemplateHouse$FileReader" 137 ⟨"TemplateHouse$FileReader", "head", "()V"⟩ ∈ zT := zsub5 48 (by decide +kernel) (by decide +kernel)
theorem zw984 : Cond.methodLink "TemplateHouse$FileReader" 86 ⟨"TemplateHouse$FileReader", "openFile", "(I)V"⟩ ∈ zT := zsub5 24 (by decide +kernel) (by decide +kernel)
theorem zw937 : Cond.methodLink "TemplateHouse" 129 ⟨"TemplateHouse$FileReader", "openAll", "(LTemplateHouse$Gen;I)V"⟩ ∈ zT := zsub4 217 (by decide +kernel) (by decide +kernel)
theorem zw1251 : Cond.constant "TemplateHouse" 133 (1000000 : Int32) ∈ zT := zsub6 51 (by decide +kernel) (by decide +kernel)
theorem zw120 : Cond.fieldLink "TemplateHouse$FileReader" 98 "TemplateHouse$Source" "lim" "I" ∈ zT := zsub1 120 (by decide +kernel) (by decide +kernel)
theorem zw209 : Cond.fieldLink "TemplateHouse$FileReader" 109 "TemplateHouse$Imports" "directs" "[I" ∈ zT := zsub1 209 (by decide +kernel) (by decide +kernel)
theorem zw1252 : Cond.methodLink "TemplateHouse" 134 ⟨"TemplateHouse$FileReader", "isMore", "()Z"⟩ ∈ zT := zsub6 52 (by decide +kernel) (by decide +kernel)
theorem zw237 : Cond.fieldLink "TemplateHouse$Checker" 29 "TemplateHouse$Gen" "imports" "LTemplateHouse$Imports;" ∈ zT := zsub1 237 (by decide +kernel) (by decide +kernel)
theorem zw992 : Cond.methodLinkNest "TemplateHouse$Imports" 35 ⟨"TemplateHouse", "get", "([II)I"⟩ "TemplateHouse" ∈ zNest := zsubN5 32 (by decide +kernel) (by decide +kernel)
theorem zw1659 : Cond.methodLink "TemplateHouse$Imports" 45 ⟨"TemplateHouse$Imports", "extend", "([I[IIII)V"⟩ ∈ zT := zsub7 219 (by decide +kernel) (by decide +kernel)
theorem zw1655 : Cond.methodLink "TemplateHouse$Checker" 35 ⟨"TemplateHouse$Imports", "layWays", "()V"⟩ ∈ zT := zsub7 215 (by decide +kernel) (by decide +kernel)
theorem zw231 : Cond.fieldLink "TemplateHouse$Checker" 79 "TemplateHouse$Gen" "names" "LTemplateHouse$Names;" ∈ zT := zsub1 231 (by decide +kernel) (by decide +kernel)
theorem zw185 : Cond.fieldLink "TemplateHouse$Checker" 83 "TemplateHouse$Names" "count" "I" ∈ zT := zsub1 185 (by decide +kernel) (by decide +kernel)
theorem zw275 : Cond.fieldLink "TemplateHouse$Checker" 88 "TemplateHouse$Gen" "template" "[I" ∈ zT := zsub2 35 (by decide +kernel) (by decide +kernel)
theorem zw1667 : Cond.methodLinkNest "TemplateHouse$Checker" 91 ⟨"TemplateHouse", "set", "([III)V"⟩ "TemplateHouse" ∈ zNest := zsubN7 227 (by decide +kernel) (by decide +kernel)
theorem zw277 : Cond.fieldLink "TemplateHouse$Checker" 95 "TemplateHouse$Gen" "dictionary" "[I" ∈ zT := zsub2 37 (by decide +kernel) (by decide +kernel)
theorem zw280 : Cond.fieldLink "TemplateHouse$Checker" 98 "TemplateHouse$Gen" "templates" "I" ∈ zT := zsub2 40 (by decide +kernel) (by decide +kernel)
theorem zw213 : Cond.fieldLink "TemplateHouse$Checker" 46 "TemplateHouse$Imports" "read" "[I" ∈ zT := zsub1 213 (by decide +kernel) (by decide +kernel)
theorem zw1668 : Cond.methodLinkNest "TemplateHouse$Checker" 50 ⟨"TemplateHouse", "get", "([II)I"⟩ "TemplateHouse" ∈ zNest := zsubN7 228 (by decide +kernel) (by decide +kernel)
theorem zw1669 : Cond.methodLink "TemplateHouse$Checker" 101 ⟨"TemplateHouse$Imports", "wayLength", "(I)I"⟩ ∈ zT := zsub7 229 (by decide +kernel) (by decide +kernel)
theorem zw1673 : Cond.methodLink "TemplateHouse$Checker" 105 ⟨"TemplateHouse$Imports", "way", "(II)I"⟩ ∈ zT := zsub7 233 (by decide +kernel) (by decide +kernel)
theorem zw261 : Cond.fieldLink "TemplateHouse$Checker" 113 "TemplateHouse$Gen" "defCount" "I" ∈ zT := zsub2 21 (by decide +kernel) (by decide +kernel)
theorem zw1677 : Cond.methodLink "TemplateHouse$Checker" 109 ⟨"TemplateHouse$Checker", "nameFile", "(I)V"⟩ ∈ zT := zsub7 237 (by decide +kernel) (by decide +kernel)
theorem zw1663 : Cond.methodLink "TemplateHouse$Checker" 40 ⟨"TemplateHouse$Checker", "nameAll", "()V"⟩ ∈ zT := zsub7 223 (by decide +kernel) (by decide +kernel)
theorem zw215 : Cond.fieldLink "TemplateHouse$Checker" 43 "TemplateHouse$Imports" "reads" "I" ∈ zT := zsub1 215 (by decide +kernel) (by decide +kernel)
theorem zw1681 : Cond.methodLink "TemplateHouse$Checker" 54 ⟨"TemplateHouse$Checker", "checkDefs", "()V"⟩ ∈ zT := zsub8 1 (by decide +kernel) (by decide +kernel)
theorem zw271 : Cond.fieldLink "TemplateHouse$Checker" 129 "TemplateHouse$Gen" "callCount" "I" ∈ zT := zsub2 31 (by decide +kernel) (by decide +kernel)
theorem zw1701 : Cond.methodLink "TemplateHouse$Checker" 57 ⟨"TemplateHouse$Checker", "checkCalls", "()V"⟩ ∈ zT := zsub8 21 (by decide +kernel) (by decide +kernel)
theorem zw267 : Cond.fieldLink "TemplateHouse$Checker" 155 "TemplateHouse$Gen" "partCount" "I" ∈ zT := zsub2 27 (by decide +kernel) (by decide +kernel)
theorem zw1723 : Cond.methodLink "TemplateHouse$Checker" 60 ⟨"TemplateHouse$Checker", "checkParts", "()V"⟩ ∈ zT := zsub8 43 (by decide +kernel) (by decide +kernel)
theorem zw273 : Cond.fieldLink "TemplateHouse$Checker" 63 "TemplateHouse$Gen" "late" "[I" ∈ zT := zsub2 33 (by decide +kernel) (by decide +kernel)
theorem zw1736 : Cond.methodLink "TemplateHouse$Checker" 76 ⟨"TemplateHouse$Checker", "tieParts", "()V"⟩ ∈ zT := zsub8 56 (by decide +kernel) (by decide +kernel)
theorem zw1651 : Cond.methodLink "TemplateHouse" 150 ⟨"TemplateHouse$Checker", "checkAll", "(LTemplateHouse$Gen;)V"⟩ ∈ zT := zsub7 211 (by decide +kernel) (by decide +kernel)
theorem zw932 : Cond.methodLink "TemplateHouse" 119 ⟨"TemplateHouse", "isRead", "(I)Z"⟩ ∈ zT := zsub4 212 (by decide +kernel) (by decide +kernel)
theorem zw281 : Cond.fieldLink "TemplateHouse" 126 "TemplateHouse$Gen" "templates" "I" ∈ zT := zsub2 41 (by decide +kernel) (by decide +kernel)
theorem zw2477 : Cond.fieldLink "TemplateHouseModel" 839 "TemplateHouseModel" "made" "LTemplateHouseModel$Group;" ∈ zT := zsub11 77 (by decide +kernel) (by decide +kernel)
theorem zw2475 : Cond.fieldLink "TemplateHouseModel" 334 "TemplateHouseModel" "g" "LTemplateHouseModel$Group;" ∈ zT := zsub11 75 (by decide +kernel) (by decide +kernel)
theorem zw2323 : Cond.fieldLink "TemplateHouseModel$Group" 109 "TemplateHouseModel$Group" "nodes" "I" ∈ zT := zsub10 163 (by decide +kernel) (by decide +kernel)
theorem zw2327 : Cond.fieldLink "TemplateHouseModel$Group" 113 "TemplateHouseModel$Group" "size" "I" ∈ zT := zsub10 167 (by decide +kernel) (by decide +kernel)
theorem zw2333 : Cond.fieldLink "TemplateHouseModel$Group" 116 "TemplateHouseModel$Group" "names" "I" ∈ zT := zsub10 173 (by decide +kernel) (by decide +kernel)
theorem zw2335 : Cond.fieldLink "TemplateHouseModel$Group" 119 "TemplateHouseModel$Group" "readNames" "I" ∈ zT := zsub10 175 (by decide +kernel) (by decide +kernel)
theorem zw2371 : Cond.fieldLink "TemplateHouseModel$Group" 122 "TemplateHouseModel$Group" "parts" "I" ∈ zT := zsub10 211 (by decide +kernel) (by decide +kernel)
theorem zw2383 : Cond.fieldLink "TemplateHouseModel$Group" 125 "TemplateHouseModel$Group" "checks" "I" ∈ zT := zsub10 223 (by decide +kernel) (by decide +kernel)
theorem zw2977 : Cond.methodLink "TemplateHouseModel" 842 ⟨"TemplateHouseModel$Group", "clear", "()V"⟩ ∈ zT := zsub13 97 (by decide +kernel) (by decide +kernel)
theorem zw2364 : Cond.fieldLinkNest "TemplateHouseModel" 786 "TemplateHouseModel$Group" "first" "I" "TemplateHouseModel" ∈ zNest := zsubN10 204 (by decide +kernel) (by decide +kernel)
theorem zw2481 : Cond.fieldLink "TemplateHouseModel" 251 "TemplateHouseModel" "f" "I" ∈ zT := zsub11 81 (by decide +kernel) (by decide +kernel)
theorem zw2482 : Cond.fieldLink "TemplateHouseModel" 263 "TemplateHouseModel" "fb" "[B" ∈ zT := zsub11 82 (by decide +kernel) (by decide +kernel)
theorem zw2483 : Cond.fieldLink "TemplateHouseModel" 260 "TemplateHouseModel" "fn" "I" ∈ zT := zsub11 83 (by decide +kernel) (by decide +kernel)
theorem zw2484 : Cond.fieldLink "TemplateHouseModel" 274 "TemplateHouseModel" "fp" "I" ∈ zT := zsub11 84 (by decide +kernel) (by decide +kernel)
theorem zw2485 : Cond.fieldLink "TemplateHouseModel" 391 "TemplateHouseModel" "open" "I" ∈ zT := zsub11 85 (by decide +kernel) (by decide +kernel)
theorem zw2486 : Cond.fieldLink "TemplateHouseModel" 394 "TemplateHouseModel" "close" "I" ∈ zT := zsub11 86 (by decide +kernel) (by decide +kernel)
theorem zw2362 : Cond.fieldLinkNest "TemplateHouseModel" 397 "TemplateHouseModel$Group" "isRead" "[Z" "TemplateHouseModel" ∈ zNest := zsubN10 202 (by decide +kernel) (by decide +kernel)
theorem zw2993 : Cond.methodLink "TemplateHouseModel" 266 ⟨"TemplateHouseModel", "fc", "(I)I"⟩ ∈ zT := zsub13 113 (by decide +kernel) (by decide +kernel)
theorem zw2997 : Cond.methodLink "TemplateHouseModel" 270 ⟨"TemplateHouseModel", "isBlank", "(I)Z"⟩ ∈ zT := zsub13 117 (by decide +kernel) (by decide +kernel)
theorem zw2989 : Cond.methodLink "TemplateHouseModel" 277 ⟨"TemplateHouseModel", "ahead", "(I)I"⟩ ∈ zT := zsub13 109 (by decide +kernel) (by decide +kernel)
theorem zw2985 : Cond.methodLink "TemplateHouseModel" 308 ⟨"TemplateHouseModel", "skip", "()V"⟩ ∈ zT := zsub13 105 (by decide +kernel) (by decide +kernel)
theorem zw3009 : Cond.methodLink "TemplateHouseModel" 300 ⟨"TemplateHouseModel", "wordEnd", "([BII)I"⟩ ∈ zT := zsub13 129 (by decide +kernel) (by decide +kernel)
theorem zw3021 : Cond.methodLink "TemplateHouseModel" 290 ⟨"java/lang/String", "length", "()I"⟩ ∈ zT := zsub13 141 (by decide +kernel) (by decide +kernel)
theorem zw3018 : Cond.methodLink "TemplateHouseModel" 304 ⟨"TemplateHouseModel", "is", "([BIILjava/lang/String;)Z"⟩ ∈ zT := zsub13 138 (by decide +kernel) (by decide +kernel)
theorem zw3005 : Cond.methodLink "TemplateHouseModel" 313 ⟨"TemplateHouseModel", "isFileWord", "(Ljava/lang/String;)Z"⟩ ∈ zT := zsub13 125 (by decide +kernel) (by decide +kernel)
theorem zw2360 : Cond.fieldLinkNest "TemplateHouseModel" 415 "TemplateHouseModel$Group" "importMany" "[I" "TemplateHouseModel" ∈ zNest := zsubN10 200 (by decide +kernel) (by decide +kernel)
theorem zw2981 : Cond.methodLink "TemplateHouseModel" 421 ⟨"TemplateHouseModel", "readFile", "(I)V"⟩ ∈ zT := zsub13 101 (by decide +kernel) (by decide +kernel)
theorem zw2384 : Cond.fieldLinkNest "TemplateHouseModel" 486 "TemplateHouseModel$Group" "checks" "I" "TemplateHouseModel" ∈ zNest := zsubN10 224 (by decide +kernel) (by decide +kernel)
theorem zw3346 : Cond.methodLink "TemplateHouseModel" 845 ⟨"TemplateHouseModel", "checkAll", "()V"⟩ ∈ zT := zsub14 226 (by decide +kernel) (by decide +kernel)
theorem zw2334 : Cond.fieldLinkNest "TemplateHouseModel" 851 "TemplateHouseModel$Group" "names" "I" "TemplateHouseModel" ∈ zNest := zsubN10 174 (by decide +kernel) (by decide +kernel)
theorem zw1760 : Cond.methodLink "TemplateHouseLaw" 15 ⟨"TemplateHouse", "begin", "()V"⟩ ∈ zT := zsub8 80 (by decide +kernel) (by decide +kernel)
theorem zw1758 : Cond.classLink "TemplateHouseLaw" 18 "java/lang/IllegalStateException" ∈ zT := zsub8 78 (by decide +kernel) (by decide +kernel)
theorem zw1026 : Cond.castable "java/lang/IllegalStateException" "java/lang/IllegalStateException" ∈ zNest := zsubN5 66 (by decide +kernel) (by decide +kernel)
theorem zw2289 : Cond.methodLink "TemplateHouseLaw" 22 ⟨"TemplateHouse", "run", "(I)I"⟩ ∈ zT := zsub10 129 (by decide +kernel) (by decide +kernel)
theorem zw927 : Cond.classLink "TemplateHouseLaw" 13 "java/lang/IllegalArgumentException" ∈ zT := zsub4 207 (by decide +kernel) (by decide +kernel)
theorem zw1742 : Cond.castable "java/lang/IllegalArgumentException" "java/lang/IllegalArgumentException" ∈ zNest := zsubN8 62 (by decide +kernel) (by decide +kernel)
theorem zw928 : Cond.methodLink "TemplateHouseLaw" 7 ⟨"TemplateHouse", "load", "(I)I"⟩ ∈ zT := zsub4 208 (by decide +kernel) (by decide +kernel)
theorem zw1763 : Cond.code ⟨"TemplateHouse", "begin", "()V"⟩ prog_1_method_22_code 3 (Option.none : Option Jvm.ClassFile.FieldType) ∈ zT := zsub8 83 rfl rfl
theorem zw1761 : Cond.instanceMethod ⟨"TemplateHouse", "begin", "()V"⟩ ∈ zT := zsub8 81 (by decide +kernel) (by decide +kernel)
theorem zw1762 : Cond.selects "TemplateHouse" ⟨"TemplateHouse", "begin", "()V"⟩ ⟨"TemplateHouse", "begin", "()V"⟩ ∈ zT := zsub8 82 (by decide +kernel) (by decide +kernel)
theorem zw3401 : Cond.code ⟨"TemplateHouseModel", "begin", "()V"⟩ prog_15_method_188_code 3 (Option.none : Option Jvm.ClassFile.FieldType) ∈ zT := zsub15 41 rfl rfl
theorem zw3399 : Cond.instanceMethod ⟨"TemplateHouseModel", "begin", "()V"⟩ ∈ zT := zsub15 39 (by decide +kernel) (by decide +kernel)
theorem zw3400 : Cond.selects "TemplateHouseModel" ⟨"TemplateHouseModel", "begin", "()V"⟩ ⟨"TemplateHouseModel", "begin", "()V"⟩ ∈ zT := zsub15 40 (by decide +kernel) (by decide +kernel)
theorem zw2292 : Cond.code ⟨"TemplateHouse", "run", "(I)I"⟩ prog_1_method_23_code 3 (Option.some Jvm.ClassFile.FieldType.int) ∈ zT := zsub10 132 rfl rfl
theorem zw2290 : Cond.instanceMethod ⟨"TemplateHouse", "run", "(I)I"⟩ ∈ zT := zsub10 130 (by decide +kernel) (by decide +kernel)
theorem zw2291 : Cond.selects "TemplateHouse" ⟨"TemplateHouse", "run", "(I)I"⟩ ⟨"TemplateHouse", "run", "(I)I"⟩ ∈ zT := zsub10 131 (by decide +kernel) (by decide +kernel)
theorem zw3754 : Cond.code ⟨"TemplateHouseModel", "run", "(I)I"⟩ prog_15_method_189_code 2 (Option.some Jvm.ClassFile.FieldType.int) ∈ zT := zsub16 154 rfl rfl
theorem zw3752 : Cond.instanceMethod ⟨"TemplateHouseModel", "run", "(I)I"⟩ ∈ zT := zsub16 152 (by decide +kernel) (by decide +kernel)
theorem zw3753 : Cond.selects "TemplateHouseModel" ⟨"TemplateHouseModel", "run", "(I)I"⟩ ⟨"TemplateHouseModel", "run", "(I)I"⟩ ∈ zT := zsub16 153 (by decide +kernel) (by decide +kernel)
theorem zw931 : Cond.code ⟨"TemplateHouse", "load", "(I)I"⟩ prog_1_method_6_code 3 (Option.some Jvm.ClassFile.FieldType.int) ∈ zT := zsub4 211 rfl rfl
theorem zw929 : Cond.instanceMethod ⟨"TemplateHouse", "load", "(I)I"⟩ ∈ zT := zsub4 209 (by decide +kernel) (by decide +kernel)
theorem zw930 : Cond.selects "TemplateHouse" ⟨"TemplateHouse", "load", "(I)I"⟩ ⟨"TemplateHouse", "load", "(I)I"⟩ ∈ zT := zsub4 210 (by decide +kernel) (by decide +kernel)
theorem zw2976 : Cond.code ⟨"TemplateHouseModel", "load", "(I)I"⟩ prog_15_method_108_code 5 (Option.some Jvm.ClassFile.FieldType.int) ∈ zT := zsub13 96 rfl rfl
theorem zw2974 : Cond.instanceMethod ⟨"TemplateHouseModel", "load", "(I)I"⟩ ∈ zT := zsub13 94 (by decide +kernel) (by decide +kernel)
theorem zw2975 : Cond.selects "TemplateHouseModel" ⟨"TemplateHouseModel", "load", "(I)I"⟩ ⟨"TemplateHouseModel", "load", "(I)I"⟩ ∈ zT := zsub13 95 (by decide +kernel) (by decide +kernel)
theorem zw935 : Cond.codeWith ⟨"TemplateHouse", "isRead", "(I)Z"⟩ prog_1_method_7_code 3 (Option.some Jvm.ClassFile.FieldType.boolean) [(0, 76, 77, 154)] ∈ zT := zsub4 215 rfl rfl
theorem zw934 : Cond.instanceMethod ⟨"TemplateHouse", "isRead", "(I)Z"⟩ ∈ zT := zsub4 214 (by decide +kernel) (by decide +kernel)
theorem zwp2 : Cond.selects "TemplateHouse" ⟨"TemplateHouse", "isRead", "(I)Z"⟩ ⟨"TemplateHouse", "isRead", "(I)Z"⟩ ∈ zT := zin 2 (by decide +kernel) (by decide +kernel)
theorem zw940 : Cond.code ⟨"TemplateHouse$FileReader", "openAll", "(LTemplateHouse$Gen;I)V"⟩ prog_3_method_2_code 3 (Option.none : Option Jvm.ClassFile.FieldType) ∈ zT := zsub4 220 rfl rfl
theorem zw938 : Cond.instanceMethod ⟨"TemplateHouse$FileReader", "openAll", "(LTemplateHouse$Gen;I)V"⟩ ∈ zT := zsub4 218 (by decide +kernel) (by decide +kernel)
theorem zw939 : Cond.selects "TemplateHouse$FileReader" ⟨"TemplateHouse$FileReader", "openAll", "(LTemplateHouse$Gen;I)V"⟩ ⟨"TemplateHouse$FileReader", "openAll", "(LTemplateHouse$Gen;I)V"⟩ ∈ zT := zsub4 219 (by decide +kernel) (by decide +kernel)
theorem zw944 : Cond.code ⟨"TemplateHouse$Gen", "forget", "()V"⟩ prog_4_method_2_code 1 (Option.none : Option Jvm.ClassFile.FieldType) ∈ zT := zsub4 224 rfl rfl
theorem zw942 : Cond.instanceMethod ⟨"TemplateHouse$Gen", "forget", "()V"⟩ ∈ zT := zsub4 222 (by decide +kernel) (by decide +kernel)
theorem zw943 : Cond.selects "TemplateHouse$Gen" ⟨"TemplateHouse$Gen", "forget", "()V"⟩ ⟨"TemplateHouse$Gen", "forget", "()V"⟩ ∈ zT := zsub4 223 (by decide +kernel) (by decide +kernel)
theorem zw948 : Cond.code ⟨"TemplateHouse$Names", "forget", "()V"⟩ prog_8_method_2_code 1 (Option.none : Option Jvm.ClassFile.FieldType) ∈ zT := zsub4 228 rfl rfl
theorem zw946 : Cond.instanceMethod ⟨"TemplateHouse$Names", "forget", "()V"⟩ ∈ zT := zsub4 226 (by decide +kernel) (by decide +kernel)
theorem zw947 : Cond.selects "TemplateHouse$Names" ⟨"TemplateHouse$Names", "forget", "()V"⟩ ⟨"TemplateHouse$Names", "forget", "()V"⟩ ∈ zT := zsub4 227 (by decide +kernel) (by decide +kernel)
theorem zw957 : Cond.code ⟨"TemplateHouse$Names", "intern", "([BII)I"⟩ prog_8_method_6_code 6 (Option.some Jvm.ClassFile.FieldType.int) ∈ zT := zsub4 237 rfl rfl
theorem zw955 : Cond.instanceMethod ⟨"TemplateHouse$Names", "intern", "([BII)I"⟩ ∈ zT := zsub4 235 (by decide +kernel) (by decide +kernel)
theorem zw956 : Cond.selects "TemplateHouse$Names" ⟨"TemplateHouse$Names", "intern", "([BII)I"⟩ ⟨"TemplateHouse$Names", "intern", "([BII)I"⟩ ∈ zT := zsub4 236 (by decide +kernel) (by decide +kernel)
theorem zw961 : Cond.code ⟨"TemplateHouse$Names", "find", "([BII)I"⟩ prog_8_method_4_code 6 (Option.some Jvm.ClassFile.FieldType.int) ∈ zT := zsub5 1 rfl rfl
theorem zw959 : Cond.instanceMethod ⟨"TemplateHouse$Names", "find", "([BII)I"⟩ ∈ zT := zsub4 239 (by decide +kernel) (by decide +kernel)
theorem zw960 : Cond.selects "TemplateHouse$Names" ⟨"TemplateHouse$Names", "find", "([BII)I"⟩ ⟨"TemplateHouse$Names", "find", "([BII)I"⟩ ∈ zT := zsub5 0 (by decide +kernel) (by decide +kernel)
theorem zw964 : Cond.code ⟨"TemplateHouse$Names", "hash", "([BII)I"⟩ prog_8_method_5_code 5 (Option.some Jvm.ClassFile.FieldType.int) ∈ zT := zsub5 4 rfl rfl
theorem zw963 : Cond.static ⟨"TemplateHouse$Names", "hash", "([BII)I"⟩ ∈ zT := zsub5 3 (by decide +kernel) (by decide +kernel)
theorem zw977 : Cond.code ⟨"TemplateHouse$Imports", "forget", "()V"⟩ prog_6_method_2_code 1 (Option.none : Option Jvm.ClassFile.FieldType) ∈ zT := zsub5 17 rfl rfl
theorem zw975 : Cond.instanceMethod ⟨"TemplateHouse$Imports", "forget", "()V"⟩ ∈ zT := zsub5 15 (by decide +kernel) (by decide +kernel)
theorem zw976 : Cond.selects "TemplateHouse$Imports" ⟨"TemplateHouse$Imports", "forget", "()V"⟩ ⟨"TemplateHouse$Imports", "forget", "()V"⟩ ∈ zT := zsub5 16 (by decide +kernel) (by decide +kernel)
theorem zw983 : Cond.code ⟨"TemplateHouse$Gen", "keep", "(II)V"⟩ prog_4_method_8_code 3 (Option.none : Option Jvm.ClassFile.FieldType) ∈ zT := zsub5 23 rfl rfl
theorem zw981 : Cond.instanceMethod ⟨"TemplateHouse$Gen", "keep", "(II)V"⟩ ∈ zT := zsub5 21 (by decide +kernel) (by decide +kernel)
theorem zw982 : Cond.selects "TemplateHouse$Gen" ⟨"TemplateHouse$Gen", "keep", "(II)V"⟩ ⟨"TemplateHouse$Gen", "keep", "(II)V"⟩ ∈ zT := zsub5 22 (by decide +kernel) (by decide +kernel)
theorem zw987 : Cond.code ⟨"TemplateHouse$FileReader", "openFile", "(I)V"⟩ prog_3_method_4_code 2 (Option.none : Option Jvm.ClassFile.FieldType) ∈ zT := zsub5 27 rfl rfl
theorem zw986 : Cond.instanceMethod ⟨"TemplateHouse$FileReader", "openFile", "(I)V"⟩ ∈ zT := zsub5 26 (by decide +kernel) (by decide +kernel)
theorem zwp11 : Cond.selects "TemplateHouse$FileReader" ⟨"TemplateHouse$FileReader", "openFile", "(I)V"⟩ ⟨"TemplateHouse$FileReader", "openFile", "(I)V"⟩ ∈ zT := zin 11 (by decide +kernel) (by decide +kernel)
theorem zw991 : Cond.code ⟨"TemplateHouse$Imports", "wasRead", "(I)Z"⟩ prog_6_method_3_code 3 (Option.some Jvm.ClassFile.FieldType.boolean) ∈ zT := zsub5 31 rfl rfl
theorem zw989 : Cond.instanceMethod ⟨"TemplateHouse$Imports", "wasRead", "(I)Z"⟩ ∈ zT := zsub5 29 (by decide +kernel) (by decide +kernel)
theorem zw990 : Cond.selects "TemplateHouse$Imports" ⟨"TemplateHouse$Imports", "wasRead", "(I)Z"⟩ ⟨"TemplateHouse$Imports", "wasRead", "(I)Z"⟩ ∈ zT := zsub5 30 (by decide +kernel) (by decide +kernel)
theorem zw997 : Cond.code ⟨"TemplateHouse$Imports", "noteRead", "(I)V"⟩ prog_6_method_4_code 2 (Option.none : Option Jvm.ClassFile.FieldType) ∈ zT := zsub5 37 rfl rfl
theorem zw995 : Cond.instanceMethod ⟨"TemplateHouse$Imports", "noteRead", "(I)V"⟩ ∈ zT := zsub5 35 (by decide +kernel) (by decide +kernel)
theorem zw996 : Cond.selects "TemplateHouse$Imports" ⟨"TemplateHouse$Imports", "noteRead", "(I)V"⟩ ⟨"TemplateHouse$Imports", "noteRead", "(I)V"⟩ ∈ zT := zsub5 36 (by decide +kernel) (by decide +kernel)
theorem zw1003 : Cond.code ⟨"TemplateHouse$Source", "openFile", "(I[BI)V"⟩ prog_9_method_2_code 4 (Option.none : Option Jvm.ClassFile.FieldType) ∈ zT := zsub5 43 rfl rfl
theorem zw1001 : Cond.instanceMethod ⟨"TemplateHouse$Source", "openFile", "(I[BI)V"⟩ ∈ zT := zsub5 41 (by decide +kernel) (by decide +kernel)
theorem zw1002 : Cond.selects "TemplateHouse$Source" ⟨"TemplateHouse$Source", "openFile", "(I[BI)V"⟩ ⟨"TemplateHouse$Source", "openFile", "(I[BI)V"⟩ ∈ zT := zsub5 42 (by decide +kernel) (by decide +kernel)
theorem zw1007 : Cond.code ⟨"TemplateHouse$TextReader", "openFile", "(LTemplateHouse$Gen;)V"⟩ prog_12_method_2_code 2 (Option.none : Option Jvm.ClassFile.FieldType) ∈ zT := zsub5 47 rfl rfl
theorem zw1005 : Cond.instanceMethod ⟨"TemplateHouse$TextReader", "openFile", "(LTemplateHouse$Gen;)V"⟩ ∈ zT := zsub5 45 (by decide +kernel) (by decide +kernel)
theorem zw1006 : Cond.selects "TemplateHouse$TextReader" ⟨"TemplateHouse$TextReader", "openFile", "(LTemplateHouse$Gen;)V"⟩ ⟨"TemplateHouse$TextReader", "openFile", "(LTemplateHouse$Gen;)V"⟩ ∈ zT := zsub5 46 (by decide +kernel) (by decide +kernel)
theorem zw1011 : Cond.code ⟨"TemplateHouse$FileReader", "head", "()V"⟩ prog_3_method_5_code 4 (Option.none : Option Jvm.ClassFile.FieldType) ∈ zT := zsub5 51 rfl rfl
theorem zw1010 : Cond.instanceMethod ⟨"TemplateHouse$FileReader", "head", "()V"⟩ ∈ zT := zsub5 50 (by decide +kernel) (by decide +kernel)
theorem zwp10 : Cond.selects "TemplateHouse$FileReader" ⟨"TemplateHouse$FileReader", "head", "()V"⟩ ⟨"TemplateHouse$FileReader", "head", "()V"⟩ ∈ zT := zin 10 (by decide +kernel) (by decide +kernel)
theorem zw1015 : Cond.code ⟨"TemplateHouse$Source", "skip", "()V"⟩ prog_9_method_23_code 2 (Option.none : Option Jvm.ClassFile.FieldType) ∈ zT := zsub5 55 rfl rfl
theorem zw1013 : Cond.instanceMethod ⟨"TemplateHouse$Source", "skip", "()V"⟩ ∈ zT := zsub5 53 (by decide +kernel) (by decide +kernel)
theorem zw1014 : Cond.selects "TemplateHouse$Source" ⟨"TemplateHouse$Source", "skip", "()V"⟩ ⟨"TemplateHouse$Source", "skip", "()V"⟩ ∈ zT := zsub5 54 (by decide +kernel) (by decide +kernel)
theorem zw1019 : Cond.code ⟨"TemplateHouse$Source", "past", "(I)I"⟩ prog_9_method_22_code 6 (Option.some Jvm.ClassFile.FieldType.int) ∈ zT := zsub5 59 rfl rfl
theorem zw1017 : Cond.instanceMethod ⟨"TemplateHouse$Source", "past", "(I)I"⟩ ∈ zT := zsub5 57 (by decide +kernel) (by decide +kernel)
theorem zw1018 : Cond.selects "TemplateHouse$Source" ⟨"TemplateHouse$Source", "past", "(I)I"⟩ ⟨"TemplateHouse$Source", "past", "(I)I"⟩ ∈ zT := zsub5 58 (by decide +kernel) (by decide +kernel)
theorem zw1090 : Cond.code ⟨"TemplateHouse$Source", "rowEnd", "(I)I"⟩ prog_9_method_13_code 5 (Option.some Jvm.ClassFile.FieldType.int) ∈ zT := zsub5 130 rfl rfl
theorem zw1088 : Cond.instanceMethod ⟨"TemplateHouse$Source", "rowEnd", "(I)I"⟩ ∈ zT := zsub5 128 (by decide +kernel) (by decide +kernel)
theorem zw1089 : Cond.selects "TemplateHouse$Source" ⟨"TemplateHouse$Source", "rowEnd", "(I)I"⟩ ⟨"TemplateHouse$Source", "rowEnd", "(I)I"⟩ ∈ zT := zsub5 129 (by decide +kernel) (by decide +kernel)
theorem zw1095 : Cond.code ⟨"TemplateHouse$Source", "isHere", "(ILjava/lang/String;)Z"⟩ prog_9_method_15_code 3 (Option.some Jvm.ClassFile.FieldType.boolean) ∈ zT := zsub5 135 rfl rfl
theorem zw1093 : Cond.instanceMethod ⟨"TemplateHouse$Source", "isHere", "(ILjava/lang/String;)Z"⟩ ∈ zT := zsub5 133 (by decide +kernel) (by decide +kernel)
theorem zw1094 : Cond.selects "TemplateHouse$Source" ⟨"TemplateHouse$Source", "isHere", "(ILjava/lang/String;)Z"⟩ ⟨"TemplateHouse$Source", "isHere", "(ILjava/lang/String;)Z"⟩ ∈ zT := zsub5 134 (by decide +kernel) (by decide +kernel)
theorem zw1098 : Cond.code ⟨"TemplateHouse", "isText", "([BIILjava/lang/String;)Z"⟩ prog_1_method_35_code 5 (Option.some Jvm.ClassFile.FieldType.boolean) ∈ zT := zsub5 138 rfl rfl
theorem zw1097 : Cond.static ⟨"TemplateHouse", "isText", "([BIILjava/lang/String;)Z"⟩ ∈ zT := zsub5 137 (by decide +kernel) (by decide +kernel)
theorem zw1255 : Cond.code ⟨"TemplateHouse$FileReader", "isMore", "()Z"⟩ prog_3_method_3_code 4 (Option.some Jvm.ClassFile.FieldType.boolean) ∈ zT := zsub6 55 rfl rfl
theorem zw1253 : Cond.instanceMethod ⟨"TemplateHouse$FileReader", "isMore", "()Z"⟩ ∈ zT := zsub6 53 (by decide +kernel) (by decide +kernel)
theorem zw1254 : Cond.selects "TemplateHouse$FileReader" ⟨"TemplateHouse$FileReader", "isMore", "()Z"⟩ ⟨"TemplateHouse$FileReader", "isMore", "()Z"⟩ ∈ zT := zsub6 54 (by decide +kernel) (by decide +kernel)
theorem zw1654 : Cond.code ⟨"TemplateHouse$Checker", "checkAll", "(LTemplateHouse$Gen;)V"⟩ prog_2_method_2_code 3 (Option.none : Option Jvm.ClassFile.FieldType) ∈ zT := zsub7 214 rfl rfl
theorem zw1652 : Cond.instanceMethod ⟨"TemplateHouse$Checker", "checkAll", "(LTemplateHouse$Gen;)V"⟩ ∈ zT := zsub7 212 (by decide +kernel) (by decide +kernel)
theorem zw1653 : Cond.selects "TemplateHouse$Checker" ⟨"TemplateHouse$Checker", "checkAll", "(LTemplateHouse$Gen;)V"⟩ ⟨"TemplateHouse$Checker", "checkAll", "(LTemplateHouse$Gen;)V"⟩ ∈ zT := zsub7 213 (by decide +kernel) (by decide +kernel)
theorem zw1658 : Cond.code ⟨"TemplateHouse$Imports", "layWays", "()V"⟩ prog_6_method_8_code 3 (Option.none : Option Jvm.ClassFile.FieldType) ∈ zT := zsub7 218 rfl rfl
theorem zw1656 : Cond.instanceMethod ⟨"TemplateHouse$Imports", "layWays", "()V"⟩ ∈ zT := zsub7 216 (by decide +kernel) (by decide +kernel)
theorem zw1657 : Cond.selects "TemplateHouse$Imports" ⟨"TemplateHouse$Imports", "layWays", "()V"⟩ ⟨"TemplateHouse$Imports", "layWays", "()V"⟩ ∈ zT := zsub7 217 (by decide +kernel) (by decide +kernel)
theorem zw1662 : Cond.code ⟨"TemplateHouse$Imports", "extend", "([I[IIII)V"⟩ prog_6_method_9_code 8 (Option.none : Option Jvm.ClassFile.FieldType) ∈ zT := zsub7 222 rfl rfl
theorem zw1661 : Cond.instanceMethod ⟨"TemplateHouse$Imports", "extend", "([I[IIII)V"⟩ ∈ zT := zsub7 221 (by decide +kernel) (by decide +kernel)
theorem zwp12 : Cond.selects "TemplateHouse$Imports" ⟨"TemplateHouse$Imports", "extend", "([I[IIII)V"⟩ ⟨"TemplateHouse$Imports", "extend", "([I[IIII)V"⟩ ∈ zT := zin 12 (by decide +kernel) (by decide +kernel)
theorem zw1666 : Cond.code ⟨"TemplateHouse$Checker", "nameAll", "()V"⟩ prog_2_method_4_code 3 (Option.none : Option Jvm.ClassFile.FieldType) ∈ zT := zsub7 226 rfl rfl
theorem zw1665 : Cond.instanceMethod ⟨"TemplateHouse$Checker", "nameAll", "()V"⟩ ∈ zT := zsub7 225 (by decide +kernel) (by decide +kernel)
theorem zwp7 : Cond.selects "TemplateHouse$Checker" ⟨"TemplateHouse$Checker", "nameAll", "()V"⟩ ⟨"TemplateHouse$Checker", "nameAll", "()V"⟩ ∈ zT := zin 7 (by decide +kernel) (by decide +kernel)
theorem zw1672 : Cond.code ⟨"TemplateHouse$Imports", "wayLength", "(I)I"⟩ prog_6_method_7_code 2 (Option.some Jvm.ClassFile.FieldType.int) ∈ zT := zsub7 232 rfl rfl
theorem zw1670 : Cond.instanceMethod ⟨"TemplateHouse$Imports", "wayLength", "(I)I"⟩ ∈ zT := zsub7 230 (by decide +kernel) (by decide +kernel)
theorem zw1671 : Cond.selects "TemplateHouse$Imports" ⟨"TemplateHouse$Imports", "wayLength", "(I)I"⟩ ⟨"TemplateHouse$Imports", "wayLength", "(I)I"⟩ ∈ zT := zsub7 231 (by decide +kernel) (by decide +kernel)
theorem zw1676 : Cond.code ⟨"TemplateHouse$Imports", "way", "(II)I"⟩ prog_6_method_6_code 3 (Option.some Jvm.ClassFile.FieldType.int) ∈ zT := zsub7 236 rfl rfl
theorem zw1674 : Cond.instanceMethod ⟨"TemplateHouse$Imports", "way", "(II)I"⟩ ∈ zT := zsub7 234 (by decide +kernel) (by decide +kernel)
theorem zw1675 : Cond.selects "TemplateHouse$Imports" ⟨"TemplateHouse$Imports", "way", "(II)I"⟩ ⟨"TemplateHouse$Imports", "way", "(II)I"⟩ ∈ zT := zsub7 235 (by decide +kernel) (by decide +kernel)
theorem zw1680 : Cond.code ⟨"TemplateHouse$Checker", "nameFile", "(I)V"⟩ prog_2_method_5_code 6 (Option.none : Option Jvm.ClassFile.FieldType) ∈ zT := zsub8 0 rfl rfl
theorem zw1679 : Cond.instanceMethod ⟨"TemplateHouse$Checker", "nameFile", "(I)V"⟩ ∈ zT := zsub7 239 (by decide +kernel) (by decide +kernel)
theorem zwp8 : Cond.selects "TemplateHouse$Checker" ⟨"TemplateHouse$Checker", "nameFile", "(I)V"⟩ ⟨"TemplateHouse$Checker", "nameFile", "(I)V"⟩ ∈ zT := zin 8 (by decide +kernel) (by decide +kernel)
theorem zw1684 : Cond.code ⟨"TemplateHouse$Checker", "checkDefs", "()V"⟩ prog_2_method_6_code 5 (Option.none : Option Jvm.ClassFile.FieldType) ∈ zT := zsub8 4 rfl rfl
theorem zw1683 : Cond.instanceMethod ⟨"TemplateHouse$Checker", "checkDefs", "()V"⟩ ∈ zT := zsub8 3 (by decide +kernel) (by decide +kernel)
theorem zwp5 : Cond.selects "TemplateHouse$Checker" ⟨"TemplateHouse$Checker", "checkDefs", "()V"⟩ ⟨"TemplateHouse$Checker", "checkDefs", "()V"⟩ ∈ zT := zin 5 (by decide +kernel) (by decide +kernel)
theorem zw1704 : Cond.code ⟨"TemplateHouse$Checker", "checkCalls", "()V"⟩ prog_2_method_9_code 2 (Option.none : Option Jvm.ClassFile.FieldType) ∈ zT := zsub8 24 rfl rfl
theorem zw1703 : Cond.instanceMethod ⟨"TemplateHouse$Checker", "checkCalls", "()V"⟩ ∈ zT := zsub8 23 (by decide +kernel) (by decide +kernel)
theorem zwp4 : Cond.selects "TemplateHouse$Checker" ⟨"TemplateHouse$Checker", "checkCalls", "()V"⟩ ⟨"TemplateHouse$Checker", "checkCalls", "()V"⟩ ∈ zT := zin 4 (by decide +kernel) (by decide +kernel)
theorem zw1726 : Cond.code ⟨"TemplateHouse$Checker", "checkParts", "()V"⟩ prog_2_method_13_code 3 (Option.none : Option Jvm.ClassFile.FieldType) ∈ zT := zsub8 46 rfl rfl
theorem zw1725 : Cond.instanceMethod ⟨"TemplateHouse$Checker", "checkParts", "()V"⟩ ∈ zT := zsub8 45 (by decide +kernel) (by decide +kernel)
theorem zwp6 : Cond.selects "TemplateHouse$Checker" ⟨"TemplateHouse$Checker", "checkParts", "()V"⟩ ⟨"TemplateHouse$Checker", "checkParts", "()V"⟩ ∈ zT := zin 6 (by decide +kernel) (by decide +kernel)
theorem zw1739 : Cond.code ⟨"TemplateHouse$Checker", "tieParts", "()V"⟩ prog_2_method_17_code 6 (Option.none : Option Jvm.ClassFile.FieldType) ∈ zT := zsub8 59 rfl rfl
theorem zw1738 : Cond.instanceMethod ⟨"TemplateHouse$Checker", "tieParts", "()V"⟩ ∈ zT := zsub8 58 (by decide +kernel) (by decide +kernel)
theorem zwp9 : Cond.selects "TemplateHouse$Checker" ⟨"TemplateHouse$Checker", "tieParts", "()V"⟩ ⟨"TemplateHouse$Checker", "tieParts", "()V"⟩ ∈ zT := zin 9 (by decide +kernel) (by decide +kernel)
theorem zw2980 : Cond.code ⟨"TemplateHouseModel$Group", "clear", "()V"⟩ prog_16_method_2_code 2 (Option.none : Option Jvm.ClassFile.FieldType) ∈ zT := zsub13 100 rfl rfl
theorem zw2978 : Cond.instanceMethod ⟨"TemplateHouseModel$Group", "clear", "()V"⟩ ∈ zT := zsub13 98 (by decide +kernel) (by decide +kernel)
theorem zw2979 : Cond.selects "TemplateHouseModel$Group" ⟨"TemplateHouseModel$Group", "clear", "()V"⟩ ⟨"TemplateHouseModel$Group", "clear", "()V"⟩ ∈ zT := zsub13 99 (by decide +kernel) (by decide +kernel)
theorem zw2984 : Cond.code ⟨"TemplateHouseModel", "readFile", "(I)V"⟩ prog_15_method_20_code 4 (Option.none : Option Jvm.ClassFile.FieldType) ∈ zT := zsub13 104 rfl rfl
theorem zw2983 : Cond.instanceMethod ⟨"TemplateHouseModel", "readFile", "(I)V"⟩ ∈ zT := zsub13 103 (by decide +kernel) (by decide +kernel)
theorem zwp20 : Cond.selects "TemplateHouseModel" ⟨"TemplateHouseModel", "readFile", "(I)V"⟩ ⟨"TemplateHouseModel", "readFile", "(I)V"⟩ ∈ zT := zin 20 (by decide +kernel) (by decide +kernel)
theorem zw2988 : Cond.code ⟨"TemplateHouseModel", "skip", "()V"⟩ prog_15_method_8_code 2 (Option.none : Option Jvm.ClassFile.FieldType) ∈ zT := zsub13 108 rfl rfl
theorem zw2987 : Cond.instanceMethod ⟨"TemplateHouseModel", "skip", "()V"⟩ ∈ zT := zsub13 107 (by decide +kernel) (by decide +kernel)
theorem zwp21 : Cond.selects "TemplateHouseModel" ⟨"TemplateHouseModel", "skip", "()V"⟩ ⟨"TemplateHouseModel", "skip", "()V"⟩ ∈ zT := zin 21 (by decide +kernel) (by decide +kernel)
theorem zw2992 : Cond.code ⟨"TemplateHouseModel", "ahead", "(I)I"⟩ prog_15_method_7_code 4 (Option.some Jvm.ClassFile.FieldType.int) ∈ zT := zsub13 112 rfl rfl
theorem zw2991 : Cond.instanceMethod ⟨"TemplateHouseModel", "ahead", "(I)I"⟩ ∈ zT := zsub13 111 (by decide +kernel) (by decide +kernel)
theorem zwp13 : Cond.selects "TemplateHouseModel" ⟨"TemplateHouseModel", "ahead", "(I)I"⟩ ⟨"TemplateHouseModel", "ahead", "(I)I"⟩ ∈ zT := zin 13 (by decide +kernel) (by decide +kernel)
theorem zw2996 : Cond.code ⟨"TemplateHouseModel", "fc", "(I)I"⟩ prog_15_method_6_code 2 (Option.some Jvm.ClassFile.FieldType.int) ∈ zT := zsub13 116 rfl rfl
theorem zw2995 : Cond.instanceMethod ⟨"TemplateHouseModel", "fc", "(I)I"⟩ ∈ zT := zsub13 115 (by decide +kernel) (by decide +kernel)
theorem zwp15 : Cond.selects "TemplateHouseModel" ⟨"TemplateHouseModel", "fc", "(I)I"⟩ ⟨"TemplateHouseModel", "fc", "(I)I"⟩ ∈ zT := zin 15 (by decide +kernel) (by decide +kernel)
theorem zw2999 : Cond.code ⟨"TemplateHouseModel", "isBlank", "(I)Z"⟩ prog_15_method_3_code 1 (Option.some Jvm.ClassFile.FieldType.boolean) ∈ zT := zsub13 119 rfl rfl
theorem zw2998 : Cond.static ⟨"TemplateHouseModel", "isBlank", "(I)Z"⟩ ∈ zT := zsub13 118 (by decide +kernel) (by decide +kernel)
theorem zw3008 : Cond.code ⟨"TemplateHouseModel", "isFileWord", "(Ljava/lang/String;)Z"⟩ prog_15_method_11_code 2 (Option.some Jvm.ClassFile.FieldType.boolean) ∈ zT := zsub13 128 rfl rfl
theorem zw3007 : Cond.instanceMethod ⟨"TemplateHouseModel", "isFileWord", "(Ljava/lang/String;)Z"⟩ ∈ zT := zsub13 127 (by decide +kernel) (by decide +kernel)
theorem zwp16 : Cond.selects "TemplateHouseModel" ⟨"TemplateHouseModel", "isFileWord", "(Ljava/lang/String;)Z"⟩ ⟨"TemplateHouseModel", "isFileWord", "(Ljava/lang/String;)Z"⟩ ∈ zT := zin 16 (by decide +kernel) (by decide +kernel)
theorem zw3011 : Cond.code ⟨"TemplateHouseModel", "wordEnd", "([BII)I"⟩ prog_15_method_9_code 4 (Option.some Jvm.ClassFile.FieldType.int) ∈ zT := zsub13 131 rfl rfl
theorem zw3010 : Cond.static ⟨"TemplateHouseModel", "wordEnd", "([BII)I"⟩ ∈ zT := zsub13 130 (by decide +kernel) (by decide +kernel)
theorem zw3020 : Cond.code ⟨"TemplateHouseModel", "is", "([BIILjava/lang/String;)Z"⟩ prog_15_method_10_code 6 (Option.some Jvm.ClassFile.FieldType.boolean) ∈ zT := zsub13 140 rfl rfl
theorem zw3019 : Cond.static ⟨"TemplateHouseModel", "is", "([BIILjava/lang/String;)Z"⟩ ∈ zT := zsub13 139 (by decide +kernel) (by decide +kernel)
theorem zw3349 : Cond.code ⟨"TemplateHouseModel", "checkAll", "()V"⟩ prog_15_method_81_code 8 (Option.none : Option Jvm.ClassFile.FieldType) ∈ zT := zsub14 229 rfl rfl
theorem zw3348 : Cond.instanceMethod ⟨"TemplateHouseModel", "checkAll", "()V"⟩ ∈ zT := zsub14 228 (by decide +kernel) (by decide +kernel)
theorem zwp14 : Cond.selects "TemplateHouseModel" ⟨"TemplateHouseModel", "checkAll", "()V"⟩ ⟨"TemplateHouseModel", "checkAll", "()V"⟩ ∈ zT := zin 14 (by decide +kernel) (by decide +kernel)
theorem zw1757 : Cond.codeWith ⟨"TemplateHouseLaw", "begin", "(LTemplateHouse;)I"⟩ method_4_code 2 (Option.some Jvm.ClassFile.FieldType.int) [(0, 4, 7, 18), (0, 4, 10, 20)] ∈ zT := zsub8 77 rfl rfl
theorem zw0 : Cond.initialized "TemplateHouseLaw" ∈ zT := zsub1 0 (by decide +kernel) (by decide +kernel)
theorem zw1756 : Cond.static ⟨"TemplateHouseLaw", "begin", "(LTemplateHouse;)I"⟩ ∈ zT := zsub8 76 (by decide +kernel) (by decide +kernel)
theorem zw2288 : Cond.codeWith ⟨"TemplateHouseLaw", "run", "(LTemplateHouse;I[J)I"⟩ method_5_code 4 (Option.some Jvm.ClassFile.FieldType.int) [(0, 9, 12, 13), (0, 9, 15, 18)] ∈ zT := zsub10 128 rfl rfl
theorem zw2287 : Cond.static ⟨"TemplateHouseLaw", "run", "(LTemplateHouse;I[J)I"⟩ ∈ zT := zsub10 127 (by decide +kernel) (by decide +kernel)
theorem zw926 : Cond.codeWith ⟨"TemplateHouseLaw", "load", "(LTemplateHouse;I[J)I"⟩ method_3_code 4 (Option.some Jvm.ClassFile.FieldType.int) [(0, 9, 12, 13)] ∈ zT := zsub4 206 rfl rfl
theorem zw925 : Cond.static ⟨"TemplateHouseLaw", "load", "(LTemplateHouse;I[J)I"⟩ ∈ zT := zsub4 205 (by decide +kernel) (by decide +kernel)
abbrev cX12_begin : ByteArray := prog_1_method_22_code
abbrev yX12_begin : MethodName := ⟨"TemplateHouse", "begin", "()V"⟩
theorem dmX12_begin : zDv yX12_begin cX12_begin 3 none 0 := ⟨⟨⟨by decide +kernel, by decide +kernel, by decide +kernel⟩, zw1763, zw1⟩, zw1761, zw1762⟩
abbrev cX14_begin : ByteArray := prog_15_method_188_code
abbrev yX14_begin : MethodName := ⟨"TemplateHouseModel", "begin", "()V"⟩
theorem dmX14_begin : zDv yX14_begin cX14_begin 3 none 0 := ⟨⟨⟨by decide +kernel, by decide +kernel, by decide +kernel⟩, zw3401, zw14⟩, zw3399, zw3400⟩
abbrev cX12_run : ByteArray := prog_1_method_23_code
abbrev yX12_run : MethodName := ⟨"TemplateHouse", "run", "(I)I"⟩
theorem dmX12_run : zDv yX12_run cX12_run 3 (some .int) 1 := ⟨⟨⟨by decide +kernel, by decide +kernel, by decide +kernel⟩, zw2292, zw1⟩, zw2290, zw2291⟩
abbrev cX14_run : ByteArray := prog_15_method_189_code
abbrev yX14_run : MethodName := ⟨"TemplateHouseModel", "run", "(I)I"⟩
theorem dmX14_run : zDv yX14_run cX14_run 2 (some .int) 1 := ⟨⟨⟨by decide +kernel, by decide +kernel, by decide +kernel⟩, zw3754, zw14⟩, zw3752, zw3753⟩
abbrev cX12_load : ByteArray := prog_1_method_6_code
abbrev yX12_load : MethodName := ⟨"TemplateHouse", "load", "(I)I"⟩
theorem dmX12_load : zDv yX12_load cX12_load 3 (some .int) 1 := ⟨⟨⟨by decide +kernel, by decide +kernel, by decide +kernel⟩, zw931, zw1⟩, zw929, zw930⟩
abbrev cX14_load : ByteArray := prog_15_method_108_code
abbrev yX14_load : MethodName := ⟨"TemplateHouseModel", "load", "(I)I"⟩
theorem dmX14_load : zDv yX14_load cX14_load 5 (some .int) 1 := ⟨⟨⟨by decide +kernel, by decide +kernel, by decide +kernel⟩, zw2976, zw14⟩, zw2974, zw2975⟩
abbrev cX12_isRead : ByteArray := prog_1_method_7_code
abbrev yX12_isRead : MethodName := ⟨"TemplateHouse", "isRead", "(I)Z"⟩
theorem dmX12_isRead : zDvW yX12_isRead cX12_isRead 3 (some .boolean) [(0, 76, 77, 154)] 1 := ⟨⟨⟨by decide +kernel, by decide +kernel, by decide +kernel⟩, zw935, zw1⟩, zw934, zwp2⟩
abbrev cX1_openAll : ByteArray := prog_3_method_2_code
abbrev yX1_openAll : MethodName := ⟨"TemplateHouse$FileReader", "openAll", "(LTemplateHouse$Gen;I)V"⟩
theorem dmX1_openAll : zDv yX1_openAll cX1_openAll 3 none 2 := ⟨⟨⟨by decide +kernel, by decide +kernel, by decide +kernel⟩, zw940, zw7⟩, zw938, zw939⟩
abbrev cX2_forget : ByteArray := prog_4_method_2_code
abbrev yX2_forget : MethodName := ⟨"TemplateHouse$Gen", "forget", "()V"⟩
theorem dmX2_forget : zDv yX2_forget cX2_forget 1 none 0 := ⟨⟨⟨by decide +kernel, by decide +kernel, by decide +kernel⟩, zw944, zw4⟩, zw942, zw943⟩
abbrev cX6_forget : ByteArray := prog_8_method_2_code
abbrev yX6_forget : MethodName := ⟨"TemplateHouse$Names", "forget", "()V"⟩
theorem dmX6_forget : zDv yX6_forget cX6_forget 1 none 0 := ⟨⟨⟨by decide +kernel, by decide +kernel, by decide +kernel⟩, zw948, zw5⟩, zw946, zw947⟩
abbrev cX6_intern : ByteArray := prog_8_method_6_code
abbrev yX6_intern : MethodName := ⟨"TemplateHouse$Names", "intern", "([BII)I"⟩
theorem dmX6_intern : zDv yX6_intern cX6_intern 6 (some .int) 3 := ⟨⟨⟨by decide +kernel, by decide +kernel, by decide +kernel⟩, zw957, zw5⟩, zw955, zw956⟩
abbrev cX6_find : ByteArray := prog_8_method_4_code
abbrev yX6_find : MethodName := ⟨"TemplateHouse$Names", "find", "([BII)I"⟩
theorem dmX6_find : zDv yX6_find cX6_find 6 (some .int) 3 := ⟨⟨⟨by decide +kernel, by decide +kernel, by decide +kernel⟩, zw961, zw5⟩, zw959, zw960⟩
abbrev cX6_hash : ByteArray := prog_8_method_5_code
abbrev yX6_hash : MethodName := ⟨"TemplateHouse$Names", "hash", "([BII)I"⟩
theorem dmX6_hash : zDs yX6_hash cX6_hash 5 (some .int) 3 := ⟨⟨⟨by decide +kernel, by decide +kernel, by decide +kernel⟩, zw964, zw5⟩, zw963⟩
abbrev cX4_forget : ByteArray := prog_6_method_2_code
abbrev yX4_forget : MethodName := ⟨"TemplateHouse$Imports", "forget", "()V"⟩
theorem dmX4_forget : zDv yX4_forget cX4_forget 1 none 0 := ⟨⟨⟨by decide +kernel, by decide +kernel, by decide +kernel⟩, zw977, zw6⟩, zw975, zw976⟩
abbrev cX2_keep : ByteArray := prog_4_method_8_code
abbrev yX2_keep : MethodName := ⟨"TemplateHouse$Gen", "keep", "(II)V"⟩
theorem dmX2_keep : zDv yX2_keep cX2_keep 3 none 2 := ⟨⟨⟨by decide +kernel, by decide +kernel, by decide +kernel⟩, zw983, zw4⟩, zw981, zw982⟩
abbrev cX1_openFile : ByteArray := prog_3_method_4_code
abbrev yX1_openFile : MethodName := ⟨"TemplateHouse$FileReader", "openFile", "(I)V"⟩
theorem dmX1_openFile : zDv yX1_openFile cX1_openFile 2 none 1 := ⟨⟨⟨by decide +kernel, by decide +kernel, by decide +kernel⟩, zw987, zw7⟩, zw986, zwp11⟩
abbrev cX4_wasRead : ByteArray := prog_6_method_3_code
abbrev yX4_wasRead : MethodName := ⟨"TemplateHouse$Imports", "wasRead", "(I)Z"⟩
theorem dmX4_wasRead : zDv yX4_wasRead cX4_wasRead 3 (some .boolean) 1 := ⟨⟨⟨by decide +kernel, by decide +kernel, by decide +kernel⟩, zw991, zw6⟩, zw989, zw990⟩
abbrev cX4_noteRead : ByteArray := prog_6_method_4_code
abbrev yX4_noteRead : MethodName := ⟨"TemplateHouse$Imports", "noteRead", "(I)V"⟩
theorem dmX4_noteRead : zDv yX4_noteRead cX4_noteRead 2 none 1 := ⟨⟨⟨by decide +kernel, by decide +kernel, by decide +kernel⟩, zw997, zw6⟩, zw995, zw996⟩
abbrev cX7_openFile : ByteArray := prog_9_method_2_code
abbrev yX7_openFile : MethodName := ⟨"TemplateHouse$Source", "openFile", "(I[BI)V"⟩
theorem dmX7_openFile : zDv yX7_openFile cX7_openFile 4 none 3 := ⟨⟨⟨by decide +kernel, by decide +kernel, by decide +kernel⟩, zw1003, zw3⟩, zw1001, zw1002⟩
abbrev cX10_openFile : ByteArray := prog_12_method_2_code
abbrev yX10_openFile : MethodName := ⟨"TemplateHouse$TextReader", "openFile", "(LTemplateHouse$Gen;)V"⟩
theorem dmX10_openFile : zDv yX10_openFile cX10_openFile 2 none 1 := ⟨⟨⟨by decide +kernel, by decide +kernel, by decide +kernel⟩, zw1007, zw8⟩, zw1005, zw1006⟩
abbrev cX1_head : ByteArray := prog_3_method_5_code
abbrev yX1_head : MethodName := ⟨"TemplateHouse$FileReader", "head", "()V"⟩
theorem dmX1_head : zDv yX1_head cX1_head 4 none 0 := ⟨⟨⟨by decide +kernel, by decide +kernel, by decide +kernel⟩, zw1011, zw7⟩, zw1010, zwp10⟩
abbrev cX7_skip : ByteArray := prog_9_method_23_code
abbrev yX7_skip : MethodName := ⟨"TemplateHouse$Source", "skip", "()V"⟩
theorem dmX7_skip : zDv yX7_skip cX7_skip 2 none 0 := ⟨⟨⟨by decide +kernel, by decide +kernel, by decide +kernel⟩, zw1015, zw3⟩, zw1013, zw1014⟩
abbrev cX7_past : ByteArray := prog_9_method_22_code
abbrev yX7_past : MethodName := ⟨"TemplateHouse$Source", "past", "(I)I"⟩
theorem dmX7_past : zDv yX7_past cX7_past 6 (some .int) 1 := ⟨⟨⟨by decide +kernel, by decide +kernel, by decide +kernel⟩, zw1019, zw3⟩, zw1017, zw1018⟩
abbrev cX7_rowEnd : ByteArray := prog_9_method_13_code
abbrev yX7_rowEnd : MethodName := ⟨"TemplateHouse$Source", "rowEnd", "(I)I"⟩
theorem dmX7_rowEnd : zDv yX7_rowEnd cX7_rowEnd 5 (some .int) 1 := ⟨⟨⟨by decide +kernel, by decide +kernel, by decide +kernel⟩, zw1090, zw3⟩, zw1088, zw1089⟩
abbrev cX7_isHere : ByteArray := prog_9_method_15_code
abbrev yX7_isHere : MethodName := ⟨"TemplateHouse$Source", "isHere", "(ILjava/lang/String;)Z"⟩
theorem dmX7_isHere : zDv yX7_isHere cX7_isHere 3 (some .boolean) 2 := ⟨⟨⟨by decide +kernel, by decide +kernel, by decide +kernel⟩, zw1095, zw3⟩, zw1093, zw1094⟩
abbrev cX12_isText : ByteArray := prog_1_method_35_code
abbrev yX12_isText : MethodName := ⟨"TemplateHouse", "isText", "([BIILjava/lang/String;)Z"⟩
theorem dmX12_isText : zDs yX12_isText cX12_isText 5 (some .boolean) 4 := ⟨⟨⟨by decide +kernel, by decide +kernel, by decide +kernel⟩, zw1098, zw1⟩, zw1097⟩
abbrev cX1_isMore : ByteArray := prog_3_method_3_code
abbrev yX1_isMore : MethodName := ⟨"TemplateHouse$FileReader", "isMore", "()Z"⟩
theorem dmX1_isMore : zDv yX1_isMore cX1_isMore 4 (some .boolean) 0 := ⟨⟨⟨by decide +kernel, by decide +kernel, by decide +kernel⟩, zw1255, zw7⟩, zw1253, zw1254⟩
abbrev cX0_checkAll : ByteArray := prog_2_method_2_code
abbrev yX0_checkAll : MethodName := ⟨"TemplateHouse$Checker", "checkAll", "(LTemplateHouse$Gen;)V"⟩
theorem dmX0_checkAll : zDv yX0_checkAll cX0_checkAll 3 none 1 := ⟨⟨⟨by decide +kernel, by decide +kernel, by decide +kernel⟩, zw1654, zw9⟩, zw1652, zw1653⟩
abbrev cX4_layWays : ByteArray := prog_6_method_8_code
abbrev yX4_layWays : MethodName := ⟨"TemplateHouse$Imports", "layWays", "()V"⟩
theorem dmX4_layWays : zDv yX4_layWays cX4_layWays 3 none 0 := ⟨⟨⟨by decide +kernel, by decide +kernel, by decide +kernel⟩, zw1658, zw6⟩, zw1656, zw1657⟩
abbrev cX4_extend : ByteArray := prog_6_method_9_code
abbrev yX4_extend : MethodName := ⟨"TemplateHouse$Imports", "extend", "([I[IIII)V"⟩
theorem dmX4_extend : zDv yX4_extend cX4_extend 8 none 5 := ⟨⟨⟨by decide +kernel, by decide +kernel, by decide +kernel⟩, zw1662, zw6⟩, zw1661, zwp12⟩
abbrev cX0_nameAll : ByteArray := prog_2_method_4_code
abbrev yX0_nameAll : MethodName := ⟨"TemplateHouse$Checker", "nameAll", "()V"⟩
theorem dmX0_nameAll : zDv yX0_nameAll cX0_nameAll 3 none 0 := ⟨⟨⟨by decide +kernel, by decide +kernel, by decide +kernel⟩, zw1666, zw9⟩, zw1665, zwp7⟩
abbrev cX4_wayLength : ByteArray := prog_6_method_7_code
abbrev yX4_wayLength : MethodName := ⟨"TemplateHouse$Imports", "wayLength", "(I)I"⟩
theorem dmX4_wayLength : zDv yX4_wayLength cX4_wayLength 2 (some .int) 1 := ⟨⟨⟨by decide +kernel, by decide +kernel, by decide +kernel⟩, zw1672, zw6⟩, zw1670, zw1671⟩
abbrev cX4_way : ByteArray := prog_6_method_6_code
abbrev yX4_way : MethodName := ⟨"TemplateHouse$Imports", "way", "(II)I"⟩
theorem dmX4_way : zDv yX4_way cX4_way 3 (some .int) 2 := ⟨⟨⟨by decide +kernel, by decide +kernel, by decide +kernel⟩, zw1676, zw6⟩, zw1674, zw1675⟩
abbrev cX0_nameFile : ByteArray := prog_2_method_5_code
abbrev yX0_nameFile : MethodName := ⟨"TemplateHouse$Checker", "nameFile", "(I)V"⟩
theorem dmX0_nameFile : zDv yX0_nameFile cX0_nameFile 6 none 1 := ⟨⟨⟨by decide +kernel, by decide +kernel, by decide +kernel⟩, zw1680, zw9⟩, zw1679, zwp8⟩
abbrev cX0_checkDefs : ByteArray := prog_2_method_6_code
abbrev yX0_checkDefs : MethodName := ⟨"TemplateHouse$Checker", "checkDefs", "()V"⟩
theorem dmX0_checkDefs : zDv yX0_checkDefs cX0_checkDefs 5 none 0 := ⟨⟨⟨by decide +kernel, by decide +kernel, by decide +kernel⟩, zw1684, zw9⟩, zw1683, zwp5⟩
abbrev cX0_checkCalls : ByteArray := prog_2_method_9_code
abbrev yX0_checkCalls : MethodName := ⟨"TemplateHouse$Checker", "checkCalls", "()V"⟩
theorem dmX0_checkCalls : zDv yX0_checkCalls cX0_checkCalls 2 none 0 := ⟨⟨⟨by decide +kernel, by decide +kernel, by decide +kernel⟩, zw1704, zw9⟩, zw1703, zwp4⟩
abbrev cX0_checkParts : ByteArray := prog_2_method_13_code
abbrev yX0_checkParts : MethodName := ⟨"TemplateHouse$Checker", "checkParts", "()V"⟩
theorem dmX0_checkParts : zDv yX0_checkParts cX0_checkParts 3 none 0 := ⟨⟨⟨by decide +kernel, by decide +kernel, by decide +kernel⟩, zw1726, zw9⟩, zw1725, zwp6⟩
abbrev cX0_tieParts : ByteArray := prog_2_method_17_code
abbrev yX0_tieParts : MethodName := ⟨"TemplateHouse$Checker", "tieParts", "()V"⟩
theorem dmX0_tieParts : zDv yX0_tieParts cX0_tieParts 6 none 0 := ⟨⟨⟨by decide +kernel, by decide +kernel, by decide +kernel⟩, zw1739, zw9⟩, zw1738, zwp9⟩
abbrev cX13_clear : ByteArray := prog_16_method_2_code
abbrev yX13_clear : MethodName := ⟨"TemplateHouseModel$Group", "clear", "()V"⟩
theorem dmX13_clear : zDv yX13_clear cX13_clear 2 none 0 := ⟨⟨⟨by decide +kernel, by decide +kernel, by decide +kernel⟩, zw2980, zw15⟩, zw2978, zw2979⟩
abbrev cX14_readFile : ByteArray := prog_15_method_20_code
abbrev yX14_readFile : MethodName := ⟨"TemplateHouseModel", "readFile", "(I)V"⟩
theorem dmX14_readFile : zDv yX14_readFile cX14_readFile 4 none 1 := ⟨⟨⟨by decide +kernel, by decide +kernel, by decide +kernel⟩, zw2984, zw14⟩, zw2983, zwp20⟩
abbrev cX14_skip : ByteArray := prog_15_method_8_code
abbrev yX14_skip : MethodName := ⟨"TemplateHouseModel", "skip", "()V"⟩
theorem dmX14_skip : zDv yX14_skip cX14_skip 2 none 0 := ⟨⟨⟨by decide +kernel, by decide +kernel, by decide +kernel⟩, zw2988, zw14⟩, zw2987, zwp21⟩
abbrev cX14_ahead : ByteArray := prog_15_method_7_code
abbrev yX14_ahead : MethodName := ⟨"TemplateHouseModel", "ahead", "(I)I"⟩
theorem dmX14_ahead : zDv yX14_ahead cX14_ahead 4 (some .int) 1 := ⟨⟨⟨by decide +kernel, by decide +kernel, by decide +kernel⟩, zw2992, zw14⟩, zw2991, zwp13⟩
abbrev cX14_fc : ByteArray := prog_15_method_6_code
abbrev yX14_fc : MethodName := ⟨"TemplateHouseModel", "fc", "(I)I"⟩
theorem dmX14_fc : zDv yX14_fc cX14_fc 2 (some .int) 1 := ⟨⟨⟨by decide +kernel, by decide +kernel, by decide +kernel⟩, zw2996, zw14⟩, zw2995, zwp15⟩
abbrev cX14_isBlank : ByteArray := prog_15_method_3_code
abbrev yX14_isBlank : MethodName := ⟨"TemplateHouseModel", "isBlank", "(I)Z"⟩
theorem dmX14_isBlank : zDs yX14_isBlank cX14_isBlank 1 (some .boolean) 1 := ⟨⟨⟨by decide +kernel, by decide +kernel, by decide +kernel⟩, zw2999, zw14⟩, zw2998⟩
abbrev cX14_isFileWord : ByteArray := prog_15_method_11_code
abbrev yX14_isFileWord : MethodName := ⟨"TemplateHouseModel", "isFileWord", "(Ljava/lang/String;)Z"⟩
theorem dmX14_isFileWord : zDv yX14_isFileWord cX14_isFileWord 2 (some .boolean) 1 := ⟨⟨⟨by decide +kernel, by decide +kernel, by decide +kernel⟩, zw3008, zw14⟩, zw3007, zwp16⟩
abbrev cX14_wordEnd : ByteArray := prog_15_method_9_code
abbrev yX14_wordEnd : MethodName := ⟨"TemplateHouseModel", "wordEnd", "([BII)I"⟩
theorem dmX14_wordEnd : zDs yX14_wordEnd cX14_wordEnd 4 (some .int) 3 := ⟨⟨⟨by decide +kernel, by decide +kernel, by decide +kernel⟩, zw3011, zw14⟩, zw3010⟩
abbrev cX14_is : ByteArray := prog_15_method_10_code
abbrev yX14_is : MethodName := ⟨"TemplateHouseModel", "is", "([BIILjava/lang/String;)Z"⟩
theorem dmX14_is : zDs yX14_is cX14_is 6 (some .boolean) 4 := ⟨⟨⟨by decide +kernel, by decide +kernel, by decide +kernel⟩, zw3020, zw14⟩, zw3019⟩
abbrev cX14_checkAll : ByteArray := prog_15_method_81_code
abbrev yX14_checkAll : MethodName := ⟨"TemplateHouseModel", "checkAll", "()V"⟩
theorem dmX14_checkAll : zDv yX14_checkAll cX14_checkAll 8 none 0 := ⟨⟨⟨by decide +kernel, by decide +kernel, by decide +kernel⟩, zw3349, zw14⟩, zw3348, zwp14⟩
abbrev cL_begin : ByteArray := method_4_code
abbrev yL_begin : MethodName := ⟨"TemplateHouseLaw", "begin", "(LTemplateHouse;)I"⟩
theorem dmL_begin : zDsW yL_begin cL_begin 2 (some .int) [(0, 4, 7, 18), (0, 4, 10, 20)] 1 := ⟨⟨⟨by decide +kernel, by decide +kernel, by decide +kernel⟩, zw1757, zw0⟩, zw1756⟩
abbrev cL_run : ByteArray := method_5_code
abbrev yL_run : MethodName := ⟨"TemplateHouseLaw", "run", "(LTemplateHouse;I[J)I"⟩
theorem dmL_run : zDsW yL_run cL_run 4 (some .int) [(0, 9, 12, 13), (0, 9, 15, 18)] 3 := ⟨⟨⟨by decide +kernel, by decide +kernel, by decide +kernel⟩, zw2288, zw0⟩, zw2287⟩
abbrev cL_load : ByteArray := method_3_code
abbrev yL_load : MethodName := ⟨"TemplateHouseLaw", "load", "(LTemplateHouse;I[J)I"⟩
theorem dmL_load : zDsW yL_load cL_load 4 (some .int) [(0, 9, 12, 13)] 3 := ⟨⟨⟨by decide +kernel, by decide +kernel, by decide +kernel⟩, zw926, zw0⟩, zw925⟩
theorem dX12_begin_0 : decode cX12_begin 0 = .ok (.aload_n 0, 1) := by decide +kernel
theorem dX12_begin_1 : decode cX12_begin 1 = .ok (.getfield 16, 3) := by decide +kernel
theorem dX12_begin_4 : decode cX12_begin 4 = .ok (.istore_n 1, 1) := by decide +kernel
theorem dX12_begin_5 : decode cX12_begin 5 = .ok (.aload_n 0, 1) := by decide +kernel
theorem dX12_begin_6 : decode cX12_begin 6 = .ok (.iconst 0, 1) := by decide +kernel
theorem dX12_begin_7 : decode cX12_begin 7 = .ok (.putfield 16, 3) := by decide +kernel
theorem dX12_begin_10 : decode cX12_begin 10 = .ok (.aload_n 0, 1) := by decide +kernel
theorem dX12_begin_11 : decode cX12_begin 11 = .ok (.getfield 20, 3) := by decide +kernel
theorem dX12_begin_14 : decode cX12_begin 14 = .ok (.ifCond .eq 11, 3) := by decide +kernel
theorem dX12_begin_25 : decode cX12_begin 25 = .ok (.new 154, 3) := by decide +kernel
theorem dX12_begin_28 : decode cX12_begin 28 = .ok (.dup, 1) := by decide +kernel
theorem dX12_begin_29 : decode cX12_begin 29 = .ok (.invokespecial 196, 3) := by decide +kernel
theorem dX12_begin_32 : decode cX12_begin 32 = .ok (.athrow, 1) := by decide +kernel
theorem dX14_begin_0 : decode cX14_begin 0 = .ok (.aload_n 0, 1) := by decide +kernel
theorem dX14_begin_1 : decode cX14_begin 1 = .ok (.iconst 0, 1) := by decide +kernel
theorem dX14_begin_2 : decode cX14_begin 2 = .ok (.putfield 806, 3) := by decide +kernel
theorem dX14_begin_5 : decode cX14_begin 5 = .ok (.aload_n 0, 1) := by decide +kernel
theorem dX14_begin_6 : decode cX14_begin 6 = .ok (.invokevirtual 812, 3) := by decide +kernel
theorem dX14_begin_9 : decode cX14_begin 9 = .ok (.aload_n 0, 1) := by decide +kernel
theorem dX14_begin_10 : decode cX14_begin 10 = .ok (.getfield 836, 3) := by decide +kernel
theorem dX14_begin_13 : decode cX14_begin 13 = .ok (.ifnull 10, 3) := by decide +kernel
theorem dX14_begin_23 : decode cX14_begin 23 = .ok (.aload_n 0, 1) := by decide +kernel
theorem dX14_begin_24 : decode cX14_begin 24 = .ok (.iconst 1, 1) := by decide +kernel
theorem dX14_begin_25 : decode cX14_begin 25 = .ok (.putfield 806, 3) := by decide +kernel
theorem dX14_begin_28 : decode cX14_begin 28 = .ok (.return_, 1) := by decide +kernel
theorem dX12_run_0 : decode cX12_run 0 = .ok (.iload_n 1, 1) := by decide +kernel
theorem dX12_run_1 : decode cX12_run 1 = .ok (.iconst 1, 1) := by decide +kernel
theorem dX12_run_2 : decode cX12_run 2 = .ok (.if_icmp .lt 10, 3) := by decide +kernel
theorem dX12_run_12 : decode cX12_run 12 = .ok (.new 123, 3) := by decide +kernel
theorem dX12_run_15 : decode cX12_run 15 = .ok (.dup, 1) := by decide +kernel
theorem dX12_run_16 : decode cX12_run 16 = .ok (.invokespecial 125, 3) := by decide +kernel
theorem dX12_run_19 : decode cX12_run 19 = .ok (.athrow, 1) := by decide +kernel
theorem dX14_run_0 : decode cX14_run 0 = .ok (.aload_n 0, 1) := by decide +kernel
theorem dX14_run_1 : decode cX14_run 1 = .ok (.iconst 0, 1) := by decide +kernel
theorem dX14_run_2 : decode cX14_run 2 = .ok (.putfield 806, 3) := by decide +kernel
theorem dX14_run_5 : decode cX14_run 5 = .ok (.iload_n 1, 1) := by decide +kernel
theorem dX14_run_6 : decode cX14_run 6 = .ok (.iconst 1, 1) := by decide +kernel
theorem dX14_run_7 : decode cX14_run 7 = .ok (.if_icmp .lt 10, 3) := by decide +kernel
theorem dX14_run_17 : decode cX14_run 17 = .ok (.aload_n 0, 1) := by decide +kernel
theorem dX14_run_18 : decode cX14_run 18 = .ok (.iconst 1, 1) := by decide +kernel
theorem dX14_run_19 : decode cX14_run 19 = .ok (.putfield 806, 3) := by decide +kernel
theorem dX14_run_22 : decode cX14_run 22 = .ok (.goto 15, 3) := by decide +kernel
theorem dX14_run_37 : decode cX14_run 37 = .ok (.aload_n 0, 1) := by decide +kernel
theorem dX14_run_38 : decode cX14_run 38 = .ok (.getfield 806, 3) := by decide +kernel
theorem dX14_run_41 : decode cX14_run 41 = .ok (.ifCond .eq 5, 3) := by decide +kernel
theorem dX14_run_44 : decode cX14_run 44 = .ok (.iconst 0, 1) := by decide +kernel
theorem dX14_run_45 : decode cX14_run 45 = .ok (.ireturn, 1) := by decide +kernel
theorem dX12_run_5 : decode cX12_run 5 = .ok (.iload_n 1, 1) := by decide +kernel
theorem dX12_run_6 : decode cX12_run 6 = .ok (.sipush 12000, 3) := by decide +kernel
theorem dX12_run_9 : decode cX12_run 9 = .ok (.if_icmp .le 11, 3) := by decide +kernel
theorem dX14_run_10 : decode cX14_run 10 = .ok (.iload_n 1, 1) := by decide +kernel
theorem dX14_run_11 : decode cX14_run 11 = .ok (.sipush 12000, 3) := by decide +kernel
theorem dX14_run_14 : decode cX14_run 14 = .ok (.if_icmp .le 11, 3) := by decide +kernel
theorem dX12_run_20 : decode cX12_run 20 = .ok (.aload_n 0, 1) := by decide +kernel
theorem dX12_run_21 : decode cX12_run 21 = .ok (.getfield 35, 3) := by decide +kernel
theorem dX12_run_24 : decode cX12_run 24 = .ok (.iconst 1, 1) := by decide +kernel
theorem dX12_run_25 : decode cX12_run 25 = .ok (.if_icmp .eq 11, 3) := by decide +kernel
theorem dX12_run_28 : decode cX12_run 28 = .ok (.new 154, 3) := by decide +kernel
theorem dX12_run_31 : decode cX12_run 31 = .ok (.dup, 1) := by decide +kernel
theorem dX12_run_32 : decode cX12_run 32 = .ok (.invokespecial 196, 3) := by decide +kernel
theorem dX12_run_35 : decode cX12_run 35 = .ok (.athrow, 1) := by decide +kernel
theorem dX14_run_25 : decode cX14_run 25 = .ok (.aload_n 0, 1) := by decide +kernel
theorem dX14_run_26 : decode cX14_run 26 = .ok (.invokevirtual 803, 3) := by decide +kernel
theorem dX14_run_29 : decode cX14_run 29 = .ok (.ifCond .ne 8, 3) := by decide +kernel
theorem dX14_run_32 : decode cX14_run 32 = .ok (.aload_n 0, 1) := by decide +kernel
theorem dX14_run_33 : decode cX14_run 33 = .ok (.iconst 2, 1) := by decide +kernel
theorem dX14_run_34 : decode cX14_run 34 = .ok (.putfield 806, 3) := by decide +kernel
theorem dX12_load_0 : decode cX12_load 0 = .ok (.aload_n 0, 1) := by decide +kernel
theorem dX12_load_1 : decode cX12_load 1 = .ok (.iconst 0, 1) := by decide +kernel
theorem dX12_load_2 : decode cX12_load 2 = .ok (.putfield 23, 3) := by decide +kernel
theorem dX12_load_5 : decode cX12_load 5 = .ok (.aload_n 0, 1) := by decide +kernel
theorem dX12_load_6 : decode cX12_load 6 = .ok (.iconst (-1), 1) := by decide +kernel
theorem dX12_load_7 : decode cX12_load 7 = .ok (.putfield 26, 3) := by decide +kernel
theorem dX12_load_10 : decode cX12_load 10 = .ok (.aload_n 0, 1) := by decide +kernel
theorem dX12_load_11 : decode cX12_load 11 = .ok (.iconst (-1), 1) := by decide +kernel
theorem dX12_load_12 : decode cX12_load 12 = .ok (.putfield 29, 3) := by decide +kernel
theorem dX12_load_15 : decode cX12_load 15 = .ok (.iload_n 1, 1) := by decide +kernel
theorem dX12_load_16 : decode cX12_load 16 = .ok (.ifCond .lt 17, 3) := by decide +kernel
theorem dX12_load_33 : decode cX12_load 33 = .ok (.new 123, 3) := by decide +kernel
theorem dX12_load_36 : decode cX12_load 36 = .ok (.dup, 1) := by decide +kernel
theorem dX12_load_37 : decode cX12_load 37 = .ok (.invokespecial 125, 3) := by decide +kernel
theorem dX12_load_40 : decode cX12_load 40 = .ok (.athrow, 1) := by decide +kernel
theorem dX14_load_0 : decode cX14_load 0 = .ok (.aload_n 0, 1) := by decide +kernel
theorem dX14_load_1 : decode cX14_load 1 = .ok (.iconst 0, 1) := by decide +kernel
theorem dX14_load_2 : decode cX14_load 2 = .ok (.putfield 806, 3) := by decide +kernel
theorem dX14_load_5 : decode cX14_load 5 = .ok (.aload_n 0, 1) := by decide +kernel
theorem dX14_load_6 : decode cX14_load 6 = .ok (.iconst 0, 1) := by decide +kernel
theorem dX14_load_7 : decode cX14_load 7 = .ok (.putfield 248, 3) := by decide +kernel
theorem dX14_load_10 : decode cX14_load 10 = .ok (.iload_n 1, 1) := by decide +kernel
theorem dX14_load_11 : decode cX14_load 11 = .ok (.ifCond .lt 9, 3) := by decide +kernel
theorem dX14_load_20 : decode cX14_load 20 = .ok (.aload_n 0, 1) := by decide +kernel
theorem dX14_load_21 : decode cX14_load 21 = .ok (.iconst 1, 1) := by decide +kernel
theorem dX14_load_22 : decode cX14_load 22 = .ok (.putfield 806, 3) := by decide +kernel
theorem dX14_load_25 : decode cX14_load 25 = .ok (.iconst 0, 1) := by decide +kernel
theorem dX14_load_26 : decode cX14_load 26 = .ok (.ireturn, 1) := by decide +kernel
theorem dX12_load_19 : decode cX12_load 19 = .ok (.iload_n 1, 1) := by decide +kernel
theorem dX12_load_20 : decode cX12_load 20 = .ok (.bipush 8, 2) := by decide +kernel
theorem dX12_load_22 : decode cX12_load 22 = .ok (.if_icmp .ge 11, 3) := by decide +kernel
theorem dX14_load_14 : decode cX14_load 14 = .ok (.iload_n 1, 1) := by decide +kernel
theorem dX14_load_15 : decode cX14_load 15 = .ok (.bipush 8, 2) := by decide +kernel
theorem dX14_load_17 : decode cX14_load 17 = .ok (.if_icmp .lt 10, 3) := by decide +kernel
theorem dX12_load_25 : decode cX12_load 25 = .ok (.aload_n 0, 1) := by decide +kernel
theorem dX12_load_26 : decode cX12_load 26 = .ok (.iload_n 1, 1) := by decide +kernel
theorem dX12_load_27 : decode cX12_load 27 = .ok (.invokevirtual 119, 3) := by decide +kernel
theorem dX12_isRead_0 : decode cX12_isRead 0 = .ok (.aload_n 0, 1) := by decide +kernel
theorem dX12_isRead_1 : decode cX12_isRead 1 = .ok (.getfield 79, 3) := by decide +kernel
theorem dX12_isRead_4 : decode cX12_isRead 4 = .ok (.aload_n 0, 1) := by decide +kernel
theorem dX12_isRead_5 : decode cX12_isRead 5 = .ok (.getfield 71, 3) := by decide +kernel
theorem dX12_isRead_8 : decode cX12_isRead 8 = .ok (.iload_n 1, 1) := by decide +kernel
theorem dX12_isRead_9 : decode cX12_isRead 9 = .ok (.invokevirtual 129, 3) := by decide +kernel
theorem dX1_openAll_0 : decode cX1_openAll 0 = .ok (.aload_n 0, 1) := by decide +kernel
theorem dX1_openAll_1 : decode cX1_openAll 1 = .ok (.aload_n 1, 1) := by decide +kernel
theorem dX1_openAll_2 : decode cX1_openAll 2 = .ok (.putfield 57, 3) := by decide +kernel
theorem dX1_openAll_5 : decode cX1_openAll 5 = .ok (.aload_n 0, 1) := by decide +kernel
theorem dX1_openAll_6 : decode cX1_openAll 6 = .ok (.getfield 57, 3) := by decide +kernel
theorem dX1_openAll_9 : decode cX1_openAll 9 = .ok (.invokevirtual 81, 3) := by decide +kernel
theorem dX2_forget_0 : decode cX2_forget 0 = .ok (.aload_n 0, 1) := by decide +kernel
theorem dX2_forget_1 : decode cX2_forget 1 = .ok (.getfield 12, 3) := by decide +kernel
theorem dX2_forget_4 : decode cX2_forget 4 = .ok (.invokevirtual 74, 3) := by decide +kernel
theorem dX6_forget_0 : decode cX6_forget 0 = .ok (.aload_n 0, 1) := by decide +kernel
theorem dX6_forget_1 : decode cX6_forget 1 = .ok (.getfield 22, 3) := by decide +kernel
theorem dX6_forget_4 : decode cX6_forget 4 = .ok (.iconst (-1), 1) := by decide +kernel
theorem dX6_forget_5 : decode cX6_forget 5 = .ok (.invokestatic 32, 3) := by decide +kernel
theorem dX6_forget_8 : decode cX6_forget 8 = .ok (.aload_n 0, 1) := by decide +kernel
theorem dX6_forget_9 : decode cX6_forget 9 = .ok (.iconst 0, 1) := by decide +kernel
theorem dX6_forget_10 : decode cX6_forget 10 = .ok (.putfield 25, 3) := by decide +kernel
theorem dX6_forget_13 : decode cX6_forget 13 = .ok (.aload_n 0, 1) := by decide +kernel
theorem dX6_forget_14 : decode cX6_forget 14 = .ok (.iconst 0, 1) := by decide +kernel
theorem dX6_forget_15 : decode cX6_forget 15 = .ok (.putfield 29, 3) := by decide +kernel
theorem dX6_forget_18 : decode cX6_forget 18 = .ok (.aload_n 0, 1) := by decide +kernel
theorem dX6_forget_19 : decode cX6_forget 19 = .ok (.getstatic 38, 3) := by decide +kernel
theorem dX6_forget_22 : decode cX6_forget 22 = .ok (.iconst 0, 1) := by decide +kernel
theorem dX6_forget_23 : decode cX6_forget 23 = .ok (.iconst 1, 1) := by decide +kernel
theorem dX6_forget_24 : decode cX6_forget 24 = .ok (.invokevirtual 41, 3) := by decide +kernel
theorem dX6_intern_0 : decode cX6_intern 0 = .ok (.aload_n 0, 1) := by decide +kernel
theorem dX6_intern_1 : decode cX6_intern 1 = .ok (.aload_n 1, 1) := by decide +kernel
theorem dX6_intern_2 : decode cX6_intern 2 = .ok (.iload_n 2, 1) := by decide +kernel
theorem dX6_intern_3 : decode cX6_intern 3 = .ok (.iload_n 3, 1) := by decide +kernel
theorem dX6_intern_4 : decode cX6_intern 4 = .ok (.invokevirtual 60, 3) := by decide +kernel
theorem dX6_find_0 : decode cX6_find 0 = .ok (.aload_n 0, 1) := by decide +kernel
theorem dX6_find_1 : decode cX6_find 1 = .ok (.getfield 22, 3) := by decide +kernel
theorem dX6_find_4 : decode cX6_find 4 = .ok (.aload_n 1, 1) := by decide +kernel
theorem dX6_find_5 : decode cX6_find 5 = .ok (.iload_n 2, 1) := by decide +kernel
theorem dX6_find_6 : decode cX6_find 6 = .ok (.iload_n 3, 1) := by decide +kernel
theorem dX6_find_7 : decode cX6_find 7 = .ok (.invokestatic 45, 3) := by decide +kernel
theorem dX6_hash_0 : decode cX6_hash 0 = .ok (.iload_n 2, 1) := by decide +kernel
theorem dX6_hash_1 : decode cX6_hash 1 = .ok (.istore_n 3, 1) := by decide +kernel
theorem dX6_hash_2 : decode cX6_hash 2 = .ok (.iload_n 1, 1) := by decide +kernel
theorem dX6_hash_3 : decode cX6_hash 3 = .ok (.istore 4, 2) := by decide +kernel
theorem dX6_hash_5 : decode cX6_hash 5 = .ok (.iload 4, 2) := by decide +kernel
theorem dX6_hash_7 : decode cX6_hash 7 = .ok (.iload_n 1, 1) := by decide +kernel
theorem dX6_hash_8 : decode cX6_hash 8 = .ok (.iload_n 2, 1) := by decide +kernel
theorem dX6_hash_9 : decode cX6_hash 9 = .ok (.iadd, 1) := by decide +kernel
theorem dX6_hash_10 : decode cX6_hash 10 = .ok (.if_icmp .ge 31, 3) := by decide +kernel
theorem dX6_hash_13 : decode cX6_hash 13 = .ok (.iload 4, 2) := by decide +kernel
theorem dX6_hash_15 : decode cX6_hash 15 = .ok (.ifCond .lt 26, 3) := by decide +kernel
theorem dX6_hash_18 : decode cX6_hash 18 = .ok (.iload 4, 2) := by decide +kernel
theorem dX6_hash_20 : decode cX6_hash 20 = .ok (.aload_n 0, 1) := by decide +kernel
theorem dX6_hash_21 : decode cX6_hash 21 = .ok (.arraylength, 1) := by decide +kernel
theorem dX6_hash_22 : decode cX6_hash 22 = .ok (.if_icmp .ge 19, 3) := by decide +kernel
theorem dX6_hash_25 : decode cX6_hash 25 = .ok (.iload_n 3, 1) := by decide +kernel
theorem dX6_hash_26 : decode cX6_hash 26 = .ok (.bipush 31, 2) := by decide +kernel
theorem dX6_hash_28 : decode cX6_hash 28 = .ok (.imul, 1) := by decide +kernel
theorem dX6_hash_29 : decode cX6_hash 29 = .ok (.aload_n 0, 1) := by decide +kernel
theorem dX6_hash_30 : decode cX6_hash 30 = .ok (.iload 4, 2) := by decide +kernel
theorem dX6_hash_32 : decode cX6_hash 32 = .ok (.baload, 1) := by decide +kernel
theorem dX6_hash_33 : decode cX6_hash 33 = .ok (.iadd, 1) := by decide +kernel
theorem dX6_hash_34 : decode cX6_hash 34 = .ok (.istore_n 3, 1) := by decide +kernel
theorem dX6_hash_35 : decode cX6_hash 35 = .ok (.iinc 4 1, 3) := by decide +kernel
theorem dX6_hash_38 : decode cX6_hash 38 = .ok (.goto (-33), 3) := by decide +kernel
theorem dX6_hash_41 : decode cX6_hash 41 = .ok (.iload_n 3, 1) := by decide +kernel
theorem dX6_hash_42 : decode cX6_hash 42 = .ok (.iload_n 3, 1) := by decide +kernel
theorem dX6_hash_43 : decode cX6_hash 43 = .ok (.bipush 13, 2) := by decide +kernel
theorem dX6_hash_45 : decode cX6_hash 45 = .ok (.iushr, 1) := by decide +kernel
theorem dX6_hash_46 : decode cX6_hash 46 = .ok (.ixor, 1) := by decide +kernel
theorem dX6_hash_47 : decode cX6_hash 47 = .ok (.sipush 8191, 3) := by decide +kernel
theorem dX6_hash_50 : decode cX6_hash 50 = .ok (.iand, 1) := by decide +kernel
theorem dX6_hash_51 : decode cX6_hash 51 = .ok (.ireturn, 1) := by decide +kernel
theorem dX6_find_10 : decode cX6_find 10 = .ok (.invokestatic 48, 3) := by decide +kernel
theorem dX6_find_13 : decode cX6_find 13 = .ok (.istore 4, 2) := by decide +kernel
theorem dX6_find_15 : decode cX6_find 15 = .ok (.iconst 0, 1) := by decide +kernel
theorem dX6_find_16 : decode cX6_find 16 = .ok (.istore 5, 2) := by decide +kernel
theorem dX6_find_18 : decode cX6_find 18 = .ok (.iload 5, 2) := by decide +kernel
theorem dX6_find_20 : decode cX6_find 20 = .ok (.aload_n 0, 1) := by decide +kernel
theorem dX6_find_21 : decode cX6_find 21 = .ok (.getfield 25, 3) := by decide +kernel
theorem dX6_find_24 : decode cX6_find 24 = .ok (.if_icmp .ge 60, 3) := by decide +kernel
theorem dX6_find_84 : decode cX6_find 84 = .ok (.iconst (-1), 1) := by decide +kernel
theorem dX6_find_85 : decode cX6_find 85 = .ok (.ireturn, 1) := by decide +kernel
theorem dX6_intern_7 : decode cX6_intern 7 = .ok (.istore 4, 2) := by decide +kernel
theorem dX6_intern_9 : decode cX6_intern 9 = .ok (.iload 4, 2) := by decide +kernel
theorem dX6_intern_11 : decode cX6_intern 11 = .ok (.ifCond .ge 27, 3) := by decide +kernel
theorem dX6_intern_14 : decode cX6_intern 14 = .ok (.aload_n 0, 1) := by decide +kernel
theorem dX6_intern_15 : decode cX6_intern 15 = .ok (.getfield 25, 3) := by decide +kernel
theorem dX6_intern_18 : decode cX6_intern 18 = .ok (.sipush 16100, 3) := by decide +kernel
theorem dX6_intern_21 : decode cX6_intern 21 = .ok (.if_icmp .gt 17, 3) := by decide +kernel
theorem dX6_intern_24 : decode cX6_intern 24 = .ok (.aload_n 0, 1) := by decide +kernel
theorem dX6_intern_25 : decode cX6_intern 25 = .ok (.getfield 29, 3) := by decide +kernel
theorem dX6_intern_28 : decode cX6_intern 28 = .ok (.iload_n 3, 1) := by decide +kernel
theorem dX6_intern_29 : decode cX6_intern 29 = .ok (.iadd, 1) := by decide +kernel
theorem dX6_intern_30 : decode cX6_intern 30 = .ok (.aload_n 0, 1) := by decide +kernel
theorem dX6_intern_31 : decode cX6_intern 31 = .ok (.getfield 9, 3) := by decide +kernel
theorem dX6_intern_34 : decode cX6_intern 34 = .ok (.arraylength, 1) := by decide +kernel
theorem dX6_intern_35 : decode cX6_intern 35 = .ok (.if_icmp .le 6, 3) := by decide +kernel
theorem dX6_intern_41 : decode cX6_intern 41 = .ok (.iconst 0, 1) := by decide +kernel
theorem dX6_intern_42 : decode cX6_intern 42 = .ok (.istore 5, 2) := by decide +kernel
theorem dX6_intern_44 : decode cX6_intern 44 = .ok (.iload 5, 2) := by decide +kernel
theorem dX6_intern_46 : decode cX6_intern 46 = .ok (.iload_n 3, 1) := by decide +kernel
theorem dX6_intern_47 : decode cX6_intern 47 = .ok (.if_icmp .ge 31, 3) := by decide +kernel
theorem dX6_intern_50 : decode cX6_intern 50 = .ok (.aload_n 0, 1) := by decide +kernel
theorem dX6_intern_51 : decode cX6_intern 51 = .ok (.getfield 9, 3) := by decide +kernel
theorem dX6_intern_54 : decode cX6_intern 54 = .ok (.aload_n 0, 1) := by decide +kernel
theorem dX6_intern_55 : decode cX6_intern 55 = .ok (.getfield 29, 3) := by decide +kernel
theorem dX6_intern_58 : decode cX6_intern 58 = .ok (.iload 5, 2) := by decide +kernel
theorem dX6_intern_60 : decode cX6_intern 60 = .ok (.iadd, 1) := by decide +kernel
theorem dX6_intern_61 : decode cX6_intern 61 = .ok (.aload_n 1, 1) := by decide +kernel
theorem dX6_intern_62 : decode cX6_intern 62 = .ok (.iload_n 2, 1) := by decide +kernel
theorem dX6_intern_63 : decode cX6_intern 63 = .ok (.iload 5, 2) := by decide +kernel
theorem dX6_intern_65 : decode cX6_intern 65 = .ok (.iadd, 1) := by decide +kernel
theorem dX6_intern_66 : decode cX6_intern 66 = .ok (.invokestatic 63, 3) := by decide +kernel
theorem dX6_intern_69 : decode cX6_intern 69 = .ok (.invokestatic 67, 3) := by decide +kernel
theorem dX6_intern_72 : decode cX6_intern 72 = .ok (.iinc 5 1, 3) := by decide +kernel
theorem dX6_intern_75 : decode cX6_intern 75 = .ok (.goto (-31), 3) := by decide +kernel
theorem dX6_intern_78 : decode cX6_intern 78 = .ok (.aload_n 1, 1) := by decide +kernel
theorem dX6_intern_79 : decode cX6_intern 79 = .ok (.iload_n 2, 1) := by decide +kernel
theorem dX6_intern_80 : decode cX6_intern 80 = .ok (.iload_n 3, 1) := by decide +kernel
theorem dX6_intern_81 : decode cX6_intern 81 = .ok (.invokestatic 45, 3) := by decide +kernel
theorem dX6_intern_84 : decode cX6_intern 84 = .ok (.istore 5, 2) := by decide +kernel
theorem dX6_intern_86 : decode cX6_intern 86 = .ok (.aload_n 0, 1) := by decide +kernel
theorem dX6_intern_87 : decode cX6_intern 87 = .ok (.getfield 15, 3) := by decide +kernel
theorem dX6_intern_90 : decode cX6_intern 90 = .ok (.aload_n 0, 1) := by decide +kernel
theorem dX6_intern_91 : decode cX6_intern 91 = .ok (.getfield 25, 3) := by decide +kernel
theorem dX6_intern_94 : decode cX6_intern 94 = .ok (.aload_n 0, 1) := by decide +kernel
theorem dX6_intern_95 : decode cX6_intern 95 = .ok (.getfield 29, 3) := by decide +kernel
theorem dX6_intern_98 : decode cX6_intern 98 = .ok (.invokestatic 71, 3) := by decide +kernel
theorem dX6_intern_101 : decode cX6_intern 101 = .ok (.aload_n 0, 1) := by decide +kernel
theorem dX6_intern_102 : decode cX6_intern 102 = .ok (.dup, 1) := by decide +kernel
theorem dX6_intern_103 : decode cX6_intern 103 = .ok (.getfield 29, 3) := by decide +kernel
theorem dX6_intern_106 : decode cX6_intern 106 = .ok (.iload_n 3, 1) := by decide +kernel
theorem dX6_intern_107 : decode cX6_intern 107 = .ok (.iadd, 1) := by decide +kernel
theorem dX6_intern_108 : decode cX6_intern 108 = .ok (.putfield 29, 3) := by decide +kernel
theorem dX6_intern_111 : decode cX6_intern 111 = .ok (.aload_n 0, 1) := by decide +kernel
theorem dX6_intern_112 : decode cX6_intern 112 = .ok (.getfield 15, 3) := by decide +kernel
theorem dX6_intern_115 : decode cX6_intern 115 = .ok (.aload_n 0, 1) := by decide +kernel
theorem dX6_intern_116 : decode cX6_intern 116 = .ok (.getfield 25, 3) := by decide +kernel
theorem dX6_intern_119 : decode cX6_intern 119 = .ok (.iconst 1, 1) := by decide +kernel
theorem dX6_intern_120 : decode cX6_intern 120 = .ok (.iadd, 1) := by decide +kernel
theorem dX6_intern_121 : decode cX6_intern 121 = .ok (.aload_n 0, 1) := by decide +kernel
theorem dX6_intern_122 : decode cX6_intern 122 = .ok (.getfield 29, 3) := by decide +kernel
theorem dX6_intern_125 : decode cX6_intern 125 = .ok (.invokestatic 71, 3) := by decide +kernel
theorem dX6_intern_128 : decode cX6_intern 128 = .ok (.aload_n 0, 1) := by decide +kernel
theorem dX6_intern_129 : decode cX6_intern 129 = .ok (.getfield 19, 3) := by decide +kernel
theorem dX6_intern_132 : decode cX6_intern 132 = .ok (.aload_n 0, 1) := by decide +kernel
theorem dX6_intern_133 : decode cX6_intern 133 = .ok (.getfield 25, 3) := by decide +kernel
theorem dX6_intern_136 : decode cX6_intern 136 = .ok (.aload_n 0, 1) := by decide +kernel
theorem dX6_intern_137 : decode cX6_intern 137 = .ok (.getfield 22, 3) := by decide +kernel
theorem dX6_intern_140 : decode cX6_intern 140 = .ok (.iload 5, 2) := by decide +kernel
theorem dX6_intern_142 : decode cX6_intern 142 = .ok (.invokestatic 48, 3) := by decide +kernel
theorem dX6_intern_145 : decode cX6_intern 145 = .ok (.invokestatic 71, 3) := by decide +kernel
theorem dX6_intern_148 : decode cX6_intern 148 = .ok (.aload_n 0, 1) := by decide +kernel
theorem dX6_intern_149 : decode cX6_intern 149 = .ok (.getfield 22, 3) := by decide +kernel
theorem dX6_intern_152 : decode cX6_intern 152 = .ok (.iload 5, 2) := by decide +kernel
theorem dX6_intern_154 : decode cX6_intern 154 = .ok (.aload_n 0, 1) := by decide +kernel
theorem dX6_intern_155 : decode cX6_intern 155 = .ok (.getfield 25, 3) := by decide +kernel
theorem dX6_intern_158 : decode cX6_intern 158 = .ok (.invokestatic 71, 3) := by decide +kernel
theorem dX6_intern_161 : decode cX6_intern 161 = .ok (.aload_n 0, 1) := by decide +kernel
theorem dX6_intern_162 : decode cX6_intern 162 = .ok (.dup, 1) := by decide +kernel
theorem dX6_intern_163 : decode cX6_intern 163 = .ok (.getfield 25, 3) := by decide +kernel
theorem dX6_intern_166 : decode cX6_intern 166 = .ok (.iconst 1, 1) := by decide +kernel
theorem dX6_intern_167 : decode cX6_intern 167 = .ok (.iadd, 1) := by decide +kernel
theorem dX6_intern_168 : decode cX6_intern 168 = .ok (.putfield 25, 3) := by decide +kernel
theorem dX6_intern_171 : decode cX6_intern 171 = .ok (.aload_n 0, 1) := by decide +kernel
theorem dX6_intern_172 : decode cX6_intern 172 = .ok (.getfield 25, 3) := by decide +kernel
theorem dX6_intern_175 : decode cX6_intern 175 = .ok (.iconst 1, 1) := by decide +kernel
theorem dX6_intern_176 : decode cX6_intern 176 = .ok (.isub, 1) := by decide +kernel
theorem dX6_intern_177 : decode cX6_intern 177 = .ok (.ireturn, 1) := by decide +kernel
theorem dX6_forget_27 : decode cX6_forget 27 = .ok (.pop, 1) := by decide +kernel
theorem dX6_forget_28 : decode cX6_forget 28 = .ok (.aload_n 0, 1) := by decide +kernel
theorem dX6_forget_29 : decode cX6_forget 29 = .ok (.getstatic 38, 3) := by decide +kernel
theorem dX6_forget_32 : decode cX6_forget 32 = .ok (.iconst 0, 1) := by decide +kernel
theorem dX6_forget_33 : decode cX6_forget 33 = .ok (.iconst 2, 1) := by decide +kernel
theorem dX6_forget_34 : decode cX6_forget 34 = .ok (.invokevirtual 41, 3) := by decide +kernel
theorem dX6_find_27 : decode cX6_find 27 = .ok (.iload 4, 2) := by decide +kernel
theorem dX6_find_29 : decode cX6_find 29 = .ok (.ifCond .lt 55, 3) := by decide +kernel
theorem dX6_forget_37 : decode cX6_forget 37 = .ok (.pop, 1) := by decide +kernel
theorem dX6_forget_38 : decode cX6_forget 38 = .ok (.return_, 1) := by decide +kernel
theorem dX2_forget_7 : decode cX2_forget 7 = .ok (.aload_n 0, 1) := by decide +kernel
theorem dX2_forget_8 : decode cX2_forget 8 = .ok (.getfield 21, 3) := by decide +kernel
theorem dX2_forget_11 : decode cX2_forget 11 = .ok (.invokevirtual 77, 3) := by decide +kernel
theorem dX4_forget_0 : decode cX4_forget 0 = .ok (.aload_n 0, 1) := by decide +kernel
theorem dX4_forget_1 : decode cX4_forget 1 = .ok (.getfield 13, 3) := by decide +kernel
theorem dX4_forget_4 : decode cX4_forget 4 = .ok (.iconst 0, 1) := by decide +kernel
theorem dX4_forget_5 : decode cX4_forget 5 = .ok (.invokestatic 29, 3) := by decide +kernel
theorem dX4_forget_8 : decode cX4_forget 8 = .ok (.aload_n 0, 1) := by decide +kernel
theorem dX4_forget_9 : decode cX4_forget 9 = .ok (.getfield 19, 3) := by decide +kernel
theorem dX4_forget_12 : decode cX4_forget 12 = .ok (.iconst 0, 1) := by decide +kernel
theorem dX4_forget_13 : decode cX4_forget 13 = .ok (.invokestatic 29, 3) := by decide +kernel
theorem dX4_forget_16 : decode cX4_forget 16 = .ok (.aload_n 0, 1) := by decide +kernel
theorem dX4_forget_17 : decode cX4_forget 17 = .ok (.iconst 0, 1) := by decide +kernel
theorem dX4_forget_18 : decode cX4_forget 18 = .ok (.putfield 25, 3) := by decide +kernel
theorem dX4_forget_21 : decode cX4_forget 21 = .ok (.return_, 1) := by decide +kernel
theorem dX2_forget_14 : decode cX2_forget 14 = .ok (.aload_n 0, 1) := by decide +kernel
theorem dX2_forget_15 : decode cX2_forget 15 = .ok (.iconst 1, 1) := by decide +kernel
theorem dX2_forget_16 : decode cX2_forget 16 = .ok (.putfield 30, 3) := by decide +kernel
theorem dX2_forget_19 : decode cX2_forget 19 = .ok (.aload_n 0, 1) := by decide +kernel
theorem dX2_forget_20 : decode cX2_forget 20 = .ok (.iconst 0, 1) := by decide +kernel
theorem dX2_forget_21 : decode cX2_forget 21 = .ok (.putfield 41, 3) := by decide +kernel
theorem dX2_forget_24 : decode cX2_forget 24 = .ok (.aload_n 0, 1) := by decide +kernel
theorem dX2_forget_25 : decode cX2_forget 25 = .ok (.iconst 0, 1) := by decide +kernel
theorem dX2_forget_26 : decode cX2_forget 26 = .ok (.putfield 47, 3) := by decide +kernel
theorem dX2_forget_29 : decode cX2_forget 29 = .ok (.aload_n 0, 1) := by decide +kernel
theorem dX2_forget_30 : decode cX2_forget 30 = .ok (.iconst 0, 1) := by decide +kernel
theorem dX2_forget_31 : decode cX2_forget 31 = .ok (.putfield 53, 3) := by decide +kernel
theorem dX2_forget_34 : decode cX2_forget 34 = .ok (.aload_n 0, 1) := by decide +kernel
theorem dX2_forget_35 : decode cX2_forget 35 = .ok (.iconst 0, 1) := by decide +kernel
theorem dX2_forget_36 : decode cX2_forget 36 = .ok (.putfield 59, 3) := by decide +kernel
theorem dX2_forget_39 : decode cX2_forget 39 = .ok (.aload_n 0, 1) := by decide +kernel
theorem dX2_forget_40 : decode cX2_forget 40 = .ok (.getfield 62, 3) := by decide +kernel
theorem dX2_forget_43 : decode cX2_forget 43 = .ok (.iconst (-1), 1) := by decide +kernel
theorem dX2_forget_44 : decode cX2_forget 44 = .ok (.invokestatic 78, 3) := by decide +kernel
theorem dX2_forget_47 : decode cX2_forget 47 = .ok (.aload_n 0, 1) := by decide +kernel
theorem dX2_forget_48 : decode cX2_forget 48 = .ok (.bipush 10, 2) := by decide +kernel
theorem dX2_forget_50 : decode cX2_forget 50 = .ok (.iconst 0, 1) := by decide +kernel
theorem dX2_forget_51 : decode cX2_forget 51 = .ok (.invokevirtual 84, 3) := by decide +kernel
theorem dX2_keep_0 : decode cX2_keep 0 = .ok (.aload_n 0, 1) := by decide +kernel
theorem dX2_keep_1 : decode cX2_keep 1 = .ok (.getfield 41, 3) := by decide +kernel
theorem dX2_keep_4 : decode cX2_keep 4 = .ok (.ifCond .lt 58, 3) := by decide +kernel
theorem dX2_keep_7 : decode cX2_keep 7 = .ok (.aload_n 0, 1) := by decide +kernel
theorem dX2_keep_8 : decode cX2_keep 8 = .ok (.getfield 41, 3) := by decide +kernel
theorem dX2_keep_11 : decode cX2_keep 11 = .ok (.aload_n 0, 1) := by decide +kernel
theorem dX2_keep_12 : decode cX2_keep 12 = .ok (.getfield 34, 3) := by decide +kernel
theorem dX2_keep_15 : decode cX2_keep 15 = .ok (.arraylength, 1) := by decide +kernel
theorem dX2_keep_16 : decode cX2_keep 16 = .ok (.if_icmp .ge 46, 3) := by decide +kernel
theorem dX2_keep_19 : decode cX2_keep 19 = .ok (.aload_n 0, 1) := by decide +kernel
theorem dX2_keep_20 : decode cX2_keep 20 = .ok (.getfield 41, 3) := by decide +kernel
theorem dX2_keep_23 : decode cX2_keep 23 = .ok (.aload_n 0, 1) := by decide +kernel
theorem dX2_keep_24 : decode cX2_keep 24 = .ok (.getfield 38, 3) := by decide +kernel
theorem dX2_keep_27 : decode cX2_keep 27 = .ok (.arraylength, 1) := by decide +kernel
theorem dX2_keep_28 : decode cX2_keep 28 = .ok (.if_icmp .ge 34, 3) := by decide +kernel
theorem dX2_keep_31 : decode cX2_keep 31 = .ok (.aload_n 0, 1) := by decide +kernel
theorem dX2_keep_32 : decode cX2_keep 32 = .ok (.getfield 34, 3) := by decide +kernel
theorem dX2_keep_35 : decode cX2_keep 35 = .ok (.aload_n 0, 1) := by decide +kernel
theorem dX2_keep_36 : decode cX2_keep 36 = .ok (.getfield 41, 3) := by decide +kernel
theorem dX2_keep_39 : decode cX2_keep 39 = .ok (.iload_n 1, 1) := by decide +kernel
theorem dX2_keep_40 : decode cX2_keep 40 = .ok (.i2b, 1) := by decide +kernel
theorem dX2_keep_41 : decode cX2_keep 41 = .ok (.bastore, 1) := by decide +kernel
theorem dX2_keep_42 : decode cX2_keep 42 = .ok (.aload_n 0, 1) := by decide +kernel
theorem dX2_keep_43 : decode cX2_keep 43 = .ok (.getfield 38, 3) := by decide +kernel
theorem dX2_keep_46 : decode cX2_keep 46 = .ok (.aload_n 0, 1) := by decide +kernel
theorem dX2_keep_47 : decode cX2_keep 47 = .ok (.getfield 41, 3) := by decide +kernel
theorem dX2_keep_50 : decode cX2_keep 50 = .ok (.iload_n 2, 1) := by decide +kernel
theorem dX2_keep_51 : decode cX2_keep 51 = .ok (.iastore, 1) := by decide +kernel
theorem dX2_keep_52 : decode cX2_keep 52 = .ok (.aload_n 0, 1) := by decide +kernel
theorem dX2_keep_53 : decode cX2_keep 53 = .ok (.dup, 1) := by decide +kernel
theorem dX2_keep_54 : decode cX2_keep 54 = .ok (.getfield 41, 3) := by decide +kernel
theorem dX2_keep_57 : decode cX2_keep 57 = .ok (.iconst 1, 1) := by decide +kernel
theorem dX2_keep_58 : decode cX2_keep 58 = .ok (.iadd, 1) := by decide +kernel
theorem dX2_keep_59 : decode cX2_keep 59 = .ok (.putfield 41, 3) := by decide +kernel
theorem dX2_keep_62 : decode cX2_keep 62 = .ok (.return_, 1) := by decide +kernel
theorem dX2_forget_54 : decode cX2_forget 54 = .ok (.return_, 1) := by decide +kernel
theorem dX1_openAll_12 : decode cX1_openAll 12 = .ok (.aload_n 0, 1) := by decide +kernel
theorem dX1_openAll_13 : decode cX1_openAll 13 = .ok (.iconst 0, 1) := by decide +kernel
theorem dX1_openAll_14 : decode cX1_openAll 14 = .ok (.putfield 41, 3) := by decide +kernel
theorem dX1_openAll_17 : decode cX1_openAll 17 = .ok (.aload_n 0, 1) := by decide +kernel
theorem dX1_openAll_18 : decode cX1_openAll 18 = .ok (.iconst (-1), 1) := by decide +kernel
theorem dX1_openAll_19 : decode cX1_openAll 19 = .ok (.putfield 50, 3) := by decide +kernel
theorem dX1_openAll_22 : decode cX1_openAll 22 = .ok (.aload_n 0, 1) := by decide +kernel
theorem dX1_openAll_23 : decode cX1_openAll 23 = .ok (.iconst 0, 1) := by decide +kernel
theorem dX1_openAll_24 : decode cX1_openAll 24 = .ok (.putfield 53, 3) := by decide +kernel
theorem dX1_openAll_27 : decode cX1_openAll 27 = .ok (.aload_n 0, 1) := by decide +kernel
theorem dX1_openAll_28 : decode cX1_openAll 28 = .ok (.iload_n 2, 1) := by decide +kernel
theorem dX1_openAll_29 : decode cX1_openAll 29 = .ok (.invokevirtual 86, 3) := by decide +kernel
theorem dX1_openFile_0 : decode cX1_openFile 0 = .ok (.iload_n 1, 1) := by decide +kernel
theorem dX1_openFile_1 : decode cX1_openFile 1 = .ok (.ifCond .lt 35, 3) := by decide +kernel
theorem dX1_openFile_4 : decode cX1_openFile 4 = .ok (.iload_n 1, 1) := by decide +kernel
theorem dX1_openFile_5 : decode cX1_openFile 5 = .ok (.aload_n 0, 1) := by decide +kernel
theorem dX1_openFile_6 : decode cX1_openFile 6 = .ok (.getfield 61, 3) := by decide +kernel
theorem dX1_openFile_9 : decode cX1_openFile 9 = .ok (.arraylength, 1) := by decide +kernel
theorem dX1_openFile_10 : decode cX1_openFile 10 = .ok (.if_icmp .ge 26, 3) := by decide +kernel
theorem dX1_openFile_13 : decode cX1_openFile 13 = .ok (.aload_n 0, 1) := by decide +kernel
theorem dX1_openFile_14 : decode cX1_openFile 14 = .ok (.getfield 57, 3) := by decide +kernel
theorem dX1_openFile_17 : decode cX1_openFile 17 = .ok (.getfield 105, 3) := by decide +kernel
theorem dX1_openFile_20 : decode cX1_openFile 20 = .ok (.iload_n 1, 1) := by decide +kernel
theorem dX1_openFile_21 : decode cX1_openFile 21 = .ok (.invokevirtual 121, 3) := by decide +kernel
theorem dX4_wasRead_0 : decode cX4_wasRead 0 = .ok (.iconst 0, 1) := by decide +kernel
theorem dX4_wasRead_1 : decode cX4_wasRead 1 = .ok (.istore_n 2, 1) := by decide +kernel
theorem dX4_wasRead_2 : decode cX4_wasRead 2 = .ok (.iload_n 2, 1) := by decide +kernel
theorem dX4_wasRead_3 : decode cX4_wasRead 3 = .ok (.aload_n 0, 1) := by decide +kernel
theorem dX4_wasRead_4 : decode cX4_wasRead 4 = .ok (.getfield 25, 3) := by decide +kernel
theorem dX4_wasRead_7 : decode cX4_wasRead 7 = .ok (.if_icmp .ge 23, 3) := by decide +kernel
theorem dX4_wasRead_30 : decode cX4_wasRead 30 = .ok (.iconst 0, 1) := by decide +kernel
theorem dX4_wasRead_31 : decode cX4_wasRead 31 = .ok (.ireturn, 1) := by decide +kernel
theorem dX1_openFile_24 : decode cX1_openFile 24 = .ok (.ifCond .ne 12, 3) := by decide +kernel
theorem dX1_openFile_27 : decode cX1_openFile 27 = .ok (.aload_n 0, 1) := by decide +kernel
theorem dX1_openFile_28 : decode cX1_openFile 28 = .ok (.getfield 41, 3) := by decide +kernel
theorem dX1_openFile_31 : decode cX1_openFile 31 = .ok (.bipush 8, 2) := by decide +kernel
theorem dX1_openFile_33 : decode cX1_openFile 33 = .ok (.if_icmp .le 4, 3) := by decide +kernel
theorem dX1_openFile_37 : decode cX1_openFile 37 = .ok (.aload_n 0, 1) := by decide +kernel
theorem dX1_openFile_38 : decode cX1_openFile 38 = .ok (.getfield 35, 3) := by decide +kernel
theorem dX1_openFile_41 : decode cX1_openFile 41 = .ok (.aload_n 0, 1) := by decide +kernel
theorem dX1_openFile_42 : decode cX1_openFile 42 = .ok (.getfield 41, 3) := by decide +kernel
theorem dX1_openFile_45 : decode cX1_openFile 45 = .ok (.iload_n 1, 1) := by decide +kernel
theorem dX1_openFile_46 : decode cX1_openFile 46 = .ok (.invokestatic 114, 3) := by decide +kernel
theorem dX1_openFile_49 : decode cX1_openFile 49 = .ok (.aload_n 0, 1) := by decide +kernel
theorem dX1_openFile_50 : decode cX1_openFile 50 = .ok (.getfield 38, 3) := by decide +kernel
theorem dX1_openFile_53 : decode cX1_openFile 53 = .ok (.aload_n 0, 1) := by decide +kernel
theorem dX1_openFile_54 : decode cX1_openFile 54 = .ok (.getfield 41, 3) := by decide +kernel
theorem dX1_openFile_57 : decode cX1_openFile 57 = .ok (.iconst 0, 1) := by decide +kernel
theorem dX1_openFile_58 : decode cX1_openFile 58 = .ok (.invokestatic 114, 3) := by decide +kernel
theorem dX1_openFile_61 : decode cX1_openFile 61 = .ok (.aload_n 0, 1) := by decide +kernel
theorem dX1_openFile_62 : decode cX1_openFile 62 = .ok (.dup, 1) := by decide +kernel
theorem dX1_openFile_63 : decode cX1_openFile 63 = .ok (.getfield 41, 3) := by decide +kernel
theorem dX1_openFile_66 : decode cX1_openFile 66 = .ok (.iconst 1, 1) := by decide +kernel
theorem dX1_openFile_67 : decode cX1_openFile 67 = .ok (.iadd, 1) := by decide +kernel
theorem dX1_openFile_68 : decode cX1_openFile 68 = .ok (.putfield 41, 3) := by decide +kernel
theorem dX1_openFile_71 : decode cX1_openFile 71 = .ok (.aload_n 0, 1) := by decide +kernel
theorem dX1_openFile_72 : decode cX1_openFile 72 = .ok (.getfield 57, 3) := by decide +kernel
theorem dX1_openFile_75 : decode cX1_openFile 75 = .ok (.getfield 105, 3) := by decide +kernel
theorem dX1_openFile_78 : decode cX1_openFile 78 = .ok (.iload_n 1, 1) := by decide +kernel
theorem dX1_openFile_79 : decode cX1_openFile 79 = .ok (.invokevirtual 125, 3) := by decide +kernel
theorem dX4_noteRead_0 : decode cX4_noteRead 0 = .ok (.aload_n 0, 1) := by decide +kernel
theorem dX4_noteRead_1 : decode cX4_noteRead 1 = .ok (.getfield 25, 3) := by decide +kernel
theorem dX4_noteRead_4 : decode cX4_noteRead 4 = .ok (.bipush 8, 2) := by decide +kernel
theorem dX4_noteRead_6 : decode cX4_noteRead 6 = .ok (.if_icmp .ge 25, 3) := by decide +kernel
theorem dX4_noteRead_9 : decode cX4_noteRead 9 = .ok (.aload_n 0, 1) := by decide +kernel
theorem dX4_noteRead_10 : decode cX4_noteRead 10 = .ok (.getfield 22, 3) := by decide +kernel
theorem dX4_noteRead_13 : decode cX4_noteRead 13 = .ok (.aload_n 0, 1) := by decide +kernel
theorem dX4_noteRead_14 : decode cX4_noteRead 14 = .ok (.getfield 25, 3) := by decide +kernel
theorem dX4_noteRead_17 : decode cX4_noteRead 17 = .ok (.iload_n 1, 1) := by decide +kernel
theorem dX4_noteRead_18 : decode cX4_noteRead 18 = .ok (.invokestatic 41, 3) := by decide +kernel
theorem dX4_noteRead_21 : decode cX4_noteRead 21 = .ok (.aload_n 0, 1) := by decide +kernel
theorem dX4_noteRead_22 : decode cX4_noteRead 22 = .ok (.dup, 1) := by decide +kernel
theorem dX4_noteRead_23 : decode cX4_noteRead 23 = .ok (.getfield 25, 3) := by decide +kernel
theorem dX4_noteRead_26 : decode cX4_noteRead 26 = .ok (.iconst 1, 1) := by decide +kernel
theorem dX4_noteRead_27 : decode cX4_noteRead 27 = .ok (.iadd, 1) := by decide +kernel
theorem dX4_noteRead_28 : decode cX4_noteRead 28 = .ok (.putfield 25, 3) := by decide +kernel
theorem dX4_noteRead_31 : decode cX4_noteRead 31 = .ok (.return_, 1) := by decide +kernel
theorem dX1_openFile_82 : decode cX1_openFile 82 = .ok (.aload_n 0, 1) := by decide +kernel
theorem dX1_openFile_83 : decode cX1_openFile 83 = .ok (.getfield 68, 3) := by decide +kernel
theorem dX1_openFile_86 : decode cX1_openFile 86 = .ok (.iload_n 1, 1) := by decide +kernel
theorem dX1_openFile_87 : decode cX1_openFile 87 = .ok (.aload_n 0, 1) := by decide +kernel
theorem dX1_openFile_88 : decode cX1_openFile 88 = .ok (.getfield 61, 3) := by decide +kernel
theorem dX1_openFile_91 : decode cX1_openFile 91 = .ok (.iload_n 1, 1) := by decide +kernel
theorem dX1_openFile_92 : decode cX1_openFile 92 = .ok (.aaload, 1) := by decide +kernel
theorem dX1_openFile_93 : decode cX1_openFile 93 = .ok (.aload_n 0, 1) := by decide +kernel
theorem dX1_openFile_94 : decode cX1_openFile 94 = .ok (.getfield 65, 3) := by decide +kernel
theorem dX1_openFile_97 : decode cX1_openFile 97 = .ok (.iload_n 1, 1) := by decide +kernel
theorem dX1_openFile_98 : decode cX1_openFile 98 = .ok (.invokestatic 101, 3) := by decide +kernel
theorem dX1_openFile_101 : decode cX1_openFile 101 = .ok (.invokevirtual 128, 3) := by decide +kernel
theorem dX7_openFile_0 : decode cX7_openFile 0 = .ok (.aload_n 0, 1) := by decide +kernel
theorem dX7_openFile_1 : decode cX7_openFile 1 = .ok (.iload_n 1, 1) := by decide +kernel
theorem dX7_openFile_2 : decode cX7_openFile 2 = .ok (.putfield 33, 3) := by decide +kernel
theorem dX7_openFile_5 : decode cX7_openFile 5 = .ok (.aload_n 0, 1) := by decide +kernel
theorem dX7_openFile_6 : decode cX7_openFile 6 = .ok (.aload_n 2, 1) := by decide +kernel
theorem dX7_openFile_7 : decode cX7_openFile 7 = .ok (.putfield 9, 3) := by decide +kernel
theorem dX7_openFile_10 : decode cX7_openFile 10 = .ok (.aload_n 0, 1) := by decide +kernel
theorem dX7_openFile_11 : decode cX7_openFile 11 = .ok (.aload_n 2, 1) := by decide +kernel
theorem dX7_openFile_12 : decode cX7_openFile 12 = .ok (.putfield 42, 3) := by decide +kernel
theorem dX7_openFile_15 : decode cX7_openFile 15 = .ok (.aload_n 0, 1) := by decide +kernel
theorem dX7_openFile_16 : decode cX7_openFile 16 = .ok (.iload_n 3, 1) := by decide +kernel
theorem dX7_openFile_17 : decode cX7_openFile 17 = .ok (.putfield 45, 3) := by decide +kernel
theorem dX7_openFile_20 : decode cX7_openFile 20 = .ok (.aload_n 0, 1) := by decide +kernel
theorem dX7_openFile_21 : decode cX7_openFile 21 = .ok (.iload_n 3, 1) := by decide +kernel
theorem dX7_openFile_22 : decode cX7_openFile 22 = .ok (.putfield 26, 3) := by decide +kernel
theorem dX7_openFile_25 : decode cX7_openFile 25 = .ok (.aload_n 0, 1) := by decide +kernel
theorem dX7_openFile_26 : decode cX7_openFile 26 = .ok (.iconst 0, 1) := by decide +kernel
theorem dX7_openFile_27 : decode cX7_openFile 27 = .ok (.putfield 30, 3) := by decide +kernel
theorem dX7_openFile_30 : decode cX7_openFile 30 = .ok (.aload_n 0, 1) := by decide +kernel
theorem dX7_openFile_31 : decode cX7_openFile 31 = .ok (.iconst 1, 1) := by decide +kernel
theorem dX7_openFile_32 : decode cX7_openFile 32 = .ok (.putfield 15, 3) := by decide +kernel
theorem dX7_openFile_35 : decode cX7_openFile 35 = .ok (.return_, 1) := by decide +kernel
theorem dX1_openFile_104 : decode cX1_openFile 104 = .ok (.aload_n 0, 1) := by decide +kernel
theorem dX1_openFile_105 : decode cX1_openFile 105 = .ok (.getfield 77, 3) := by decide +kernel
theorem dX1_openFile_108 : decode cX1_openFile 108 = .ok (.aload_n 0, 1) := by decide +kernel
theorem dX1_openFile_109 : decode cX1_openFile 109 = .ok (.getfield 57, 3) := by decide +kernel
theorem dX1_openFile_112 : decode cX1_openFile 112 = .ok (.invokevirtual 131, 3) := by decide +kernel
theorem dX10_openFile_0 : decode cX10_openFile 0 = .ok (.aload_n 0, 1) := by decide +kernel
theorem dX10_openFile_1 : decode cX10_openFile 1 = .ok (.aload_n 1, 1) := by decide +kernel
theorem dX10_openFile_2 : decode cX10_openFile 2 = .ok (.putfield 62, 3) := by decide +kernel
theorem dX10_openFile_5 : decode cX10_openFile 5 = .ok (.aload_n 0, 1) := by decide +kernel
theorem dX10_openFile_6 : decode cX10_openFile 6 = .ok (.bipush 60, 2) := by decide +kernel
theorem dX10_openFile_8 : decode cX10_openFile 8 = .ok (.putfield 9, 3) := by decide +kernel
theorem dX10_openFile_11 : decode cX10_openFile 11 = .ok (.aload_n 0, 1) := by decide +kernel
theorem dX10_openFile_12 : decode cX10_openFile 12 = .ok (.bipush 62, 2) := by decide +kernel
theorem dX10_openFile_14 : decode cX10_openFile 14 = .ok (.putfield 15, 3) := by decide +kernel
theorem dX10_openFile_17 : decode cX10_openFile 17 = .ok (.return_, 1) := by decide +kernel
theorem dX1_openFile_115 : decode cX1_openFile 115 = .ok (.aload_n 0, 1) := by decide +kernel
theorem dX1_openFile_116 : decode cX1_openFile 116 = .ok (.aload_n 0, 1) := by decide +kernel
theorem dX1_openFile_117 : decode cX1_openFile 117 = .ok (.getfield 57, 3) := by decide +kernel
theorem dX1_openFile_120 : decode cX1_openFile 120 = .ok (.getfield 134, 3) := by decide +kernel
theorem dX1_openFile_123 : decode cX1_openFile 123 = .ok (.putfield 44, 3) := by decide +kernel
theorem dX1_openFile_126 : decode cX1_openFile 126 = .ok (.aload_n 0, 1) := by decide +kernel
theorem dX1_openFile_127 : decode cX1_openFile 127 = .ok (.invokevirtual 137, 3) := by decide +kernel
theorem dX1_head_0 : decode cX1_head 0 = .ok (.aload_n 0, 1) := by decide +kernel
theorem dX1_head_1 : decode cX1_head 1 = .ok (.getfield 68, 3) := by decide +kernel
theorem dX1_head_4 : decode cX1_head 4 = .ok (.invokevirtual 90, 3) := by decide +kernel
theorem dX7_skip_0 : decode cX7_skip 0 = .ok (.aload_n 0, 1) := by decide +kernel
theorem dX7_skip_1 : decode cX7_skip 1 = .ok (.aload_n 0, 1) := by decide +kernel
theorem dX7_skip_2 : decode cX7_skip 2 = .ok (.getfield 30, 3) := by decide +kernel
theorem dX7_skip_5 : decode cX7_skip 5 = .ok (.invokevirtual 139, 3) := by decide +kernel
theorem dX7_past_0 : decode cX7_past 0 = .ok (.iload_n 1, 1) := by decide +kernel
theorem dX7_past_1 : decode cX7_past 1 = .ok (.istore_n 2, 1) := by decide +kernel
theorem dX7_past_2 : decode cX7_past 2 = .ok (.iconst 0, 1) := by decide +kernel
theorem dX7_past_3 : decode cX7_past 3 = .ok (.istore_n 3, 1) := by decide +kernel
theorem dX7_past_4 : decode cX7_past 4 = .ok (.iload_n 3, 1) := by decide +kernel
theorem dX7_past_5 : decode cX7_past 5 = .ok (.sipush 4000, 3) := by decide +kernel
theorem dX7_past_8 : decode cX7_past 8 = .ok (.if_icmp .gt 236, 3) := by decide +kernel
theorem dX7_past_11 : decode cX7_past 11 = .ok (.iload_n 2, 1) := by decide +kernel
theorem dX7_past_12 : decode cX7_past 12 = .ok (.ifCond .lt 232, 3) := by decide +kernel
theorem dX7_past_15 : decode cX7_past 15 = .ok (.iload_n 2, 1) := by decide +kernel
theorem dX7_past_16 : decode cX7_past 16 = .ok (.aload_n 0, 1) := by decide +kernel
theorem dX7_past_17 : decode cX7_past 17 = .ok (.getfield 26, 3) := by decide +kernel
theorem dX7_past_20 : decode cX7_past 20 = .ok (.if_icmp .ge 224, 3) := by decide +kernel
theorem dX7_past_244 : decode cX7_past 244 = .ok (.aload_n 0, 1) := by decide +kernel
theorem dX7_past_245 : decode cX7_past 245 = .ok (.getfield 26, 3) := by decide +kernel
theorem dX7_past_248 : decode cX7_past 248 = .ok (.ireturn, 1) := by decide +kernel
theorem dX7_skip_8 : decode cX7_skip 8 = .ok (.istore_n 1, 1) := by decide +kernel
theorem dX7_skip_9 : decode cX7_skip 9 = .ok (.iload_n 1, 1) := by decide +kernel
theorem dX7_skip_10 : decode cX7_skip 10 = .ok (.iconst (-1), 1) := by decide +kernel
theorem dX7_skip_11 : decode cX7_skip 11 = .ok (.if_icmp .ne 12, 3) := by decide +kernel
theorem dX7_skip_23 : decode cX7_skip 23 = .ok (.aload_n 0, 1) := by decide +kernel
theorem dX7_skip_24 : decode cX7_skip 24 = .ok (.iload_n 1, 1) := by decide +kernel
theorem dX7_skip_25 : decode cX7_skip 25 = .ok (.putfield 30, 3) := by decide +kernel
theorem dX7_skip_28 : decode cX7_skip 28 = .ok (.return_, 1) := by decide +kernel
theorem dX1_head_7 : decode cX1_head 7 = .ok (.aload_n 0, 1) := by decide +kernel
theorem dX1_head_8 : decode cX1_head 8 = .ok (.getfield 68, 3) := by decide +kernel
theorem dX1_head_11 : decode cX1_head 11 = .ok (.aload_n 0, 1) := by decide +kernel
theorem dX1_head_12 : decode cX1_head 12 = .ok (.getfield 68, 3) := by decide +kernel
theorem dX1_head_15 : decode cX1_head 15 = .ok (.getfield 95, 3) := by decide +kernel
theorem dX1_head_18 : decode cX1_head 18 = .ok (.invokevirtual 140, 3) := by decide +kernel
theorem dX7_rowEnd_0 : decode cX7_rowEnd 0 = .ok (.iload_n 1, 1) := by decide +kernel
theorem dX7_rowEnd_1 : decode cX7_rowEnd 1 = .ok (.istore_n 2, 1) := by decide +kernel
theorem dX7_rowEnd_2 : decode cX7_rowEnd 2 = .ok (.iconst 1, 1) := by decide +kernel
theorem dX7_rowEnd_3 : decode cX7_rowEnd 3 = .ok (.istore_n 3, 1) := by decide +kernel
theorem dX7_rowEnd_4 : decode cX7_rowEnd 4 = .ok (.iload_n 3, 1) := by decide +kernel
theorem dX7_rowEnd_5 : decode cX7_rowEnd 5 = .ok (.ifCond .eq 102, 3) := by decide +kernel
theorem dX7_rowEnd_8 : decode cX7_rowEnd 8 = .ok (.iload_n 2, 1) := by decide +kernel
theorem dX7_rowEnd_9 : decode cX7_rowEnd 9 = .ok (.ifCond .lt 98, 3) := by decide +kernel
theorem dX7_rowEnd_12 : decode cX7_rowEnd 12 = .ok (.iload_n 2, 1) := by decide +kernel
theorem dX7_rowEnd_13 : decode cX7_rowEnd 13 = .ok (.aload_n 0, 1) := by decide +kernel
theorem dX7_rowEnd_14 : decode cX7_rowEnd 14 = .ok (.getfield 26, 3) := by decide +kernel
theorem dX7_rowEnd_17 : decode cX7_rowEnd 17 = .ok (.if_icmp .ge 90, 3) := by decide +kernel
theorem dX7_rowEnd_107 : decode cX7_rowEnd 107 = .ok (.iload_n 2, 1) := by decide +kernel
theorem dX7_rowEnd_108 : decode cX7_rowEnd 108 = .ok (.ireturn, 1) := by decide +kernel
theorem dX1_head_21 : decode cX1_head 21 = .ok (.istore_n 1, 1) := by decide +kernel
theorem dX1_head_22 : decode cX1_head 22 = .ok (.aload_n 0, 1) := by decide +kernel
theorem dX1_head_23 : decode cX1_head 23 = .ok (.getfield 68, 3) := by decide +kernel
theorem dX1_head_26 : decode cX1_head 26 = .ok (.iload_n 1, 1) := by decide +kernel
theorem dX1_head_27 : decode cX1_head 27 = .ok (.ldc 144, 2) := by decide +kernel
theorem dX1_head_29 : decode cX1_head 29 = .ok (.invokevirtual 146, 3) := by decide +kernel
theorem dX7_isHere_0 : decode cX7_isHere 0 = .ok (.aload_n 0, 1) := by decide +kernel
theorem dX7_isHere_1 : decode cX7_isHere 1 = .ok (.getfield 9, 3) := by decide +kernel
theorem dX7_isHere_4 : decode cX7_isHere 4 = .ok (.aload_n 0, 1) := by decide +kernel
theorem dX7_isHere_5 : decode cX7_isHere 5 = .ok (.getfield 30, 3) := by decide +kernel
theorem dX7_isHere_8 : decode cX7_isHere 8 = .ok (.iload_n 1, 1) := by decide +kernel
theorem dX7_isHere_9 : decode cX7_isHere 9 = .ok (.aload_n 0, 1) := by decide +kernel
theorem dX7_isHere_10 : decode cX7_isHere 10 = .ok (.getfield 30, 3) := by decide +kernel
theorem dX7_isHere_13 : decode cX7_isHere 13 = .ok (.isub, 1) := by decide +kernel
theorem dX7_isHere_14 : decode cX7_isHere 14 = .ok (.aload_n 2, 1) := by decide +kernel
theorem dX7_isHere_15 : decode cX7_isHere 15 = .ok (.invokestatic 90, 3) := by decide +kernel
theorem dX12_isText_0 : decode cX12_isText 0 = .ok (.iload_n 2, 1) := by decide +kernel
theorem dX12_isText_1 : decode cX12_isText 1 = .ok (.aload_n 3, 1) := by decide +kernel
theorem dX12_isText_2 : decode cX12_isText 2 = .ok (.invokevirtual 257, 3) := by decide +kernel
theorem dX12_isText_5 : decode cX12_isText 5 = .ok (.if_icmp .ne 15, 3) := by decide +kernel
theorem dX12_isText_20 : decode cX12_isText 20 = .ok (.iconst 0, 1) := by decide +kernel
theorem dX12_isText_21 : decode cX12_isText 21 = .ok (.ireturn, 1) := by decide +kernel
theorem dX7_isHere_18 : decode cX7_isHere 18 = .ok (.ireturn, 1) := by decide +kernel
theorem dX1_head_32 : decode cX1_head 32 = .ok (.ifCond .eq 64, 3) := by decide +kernel
theorem dX1_head_96 : decode cX1_head 96 = .ok (.iconst 0, 1) := by decide +kernel
theorem dX1_head_97 : decode cX1_head 97 = .ok (.istore_n 2, 1) := by decide +kernel
theorem dX1_head_98 : decode cX1_head 98 = .ok (.iload_n 2, 1) := by decide +kernel
theorem dX1_head_99 : decode cX1_head 99 = .ok (.sipush 4000, 3) := by decide +kernel
theorem dX1_head_102 : decode cX1_head 102 = .ok (.if_icmp .ge 160, 3) := by decide +kernel
theorem dX1_head_105 : decode cX1_head 105 = .ok (.aload_n 0, 1) := by decide +kernel
theorem dX1_head_106 : decode cX1_head 106 = .ok (.getfield 68, 3) := by decide +kernel
theorem dX1_head_109 : decode cX1_head 109 = .ok (.iload_n 1, 1) := by decide +kernel
theorem dX1_head_110 : decode cX1_head 110 = .ok (.ldc 163, 2) := by decide +kernel
theorem dX1_head_112 : decode cX1_head 112 = .ok (.invokevirtual 146, 3) := by decide +kernel
theorem dX1_head_115 : decode cX1_head 115 = .ok (.ifCond .eq 147, 3) := by decide +kernel
theorem dX1_head_262 : decode cX1_head 262 = .ok (.return_, 1) := by decide +kernel
theorem dX1_openFile_130 : decode cX1_openFile 130 = .ok (.return_, 1) := by decide +kernel
theorem dX1_openAll_32 : decode cX1_openAll 32 = .ok (.return_, 1) := by decide +kernel
theorem dX12_isRead_12 : decode cX12_isRead 12 = .ok (.iconst 0, 1) := by decide +kernel
theorem dX12_isRead_13 : decode cX12_isRead 13 = .ok (.istore_n 2, 1) := by decide +kernel
theorem dX12_isRead_14 : decode cX12_isRead 14 = .ok (.iload_n 2, 1) := by decide +kernel
theorem dX12_isRead_15 : decode cX12_isRead 15 = .ok (.ldc 133, 2) := by decide +kernel
theorem dX12_isRead_17 : decode cX12_isRead 17 = .ok (.if_icmp .ge 47, 3) := by decide +kernel
theorem dX12_isRead_20 : decode cX12_isRead 20 = .ok (.aload_n 0, 1) := by decide +kernel
theorem dX12_isRead_21 : decode cX12_isRead 21 = .ok (.getfield 79, 3) := by decide +kernel
theorem dX12_isRead_24 : decode cX12_isRead 24 = .ok (.invokevirtual 134, 3) := by decide +kernel
theorem dX1_isMore_0 : decode cX1_isMore 0 = .ok (.aload_n 0, 1) := by decide +kernel
theorem dX1_isMore_1 : decode cX1_isMore 1 = .ok (.getfield 68, 3) := by decide +kernel
theorem dX1_isMore_4 : decode cX1_isMore 4 = .ok (.invokevirtual 90, 3) := by decide +kernel
theorem dX1_isMore_7 : decode cX1_isMore 7 = .ok (.iconst 0, 1) := by decide +kernel
theorem dX1_isMore_8 : decode cX1_isMore 8 = .ok (.istore_n 1, 1) := by decide +kernel
theorem dX1_isMore_9 : decode cX1_isMore 9 = .ok (.iload_n 1, 1) := by decide +kernel
theorem dX1_isMore_10 : decode cX1_isMore 10 = .ok (.sipush 1000, 3) := by decide +kernel
theorem dX1_isMore_13 : decode cX1_isMore 13 = .ok (.if_icmp .ge 131, 3) := by decide +kernel
theorem dX1_isMore_16 : decode cX1_isMore 16 = .ok (.aload_n 0, 1) := by decide +kernel
theorem dX1_isMore_17 : decode cX1_isMore 17 = .ok (.getfield 41, 3) := by decide +kernel
theorem dX1_isMore_20 : decode cX1_isMore 20 = .ok (.ifCond .le 124, 3) := by decide +kernel
theorem dX1_isMore_23 : decode cX1_isMore 23 = .ok (.aload_n 0, 1) := by decide +kernel
theorem dX1_isMore_24 : decode cX1_isMore 24 = .ok (.getfield 68, 3) := by decide +kernel
theorem dX1_isMore_27 : decode cX1_isMore 27 = .ok (.getfield 95, 3) := by decide +kernel
theorem dX1_isMore_30 : decode cX1_isMore 30 = .ok (.aload_n 0, 1) := by decide +kernel
theorem dX1_isMore_31 : decode cX1_isMore 31 = .ok (.getfield 68, 3) := by decide +kernel
theorem dX1_isMore_34 : decode cX1_isMore 34 = .ok (.getfield 98, 3) := by decide +kernel
theorem dX1_isMore_37 : decode cX1_isMore 37 = .ok (.if_icmp .lt 107, 3) := by decide +kernel
theorem dX1_isMore_40 : decode cX1_isMore 40 = .ok (.aload_n 0, 1) := by decide +kernel
theorem dX1_isMore_41 : decode cX1_isMore 41 = .ok (.getfield 35, 3) := by decide +kernel
theorem dX1_isMore_44 : decode cX1_isMore 44 = .ok (.aload_n 0, 1) := by decide +kernel
theorem dX1_isMore_45 : decode cX1_isMore 45 = .ok (.getfield 41, 3) := by decide +kernel
theorem dX1_isMore_48 : decode cX1_isMore 48 = .ok (.iconst 1, 1) := by decide +kernel
theorem dX1_isMore_49 : decode cX1_isMore 49 = .ok (.isub, 1) := by decide +kernel
theorem dX1_isMore_50 : decode cX1_isMore 50 = .ok (.invokestatic 101, 3) := by decide +kernel
theorem dX1_isMore_53 : decode cX1_isMore 53 = .ok (.istore_n 2, 1) := by decide +kernel
theorem dX1_isMore_54 : decode cX1_isMore 54 = .ok (.aload_n 0, 1) := by decide +kernel
theorem dX1_isMore_55 : decode cX1_isMore 55 = .ok (.getfield 38, 3) := by decide +kernel
theorem dX1_isMore_58 : decode cX1_isMore 58 = .ok (.aload_n 0, 1) := by decide +kernel
theorem dX1_isMore_59 : decode cX1_isMore 59 = .ok (.getfield 41, 3) := by decide +kernel
theorem dX1_isMore_62 : decode cX1_isMore 62 = .ok (.iconst 1, 1) := by decide +kernel
theorem dX1_isMore_63 : decode cX1_isMore 63 = .ok (.isub, 1) := by decide +kernel
theorem dX1_isMore_64 : decode cX1_isMore 64 = .ok (.invokestatic 101, 3) := by decide +kernel
theorem dX1_isMore_67 : decode cX1_isMore 67 = .ok (.istore_n 3, 1) := by decide +kernel
theorem dX1_isMore_68 : decode cX1_isMore 68 = .ok (.iload_n 3, 1) := by decide +kernel
theorem dX1_isMore_69 : decode cX1_isMore 69 = .ok (.aload_n 0, 1) := by decide +kernel
theorem dX1_isMore_70 : decode cX1_isMore 70 = .ok (.getfield 57, 3) := by decide +kernel
theorem dX1_isMore_73 : decode cX1_isMore 73 = .ok (.getfield 105, 3) := by decide +kernel
theorem dX1_isMore_76 : decode cX1_isMore 76 = .ok (.getfield 109, 3) := by decide +kernel
theorem dX1_isMore_79 : decode cX1_isMore 79 = .ok (.iload_n 2, 1) := by decide +kernel
theorem dX1_isMore_80 : decode cX1_isMore 80 = .ok (.invokestatic 101, 3) := by decide +kernel
theorem dX1_isMore_83 : decode cX1_isMore 83 = .ok (.if_icmp .lt 16, 3) := by decide +kernel
theorem dX1_isMore_86 : decode cX1_isMore 86 = .ok (.aload_n 0, 1) := by decide +kernel
theorem dX1_isMore_87 : decode cX1_isMore 87 = .ok (.dup, 1) := by decide +kernel
theorem dX1_isMore_88 : decode cX1_isMore 88 = .ok (.getfield 41, 3) := by decide +kernel
theorem dX1_isMore_91 : decode cX1_isMore 91 = .ok (.iconst 1, 1) := by decide +kernel
theorem dX1_isMore_92 : decode cX1_isMore 92 = .ok (.isub, 1) := by decide +kernel
theorem dX1_isMore_93 : decode cX1_isMore 93 = .ok (.putfield 41, 3) := by decide +kernel
theorem dX1_isMore_96 : decode cX1_isMore 96 = .ok (.goto 42, 3) := by decide +kernel
theorem dX1_isMore_138 : decode cX1_isMore 138 = .ok (.iinc 1 1, 3) := by decide +kernel
theorem dX1_isMore_141 : decode cX1_isMore 141 = .ok (.goto (-132), 3) := by decide +kernel
theorem dX1_isMore_144 : decode cX1_isMore 144 = .ok (.aload_n 0, 1) := by decide +kernel
theorem dX1_isMore_145 : decode cX1_isMore 145 = .ok (.getfield 68, 3) := by decide +kernel
theorem dX1_isMore_148 : decode cX1_isMore 148 = .ok (.getfield 95, 3) := by decide +kernel
theorem dX1_isMore_151 : decode cX1_isMore 151 = .ok (.aload_n 0, 1) := by decide +kernel
theorem dX1_isMore_152 : decode cX1_isMore 152 = .ok (.getfield 68, 3) := by decide +kernel
theorem dX1_isMore_155 : decode cX1_isMore 155 = .ok (.getfield 98, 3) := by decide +kernel
theorem dX1_isMore_158 : decode cX1_isMore 158 = .ok (.if_icmp .ge 7, 3) := by decide +kernel
theorem dX1_isMore_165 : decode cX1_isMore 165 = .ok (.iconst 0, 1) := by decide +kernel
theorem dX1_isMore_166 : decode cX1_isMore 166 = .ok (.ireturn, 1) := by decide +kernel
theorem dX12_isRead_27 : decode cX12_isRead 27 = .ok (.ifCond .eq 37, 3) := by decide +kernel
theorem dX12_isRead_64 : decode cX12_isRead 64 = .ok (.aload_n 0, 1) := by decide +kernel
theorem dX12_isRead_65 : decode cX12_isRead 65 = .ok (.getfield 88, 3) := by decide +kernel
theorem dX12_isRead_68 : decode cX12_isRead 68 = .ok (.aload_n 0, 1) := by decide +kernel
theorem dX12_isRead_69 : decode cX12_isRead 69 = .ok (.getfield 71, 3) := by decide +kernel
theorem dX12_isRead_72 : decode cX12_isRead 72 = .ok (.invokevirtual 150, 3) := by decide +kernel
theorem dX0_checkAll_0 : decode cX0_checkAll 0 = .ok (.aload_n 0, 1) := by decide +kernel
theorem dX0_checkAll_1 : decode cX0_checkAll 1 = .ok (.aload_n 1, 1) := by decide +kernel
theorem dX0_checkAll_2 : decode cX0_checkAll 2 = .ok (.putfield 25, 3) := by decide +kernel
theorem dX0_checkAll_5 : decode cX0_checkAll 5 = .ok (.aload_n 0, 1) := by decide +kernel
theorem dX0_checkAll_6 : decode cX0_checkAll 6 = .ok (.getfield 25, 3) := by decide +kernel
theorem dX0_checkAll_9 : decode cX0_checkAll 9 = .ok (.getfield 29, 3) := by decide +kernel
theorem dX0_checkAll_12 : decode cX0_checkAll 12 = .ok (.invokevirtual 35, 3) := by decide +kernel
theorem dX4_layWays_0 : decode cX4_layWays 0 = .ok (.iconst 0, 1) := by decide +kernel
theorem dX4_layWays_1 : decode cX4_layWays 1 = .ok (.istore_n 1, 1) := by decide +kernel
theorem dX4_layWays_2 : decode cX4_layWays 2 = .ok (.iload_n 1, 1) := by decide +kernel
theorem dX4_layWays_3 : decode cX4_layWays 3 = .ok (.aload_n 0, 1) := by decide +kernel
theorem dX4_layWays_4 : decode cX4_layWays 4 = .ok (.getfield 25, 3) := by decide +kernel
theorem dX4_layWays_7 : decode cX4_layWays 7 = .ok (.if_icmp .ge 33, 3) := by decide +kernel
theorem dX4_layWays_10 : decode cX4_layWays 10 = .ok (.aload_n 0, 1) := by decide +kernel
theorem dX4_layWays_11 : decode cX4_layWays 11 = .ok (.getfield 22, 3) := by decide +kernel
theorem dX4_layWays_14 : decode cX4_layWays 14 = .ok (.iload_n 1, 1) := by decide +kernel
theorem dX4_layWays_15 : decode cX4_layWays 15 = .ok (.invokestatic 35, 3) := by decide +kernel
theorem dX4_layWays_18 : decode cX4_layWays 18 = .ok (.istore_n 2, 1) := by decide +kernel
theorem dX4_layWays_19 : decode cX4_layWays 19 = .ok (.aload_n 0, 1) := by decide +kernel
theorem dX4_layWays_20 : decode cX4_layWays 20 = .ok (.aload_n 0, 1) := by decide +kernel
theorem dX4_layWays_21 : decode cX4_layWays 21 = .ok (.getfield 16, 3) := by decide +kernel
theorem dX4_layWays_24 : decode cX4_layWays 24 = .ok (.aload_n 0, 1) := by decide +kernel
theorem dX4_layWays_25 : decode cX4_layWays 25 = .ok (.getfield 19, 3) := by decide +kernel
theorem dX4_layWays_28 : decode cX4_layWays 28 = .ok (.iload_n 2, 1) := by decide +kernel
theorem dX4_layWays_29 : decode cX4_layWays 29 = .ok (.iload_n 2, 1) := by decide +kernel
theorem dX4_layWays_30 : decode cX4_layWays 30 = .ok (.iconst 0, 1) := by decide +kernel
theorem dX4_layWays_31 : decode cX4_layWays 31 = .ok (.invokevirtual 45, 3) := by decide +kernel
theorem dX4_extend_0 : decode cX4_extend 0 = .ok (.aload_n 2, 1) := by decide +kernel
theorem dX4_extend_1 : decode cX4_extend 1 = .ok (.iload_n 3, 1) := by decide +kernel
theorem dX4_extend_2 : decode cX4_extend 2 = .ok (.invokestatic 35, 3) := by decide +kernel
theorem dX4_extend_5 : decode cX4_extend 5 = .ok (.istore 6, 2) := by decide +kernel
theorem dX4_extend_7 : decode cX4_extend 7 = .ok (.iconst 0, 1) := by decide +kernel
theorem dX4_extend_8 : decode cX4_extend 8 = .ok (.istore 7, 2) := by decide +kernel
theorem dX4_extend_10 : decode cX4_extend 10 = .ok (.iload 7, 2) := by decide +kernel
theorem dX4_extend_12 : decode cX4_extend 12 = .ok (.iload 6, 2) := by decide +kernel
theorem dX4_extend_14 : decode cX4_extend 14 = .ok (.if_icmp .ge 26, 3) := by decide +kernel
theorem dX4_extend_40 : decode cX4_extend 40 = .ok (.iload 5, 2) := by decide +kernel
theorem dX4_extend_42 : decode cX4_extend 42 = .ok (.bipush 8, 2) := by decide +kernel
theorem dX4_extend_44 : decode cX4_extend 44 = .ok (.if_icmp .gt 10, 3) := by decide +kernel
theorem dX4_extend_47 : decode cX4_extend 47 = .ok (.iload 6, 2) := by decide +kernel
theorem dX4_extend_49 : decode cX4_extend 49 = .ok (.bipush 8, 2) := by decide +kernel
theorem dX4_extend_51 : decode cX4_extend 51 = .ok (.if_icmp .lt 4, 3) := by decide +kernel
theorem dX4_extend_55 : decode cX4_extend 55 = .ok (.aload_n 1, 1) := by decide +kernel
theorem dX4_extend_56 : decode cX4_extend 56 = .ok (.bipush 8, 2) := by decide +kernel
theorem dX4_extend_58 : decode cX4_extend 58 = .ok (.iload_n 3, 1) := by decide +kernel
theorem dX4_extend_59 : decode cX4_extend 59 = .ok (.imul, 1) := by decide +kernel
theorem dX4_extend_60 : decode cX4_extend 60 = .ok (.iload 6, 2) := by decide +kernel
theorem dX4_extend_62 : decode cX4_extend 62 = .ok (.iadd, 1) := by decide +kernel
theorem dX4_extend_63 : decode cX4_extend 63 = .ok (.iload 4, 2) := by decide +kernel
theorem dX4_extend_65 : decode cX4_extend 65 = .ok (.invokestatic 41, 3) := by decide +kernel
theorem dX4_extend_68 : decode cX4_extend 68 = .ok (.aload_n 2, 1) := by decide +kernel
theorem dX4_extend_69 : decode cX4_extend 69 = .ok (.iload_n 3, 1) := by decide +kernel
theorem dX4_extend_70 : decode cX4_extend 70 = .ok (.iload 6, 2) := by decide +kernel
theorem dX4_extend_72 : decode cX4_extend 72 = .ok (.iconst 1, 1) := by decide +kernel
theorem dX4_extend_73 : decode cX4_extend 73 = .ok (.iadd, 1) := by decide +kernel
theorem dX4_extend_74 : decode cX4_extend 74 = .ok (.invokestatic 41, 3) := by decide +kernel
theorem dX4_extend_77 : decode cX4_extend 77 = .ok (.iconst 0, 1) := by decide +kernel
theorem dX4_extend_78 : decode cX4_extend 78 = .ok (.istore 7, 2) := by decide +kernel
theorem dX4_extend_80 : decode cX4_extend 80 = .ok (.iload 7, 2) := by decide +kernel
theorem dX4_extend_82 : decode cX4_extend 82 = .ok (.aload_n 0, 1) := by decide +kernel
theorem dX4_extend_83 : decode cX4_extend 83 = .ok (.getfield 13, 3) := by decide +kernel
theorem dX4_extend_86 : decode cX4_extend 86 = .ok (.iload 4, 2) := by decide +kernel
theorem dX4_extend_88 : decode cX4_extend 88 = .ok (.invokestatic 35, 3) := by decide +kernel
theorem dX4_extend_91 : decode cX4_extend 91 = .ok (.if_icmp .ge 35, 3) := by decide +kernel
theorem dX4_extend_126 : decode cX4_extend 126 = .ok (.return_, 1) := by decide +kernel
theorem dX4_layWays_34 : decode cX4_layWays 34 = .ok (.iinc 1 1, 3) := by decide +kernel
theorem dX4_layWays_37 : decode cX4_layWays 37 = .ok (.goto (-35), 3) := by decide +kernel
theorem dX4_layWays_40 : decode cX4_layWays 40 = .ok (.return_, 1) := by decide +kernel
theorem dX0_checkAll_15 : decode cX0_checkAll 15 = .ok (.aload_n 0, 1) := by decide +kernel
theorem dX0_checkAll_16 : decode cX0_checkAll 16 = .ok (.invokevirtual 40, 3) := by decide +kernel
theorem dX0_nameAll_0 : decode cX0_nameAll 0 = .ok (.iconst 0, 1) := by decide +kernel
theorem dX0_nameAll_1 : decode cX0_nameAll 1 = .ok (.istore_n 1, 1) := by decide +kernel
theorem dX0_nameAll_2 : decode cX0_nameAll 2 = .ok (.iload_n 1, 1) := by decide +kernel
theorem dX0_nameAll_3 : decode cX0_nameAll 3 = .ok (.aload_n 0, 1) := by decide +kernel
theorem dX0_nameAll_4 : decode cX0_nameAll 4 = .ok (.getfield 25, 3) := by decide +kernel
theorem dX0_nameAll_7 : decode cX0_nameAll 7 = .ok (.getfield 79, 3) := by decide +kernel
theorem dX0_nameAll_10 : decode cX0_nameAll 10 = .ok (.getfield 83, 3) := by decide +kernel
theorem dX0_nameAll_13 : decode cX0_nameAll 13 = .ok (.if_icmp .ge 33, 3) := by decide +kernel
theorem dX0_nameAll_16 : decode cX0_nameAll 16 = .ok (.aload_n 0, 1) := by decide +kernel
theorem dX0_nameAll_17 : decode cX0_nameAll 17 = .ok (.getfield 25, 3) := by decide +kernel
theorem dX0_nameAll_20 : decode cX0_nameAll 20 = .ok (.getfield 88, 3) := by decide +kernel
theorem dX0_nameAll_23 : decode cX0_nameAll 23 = .ok (.iload_n 1, 1) := by decide +kernel
theorem dX0_nameAll_24 : decode cX0_nameAll 24 = .ok (.iconst (-1), 1) := by decide +kernel
theorem dX0_nameAll_25 : decode cX0_nameAll 25 = .ok (.invokestatic 91, 3) := by decide +kernel
theorem dX0_nameAll_28 : decode cX0_nameAll 28 = .ok (.aload_n 0, 1) := by decide +kernel
theorem dX0_nameAll_29 : decode cX0_nameAll 29 = .ok (.getfield 25, 3) := by decide +kernel
theorem dX0_nameAll_32 : decode cX0_nameAll 32 = .ok (.getfield 95, 3) := by decide +kernel
theorem dX0_nameAll_35 : decode cX0_nameAll 35 = .ok (.iload_n 1, 1) := by decide +kernel
theorem dX0_nameAll_36 : decode cX0_nameAll 36 = .ok (.iconst (-1), 1) := by decide +kernel
theorem dX0_nameAll_37 : decode cX0_nameAll 37 = .ok (.invokestatic 91, 3) := by decide +kernel
theorem dX0_nameAll_40 : decode cX0_nameAll 40 = .ok (.iinc 1 1, 3) := by decide +kernel
theorem dX0_nameAll_43 : decode cX0_nameAll 43 = .ok (.goto (-41), 3) := by decide +kernel
theorem dX0_nameAll_46 : decode cX0_nameAll 46 = .ok (.aload_n 0, 1) := by decide +kernel
theorem dX0_nameAll_47 : decode cX0_nameAll 47 = .ok (.getfield 25, 3) := by decide +kernel
theorem dX0_nameAll_50 : decode cX0_nameAll 50 = .ok (.iconst 0, 1) := by decide +kernel
theorem dX0_nameAll_51 : decode cX0_nameAll 51 = .ok (.putfield 98, 3) := by decide +kernel
theorem dX0_nameAll_54 : decode cX0_nameAll 54 = .ok (.aload_n 0, 1) := by decide +kernel
theorem dX0_nameAll_55 : decode cX0_nameAll 55 = .ok (.getfield 25, 3) := by decide +kernel
theorem dX0_nameAll_58 : decode cX0_nameAll 58 = .ok (.getfield 29, 3) := by decide +kernel
theorem dX0_nameAll_61 : decode cX0_nameAll 61 = .ok (.getfield 46, 3) := by decide +kernel
theorem dX0_nameAll_64 : decode cX0_nameAll 64 = .ok (.iconst 0, 1) := by decide +kernel
theorem dX0_nameAll_65 : decode cX0_nameAll 65 = .ok (.invokestatic 50, 3) := by decide +kernel
theorem dX0_nameAll_68 : decode cX0_nameAll 68 = .ok (.istore_n 1, 1) := by decide +kernel
theorem dX0_nameAll_69 : decode cX0_nameAll 69 = .ok (.iconst 0, 1) := by decide +kernel
theorem dX0_nameAll_70 : decode cX0_nameAll 70 = .ok (.istore_n 2, 1) := by decide +kernel
theorem dX0_nameAll_71 : decode cX0_nameAll 71 = .ok (.iload_n 2, 1) := by decide +kernel
theorem dX0_nameAll_72 : decode cX0_nameAll 72 = .ok (.aload_n 0, 1) := by decide +kernel
theorem dX0_nameAll_73 : decode cX0_nameAll 73 = .ok (.getfield 25, 3) := by decide +kernel
theorem dX0_nameAll_76 : decode cX0_nameAll 76 = .ok (.getfield 29, 3) := by decide +kernel
theorem dX0_nameAll_79 : decode cX0_nameAll 79 = .ok (.iload_n 1, 1) := by decide +kernel
theorem dX0_nameAll_80 : decode cX0_nameAll 80 = .ok (.invokevirtual 101, 3) := by decide +kernel
theorem dX4_wayLength_0 : decode cX4_wayLength 0 = .ok (.aload_n 0, 1) := by decide +kernel
theorem dX4_wayLength_1 : decode cX4_wayLength 1 = .ok (.getfield 19, 3) := by decide +kernel
theorem dX4_wayLength_4 : decode cX4_wayLength 4 = .ok (.iload_n 1, 1) := by decide +kernel
theorem dX4_wayLength_5 : decode cX4_wayLength 5 = .ok (.invokestatic 35, 3) := by decide +kernel
theorem dX4_wayLength_8 : decode cX4_wayLength 8 = .ok (.ireturn, 1) := by decide +kernel
theorem dX0_nameAll_83 : decode cX0_nameAll 83 = .ok (.if_icmp .ge 25, 3) := by decide +kernel
theorem dX0_nameAll_86 : decode cX0_nameAll 86 = .ok (.aload_n 0, 1) := by decide +kernel
theorem dX0_nameAll_87 : decode cX0_nameAll 87 = .ok (.aload_n 0, 1) := by decide +kernel
theorem dX0_nameAll_88 : decode cX0_nameAll 88 = .ok (.getfield 25, 3) := by decide +kernel
theorem dX0_nameAll_91 : decode cX0_nameAll 91 = .ok (.getfield 29, 3) := by decide +kernel
theorem dX0_nameAll_94 : decode cX0_nameAll 94 = .ok (.iload_n 1, 1) := by decide +kernel
theorem dX0_nameAll_95 : decode cX0_nameAll 95 = .ok (.iload_n 2, 1) := by decide +kernel
theorem dX0_nameAll_96 : decode cX0_nameAll 96 = .ok (.invokevirtual 105, 3) := by decide +kernel
theorem dX4_way_0 : decode cX4_way 0 = .ok (.aload_n 0, 1) := by decide +kernel
theorem dX4_way_1 : decode cX4_way 1 = .ok (.getfield 16, 3) := by decide +kernel
theorem dX4_way_4 : decode cX4_way 4 = .ok (.bipush 8, 2) := by decide +kernel
theorem dX4_way_6 : decode cX4_way 6 = .ok (.iload_n 1, 1) := by decide +kernel
theorem dX4_way_7 : decode cX4_way 7 = .ok (.imul, 1) := by decide +kernel
theorem dX4_way_8 : decode cX4_way 8 = .ok (.iload_n 2, 1) := by decide +kernel
theorem dX4_way_9 : decode cX4_way 9 = .ok (.iadd, 1) := by decide +kernel
theorem dX4_way_10 : decode cX4_way 10 = .ok (.invokestatic 35, 3) := by decide +kernel
theorem dX4_way_13 : decode cX4_way 13 = .ok (.ireturn, 1) := by decide +kernel
theorem dX0_nameAll_99 : decode cX0_nameAll 99 = .ok (.invokevirtual 109, 3) := by decide +kernel
theorem dX0_nameFile_0 : decode cX0_nameFile 0 = .ok (.iconst 0, 1) := by decide +kernel
theorem dX0_nameFile_1 : decode cX0_nameFile 1 = .ok (.istore_n 2, 1) := by decide +kernel
theorem dX0_nameFile_2 : decode cX0_nameFile 2 = .ok (.iload_n 2, 1) := by decide +kernel
theorem dX0_nameFile_3 : decode cX0_nameFile 3 = .ok (.aload_n 0, 1) := by decide +kernel
theorem dX0_nameFile_4 : decode cX0_nameFile 4 = .ok (.getfield 25, 3) := by decide +kernel
theorem dX0_nameFile_7 : decode cX0_nameFile 7 = .ok (.getfield 113, 3) := by decide +kernel
theorem dX0_nameFile_10 : decode cX0_nameFile 10 = .ok (.if_icmp .ge 166, 3) := by decide +kernel
theorem dX0_nameFile_176 : decode cX0_nameFile 176 = .ok (.return_, 1) := by decide +kernel
theorem dX0_nameAll_102 : decode cX0_nameAll 102 = .ok (.iinc 2 1, 3) := by decide +kernel
theorem dX0_nameAll_105 : decode cX0_nameAll 105 = .ok (.goto (-34), 3) := by decide +kernel
theorem dX0_nameAll_108 : decode cX0_nameAll 108 = .ok (.return_, 1) := by decide +kernel
theorem dX0_checkAll_19 : decode cX0_checkAll 19 = .ok (.iconst 0, 1) := by decide +kernel
theorem dX0_checkAll_20 : decode cX0_checkAll 20 = .ok (.istore_n 2, 1) := by decide +kernel
theorem dX0_checkAll_21 : decode cX0_checkAll 21 = .ok (.iload_n 2, 1) := by decide +kernel
theorem dX0_checkAll_22 : decode cX0_checkAll 22 = .ok (.aload_n 0, 1) := by decide +kernel
theorem dX0_checkAll_23 : decode cX0_checkAll 23 = .ok (.getfield 25, 3) := by decide +kernel
theorem dX0_checkAll_26 : decode cX0_checkAll 26 = .ok (.getfield 29, 3) := by decide +kernel
theorem dX0_checkAll_29 : decode cX0_checkAll 29 = .ok (.getfield 43, 3) := by decide +kernel
theorem dX0_checkAll_32 : decode cX0_checkAll 32 = .ok (.if_icmp .ge 115, 3) := by decide +kernel
theorem dX0_checkAll_35 : decode cX0_checkAll 35 = .ok (.aload_n 0, 1) := by decide +kernel
theorem dX0_checkAll_36 : decode cX0_checkAll 36 = .ok (.aload_n 0, 1) := by decide +kernel
theorem dX0_checkAll_37 : decode cX0_checkAll 37 = .ok (.getfield 25, 3) := by decide +kernel
theorem dX0_checkAll_40 : decode cX0_checkAll 40 = .ok (.getfield 29, 3) := by decide +kernel
theorem dX0_checkAll_43 : decode cX0_checkAll 43 = .ok (.getfield 46, 3) := by decide +kernel
theorem dX0_checkAll_46 : decode cX0_checkAll 46 = .ok (.iload_n 2, 1) := by decide +kernel
theorem dX0_checkAll_47 : decode cX0_checkAll 47 = .ok (.invokestatic 50, 3) := by decide +kernel
theorem dX0_checkAll_50 : decode cX0_checkAll 50 = .ok (.putfield 9, 3) := by decide +kernel
theorem dX0_checkAll_53 : decode cX0_checkAll 53 = .ok (.aload_n 0, 1) := by decide +kernel
theorem dX0_checkAll_54 : decode cX0_checkAll 54 = .ok (.iconst 0, 1) := by decide +kernel
theorem dX0_checkAll_55 : decode cX0_checkAll 55 = .ok (.putfield 15, 3) := by decide +kernel
theorem dX0_checkAll_58 : decode cX0_checkAll 58 = .ok (.aload_n 0, 1) := by decide +kernel
theorem dX0_checkAll_59 : decode cX0_checkAll 59 = .ok (.invokevirtual 54, 3) := by decide +kernel
theorem dX0_checkDefs_0 : decode cX0_checkDefs 0 = .ok (.iconst 0, 1) := by decide +kernel
theorem dX0_checkDefs_1 : decode cX0_checkDefs 1 = .ok (.istore_n 1, 1) := by decide +kernel
theorem dX0_checkDefs_2 : decode cX0_checkDefs 2 = .ok (.iload_n 1, 1) := by decide +kernel
theorem dX0_checkDefs_3 : decode cX0_checkDefs 3 = .ok (.aload_n 0, 1) := by decide +kernel
theorem dX0_checkDefs_4 : decode cX0_checkDefs 4 = .ok (.getfield 25, 3) := by decide +kernel
theorem dX0_checkDefs_7 : decode cX0_checkDefs 7 = .ok (.getfield 113, 3) := by decide +kernel
theorem dX0_checkDefs_10 : decode cX0_checkDefs 10 = .ok (.if_icmp .ge 196, 3) := by decide +kernel
theorem dX0_checkDefs_206 : decode cX0_checkDefs 206 = .ok (.return_, 1) := by decide +kernel
theorem dX0_checkAll_62 : decode cX0_checkAll 62 = .ok (.aload_n 0, 1) := by decide +kernel
theorem dX0_checkAll_63 : decode cX0_checkAll 63 = .ok (.invokevirtual 57, 3) := by decide +kernel
theorem dX0_checkCalls_0 : decode cX0_checkCalls 0 = .ok (.iconst 0, 1) := by decide +kernel
theorem dX0_checkCalls_1 : decode cX0_checkCalls 1 = .ok (.istore_n 1, 1) := by decide +kernel
theorem dX0_checkCalls_2 : decode cX0_checkCalls 2 = .ok (.iload_n 1, 1) := by decide +kernel
theorem dX0_checkCalls_3 : decode cX0_checkCalls 3 = .ok (.aload_n 0, 1) := by decide +kernel
theorem dX0_checkCalls_4 : decode cX0_checkCalls 4 = .ok (.getfield 25, 3) := by decide +kernel
theorem dX0_checkCalls_7 : decode cX0_checkCalls 7 = .ok (.getfield 129, 3) := by decide +kernel
theorem dX0_checkCalls_10 : decode cX0_checkCalls 10 = .ok (.if_icmp .ge 48, 3) := by decide +kernel
theorem dX0_checkCalls_58 : decode cX0_checkCalls 58 = .ok (.return_, 1) := by decide +kernel
theorem dX0_checkAll_66 : decode cX0_checkAll 66 = .ok (.aload_n 0, 1) := by decide +kernel
theorem dX0_checkAll_67 : decode cX0_checkAll 67 = .ok (.invokevirtual 60, 3) := by decide +kernel
theorem dX0_checkParts_0 : decode cX0_checkParts 0 = .ok (.iconst 0, 1) := by decide +kernel
theorem dX0_checkParts_1 : decode cX0_checkParts 1 = .ok (.istore_n 1, 1) := by decide +kernel
theorem dX0_checkParts_2 : decode cX0_checkParts 2 = .ok (.iload_n 1, 1) := by decide +kernel
theorem dX0_checkParts_3 : decode cX0_checkParts 3 = .ok (.aload_n 0, 1) := by decide +kernel
theorem dX0_checkParts_4 : decode cX0_checkParts 4 = .ok (.getfield 25, 3) := by decide +kernel
theorem dX0_checkParts_7 : decode cX0_checkParts 7 = .ok (.getfield 155, 3) := by decide +kernel
theorem dX0_checkParts_10 : decode cX0_checkParts 10 = .ok (.if_icmp .ge 107, 3) := by decide +kernel
theorem dX0_checkParts_117 : decode cX0_checkParts 117 = .ok (.return_, 1) := by decide +kernel
theorem dX0_checkAll_70 : decode cX0_checkAll 70 = .ok (.aload_n 0, 1) := by decide +kernel
theorem dX0_checkAll_71 : decode cX0_checkAll 71 = .ok (.getfield 25, 3) := by decide +kernel
theorem dX0_checkAll_74 : decode cX0_checkAll 74 = .ok (.getfield 63, 3) := by decide +kernel
theorem dX0_checkAll_77 : decode cX0_checkAll 77 = .ok (.aload_n 0, 1) := by decide +kernel
theorem dX0_checkAll_78 : decode cX0_checkAll 78 = .ok (.getfield 9, 3) := by decide +kernel
theorem dX0_checkAll_81 : decode cX0_checkAll 81 = .ok (.invokestatic 50, 3) := by decide +kernel
theorem dX0_checkAll_84 : decode cX0_checkAll 84 = .ok (.iconst (-1), 1) := by decide +kernel
theorem dX0_checkAll_85 : decode cX0_checkAll 85 = .ok (.if_icmp .eq 23, 3) := by decide +kernel
theorem dX0_checkAll_108 : decode cX0_checkAll 108 = .ok (.aload_n 0, 1) := by decide +kernel
theorem dX0_checkAll_109 : decode cX0_checkAll 109 = .ok (.getfield 15, 3) := by decide +kernel
theorem dX0_checkAll_112 : decode cX0_checkAll 112 = .ok (.ifCond .eq 29, 3) := by decide +kernel
theorem dX0_checkAll_141 : decode cX0_checkAll 141 = .ok (.iinc 2 1, 3) := by decide +kernel
theorem dX0_checkAll_144 : decode cX0_checkAll 144 = .ok (.goto (-123), 3) := by decide +kernel
theorem dX0_checkAll_147 : decode cX0_checkAll 147 = .ok (.aload_n 0, 1) := by decide +kernel
theorem dX0_checkAll_148 : decode cX0_checkAll 148 = .ok (.invokevirtual 76, 3) := by decide +kernel
theorem dX0_tieParts_0 : decode cX0_tieParts 0 = .ok (.aload_n 0, 1) := by decide +kernel
theorem dX0_tieParts_1 : decode cX0_tieParts 1 = .ok (.getfield 25, 3) := by decide +kernel
theorem dX0_tieParts_4 : decode cX0_tieParts 4 = .ok (.getfield 29, 3) := by decide +kernel
theorem dX0_tieParts_7 : decode cX0_tieParts 7 = .ok (.getfield 46, 3) := by decide +kernel
theorem dX0_tieParts_10 : decode cX0_tieParts 10 = .ok (.iconst 0, 1) := by decide +kernel
theorem dX0_tieParts_11 : decode cX0_tieParts 11 = .ok (.invokestatic 50, 3) := by decide +kernel
theorem dX0_tieParts_14 : decode cX0_tieParts 14 = .ok (.istore_n 1, 1) := by decide +kernel
theorem dX0_tieParts_15 : decode cX0_tieParts 15 = .ok (.iconst 0, 1) := by decide +kernel
theorem dX0_tieParts_16 : decode cX0_tieParts 16 = .ok (.istore_n 2, 1) := by decide +kernel
theorem dX0_tieParts_17 : decode cX0_tieParts 17 = .ok (.iload_n 2, 1) := by decide +kernel
theorem dX0_tieParts_18 : decode cX0_tieParts 18 = .ok (.aload_n 0, 1) := by decide +kernel
theorem dX0_tieParts_19 : decode cX0_tieParts 19 = .ok (.getfield 25, 3) := by decide +kernel
theorem dX0_tieParts_22 : decode cX0_tieParts 22 = .ok (.getfield 155, 3) := by decide +kernel
theorem dX0_tieParts_25 : decode cX0_tieParts 25 = .ok (.if_icmp .ge 127, 3) := by decide +kernel
theorem dX0_tieParts_152 : decode cX0_tieParts 152 = .ok (.return_, 1) := by decide +kernel
theorem dX0_checkAll_151 : decode cX0_checkAll 151 = .ok (.return_, 1) := by decide +kernel
theorem dX12_isRead_75 : decode cX12_isRead 75 = .ok (.iconst 1, 1) := by decide +kernel
theorem dX12_isRead_76 : decode cX12_isRead 76 = .ok (.ireturn, 1) := by decide +kernel
theorem dX12_load_30 : decode cX12_load 30 = .ok (.ifCond .ne 11, 3) := by decide +kernel
theorem dX12_load_41 : decode cX12_load 41 = .ok (.aload_n 0, 1) := by decide +kernel
theorem dX12_load_42 : decode cX12_load 42 = .ok (.getfield 67, 3) := by decide +kernel
theorem dX12_load_45 : decode cX12_load 45 = .ok (.astore_n 2, 1) := by decide +kernel
theorem dX12_load_46 : decode cX12_load 46 = .ok (.aload_n 0, 1) := by decide +kernel
theorem dX12_load_47 : decode cX12_load 47 = .ok (.aload_n 0, 1) := by decide +kernel
theorem dX12_load_48 : decode cX12_load 48 = .ok (.getfield 71, 3) := by decide +kernel
theorem dX12_load_51 : decode cX12_load 51 = .ok (.putfield 67, 3) := by decide +kernel
theorem dX12_load_54 : decode cX12_load 54 = .ok (.aload_n 0, 1) := by decide +kernel
theorem dX12_load_55 : decode cX12_load 55 = .ok (.aload_n 2, 1) := by decide +kernel
theorem dX12_load_56 : decode cX12_load 56 = .ok (.putfield 71, 3) := by decide +kernel
theorem dX12_load_59 : decode cX12_load 59 = .ok (.aload_n 0, 1) := by decide +kernel
theorem dX12_load_60 : decode cX12_load 60 = .ok (.dup, 1) := by decide +kernel
theorem dX12_load_61 : decode cX12_load 61 = .ok (.getfield 20, 3) := by decide +kernel
theorem dX12_load_64 : decode cX12_load 64 = .ok (.iconst 1, 1) := by decide +kernel
theorem dX12_load_65 : decode cX12_load 65 = .ok (.iadd, 1) := by decide +kernel
theorem dX12_load_66 : decode cX12_load 66 = .ok (.putfield 20, 3) := by decide +kernel
theorem dX12_load_69 : decode cX12_load 69 = .ok (.aload_n 0, 1) := by decide +kernel
theorem dX12_load_70 : decode cX12_load 70 = .ok (.getfield 67, 3) := by decide +kernel
theorem dX12_load_73 : decode cX12_load 73 = .ok (.getfield 126, 3) := by decide +kernel
theorem dX12_load_76 : decode cX12_load 76 = .ok (.ireturn, 1) := by decide +kernel
theorem dX14_load_27 : decode cX14_load 27 = .ok (.iconst 0, 1) := by decide +kernel
theorem dX14_load_28 : decode cX14_load 28 = .ok (.istore_n 2, 1) := by decide +kernel
theorem dX14_load_29 : decode cX14_load 29 = .ok (.aload_n 0, 1) := by decide +kernel
theorem dX14_load_30 : decode cX14_load 30 = .ok (.getfield 28, 3) := by decide +kernel
theorem dX14_load_33 : decode cX14_load 33 = .ok (.iload_n 2, 1) := by decide +kernel
theorem dX14_load_34 : decode cX14_load 34 = .ok (.aaload, 1) := by decide +kernel
theorem dX14_load_35 : decode cX14_load 35 = .ok (.aload_n 0, 1) := by decide +kernel
theorem dX14_load_36 : decode cX14_load 36 = .ok (.getfield 836, 3) := by decide +kernel
theorem dX14_load_39 : decode cX14_load 39 = .ok (.if_acmp .eq 16, 3) := by decide +kernel
theorem dX14_load_42 : decode cX14_load 42 = .ok (.aload_n 0, 1) := by decide +kernel
theorem dX14_load_43 : decode cX14_load 43 = .ok (.getfield 28, 3) := by decide +kernel
theorem dX14_load_46 : decode cX14_load 46 = .ok (.iload_n 2, 1) := by decide +kernel
theorem dX14_load_47 : decode cX14_load 47 = .ok (.aaload, 1) := by decide +kernel
theorem dX14_load_48 : decode cX14_load 48 = .ok (.aload_n 0, 1) := by decide +kernel
theorem dX14_load_49 : decode cX14_load 49 = .ok (.getfield 839, 3) := by decide +kernel
theorem dX14_load_52 : decode cX14_load 52 = .ok (.if_acmp .ne 9, 3) := by decide +kernel
theorem dX14_load_61 : decode cX14_load 61 = .ok (.aload_n 0, 1) := by decide +kernel
theorem dX14_load_62 : decode cX14_load 62 = .ok (.aload_n 0, 1) := by decide +kernel
theorem dX14_load_63 : decode cX14_load 63 = .ok (.getfield 28, 3) := by decide +kernel
theorem dX14_load_66 : decode cX14_load 66 = .ok (.iload_n 2, 1) := by decide +kernel
theorem dX14_load_67 : decode cX14_load 67 = .ok (.aaload, 1) := by decide +kernel
theorem dX14_load_68 : decode cX14_load 68 = .ok (.putfield 334, 3) := by decide +kernel
theorem dX14_load_71 : decode cX14_load 71 = .ok (.aload_n 0, 1) := by decide +kernel
theorem dX14_load_72 : decode cX14_load 72 = .ok (.getfield 334, 3) := by decide +kernel
theorem dX14_load_75 : decode cX14_load 75 = .ok (.invokevirtual 842, 3) := by decide +kernel
theorem dX13_clear_0 : decode cX13_clear 0 = .ok (.aload_n 0, 1) := by decide +kernel
theorem dX13_clear_1 : decode cX13_clear 1 = .ok (.iconst 1, 1) := by decide +kernel
theorem dX13_clear_2 : decode cX13_clear 2 = .ok (.putfield 109, 3) := by decide +kernel
theorem dX13_clear_5 : decode cX13_clear 5 = .ok (.aload_n 0, 1) := by decide +kernel
theorem dX13_clear_6 : decode cX13_clear 6 = .ok (.getfield 35, 3) := by decide +kernel
theorem dX13_clear_9 : decode cX13_clear 9 = .ok (.iconst 0, 1) := by decide +kernel
theorem dX13_clear_10 : decode cX13_clear 10 = .ok (.bipush 10, 2) := by decide +kernel
theorem dX13_clear_12 : decode cX13_clear 12 = .ok (.bastore, 1) := by decide +kernel
theorem dX13_clear_13 : decode cX13_clear 13 = .ok (.aload_n 0, 1) := by decide +kernel
theorem dX13_clear_14 : decode cX13_clear 14 = .ok (.iconst 1, 1) := by decide +kernel
theorem dX13_clear_15 : decode cX13_clear 15 = .ok (.putfield 113, 3) := by decide +kernel
theorem dX13_clear_18 : decode cX13_clear 18 = .ok (.aload_n 0, 1) := by decide +kernel
theorem dX13_clear_19 : decode cX13_clear 19 = .ok (.iconst 0, 1) := by decide +kernel
theorem dX13_clear_20 : decode cX13_clear 20 = .ok (.putfield 116, 3) := by decide +kernel
theorem dX13_clear_23 : decode cX13_clear 23 = .ok (.aload_n 0, 1) := by decide +kernel
theorem dX13_clear_24 : decode cX13_clear 24 = .ok (.iconst 0, 1) := by decide +kernel
theorem dX13_clear_25 : decode cX13_clear 25 = .ok (.putfield 119, 3) := by decide +kernel
theorem dX13_clear_28 : decode cX13_clear 28 = .ok (.aload_n 0, 1) := by decide +kernel
theorem dX13_clear_29 : decode cX13_clear 29 = .ok (.iconst 0, 1) := by decide +kernel
theorem dX13_clear_30 : decode cX13_clear 30 = .ok (.putfield 122, 3) := by decide +kernel
theorem dX13_clear_33 : decode cX13_clear 33 = .ok (.aload_n 0, 1) := by decide +kernel
theorem dX13_clear_34 : decode cX13_clear 34 = .ok (.iconst 0, 1) := by decide +kernel
theorem dX13_clear_35 : decode cX13_clear 35 = .ok (.putfield 125, 3) := by decide +kernel
theorem dX13_clear_38 : decode cX13_clear 38 = .ok (.iconst 0, 1) := by decide +kernel
theorem dX13_clear_39 : decode cX13_clear 39 = .ok (.istore_n 1, 1) := by decide +kernel
theorem dX13_clear_40 : decode cX13_clear 40 = .ok (.iload_n 1, 1) := by decide +kernel
theorem dX13_clear_41 : decode cX13_clear 41 = .ok (.bipush 8, 2) := by decide +kernel
theorem dX13_clear_43 : decode cX13_clear 43 = .ok (.if_icmp .ge 30, 3) := by decide +kernel
theorem dX13_clear_46 : decode cX13_clear 46 = .ok (.aload_n 0, 1) := by decide +kernel
theorem dX13_clear_47 : decode cX13_clear 47 = .ok (.getfield 72, 3) := by decide +kernel
theorem dX13_clear_50 : decode cX13_clear 50 = .ok (.iload_n 1, 1) := by decide +kernel
theorem dX13_clear_51 : decode cX13_clear 51 = .ok (.iconst 0, 1) := by decide +kernel
theorem dX13_clear_52 : decode cX13_clear 52 = .ok (.iastore, 1) := by decide +kernel
theorem dX13_clear_53 : decode cX13_clear 53 = .ok (.aload_n 0, 1) := by decide +kernel
theorem dX13_clear_54 : decode cX13_clear 54 = .ok (.getfield 78, 3) := by decide +kernel
theorem dX13_clear_57 : decode cX13_clear 57 = .ok (.iload_n 1, 1) := by decide +kernel
theorem dX13_clear_58 : decode cX13_clear 58 = .ok (.iconst 0, 1) := by decide +kernel
theorem dX13_clear_59 : decode cX13_clear 59 = .ok (.iastore, 1) := by decide +kernel
theorem dX13_clear_60 : decode cX13_clear 60 = .ok (.aload_n 0, 1) := by decide +kernel
theorem dX13_clear_61 : decode cX13_clear 61 = .ok (.getfield 81, 3) := by decide +kernel
theorem dX13_clear_64 : decode cX13_clear 64 = .ok (.iload_n 1, 1) := by decide +kernel
theorem dX13_clear_65 : decode cX13_clear 65 = .ok (.iconst 0, 1) := by decide +kernel
theorem dX13_clear_66 : decode cX13_clear 66 = .ok (.bastore, 1) := by decide +kernel
theorem dX13_clear_67 : decode cX13_clear 67 = .ok (.iinc 1 1, 3) := by decide +kernel
theorem dX13_clear_70 : decode cX13_clear 70 = .ok (.goto (-30), 3) := by decide +kernel
theorem dX13_clear_73 : decode cX13_clear 73 = .ok (.return_, 1) := by decide +kernel
theorem dX14_load_78 : decode cX14_load 78 = .ok (.aload_n 0, 1) := by decide +kernel
theorem dX14_load_79 : decode cX14_load 79 = .ok (.getfield 334, 3) := by decide +kernel
theorem dX14_load_82 : decode cX14_load 82 = .ok (.iload_n 1, 1) := by decide +kernel
theorem dX14_load_83 : decode cX14_load 83 = .ok (.putfield 786, 3) := by decide +kernel
theorem dX14_load_86 : decode cX14_load 86 = .ok (.iconst 0, 1) := by decide +kernel
theorem dX14_load_87 : decode cX14_load 87 = .ok (.istore_n 3, 1) := by decide +kernel
theorem dX14_load_88 : decode cX14_load 88 = .ok (.iload_n 3, 1) := by decide +kernel
theorem dX14_load_89 : decode cX14_load 89 = .ok (.bipush 8, 2) := by decide +kernel
theorem dX14_load_91 : decode cX14_load 91 = .ok (.if_icmp .ge 16, 3) := by decide +kernel
theorem dX14_load_94 : decode cX14_load 94 = .ok (.aload_n 0, 1) := by decide +kernel
theorem dX14_load_95 : decode cX14_load 95 = .ok (.getfield 32, 3) := by decide +kernel
theorem dX14_load_98 : decode cX14_load 98 = .ok (.iload_n 3, 1) := by decide +kernel
theorem dX14_load_99 : decode cX14_load 99 = .ok (.iconst 0, 1) := by decide +kernel
theorem dX14_load_100 : decode cX14_load 100 = .ok (.bastore, 1) := by decide +kernel
theorem dX14_load_101 : decode cX14_load 101 = .ok (.iinc 3 1, 3) := by decide +kernel
theorem dX14_load_104 : decode cX14_load 104 = .ok (.goto (-16), 3) := by decide +kernel
theorem dX14_load_107 : decode cX14_load 107 = .ok (.aload_n 0, 1) := by decide +kernel
theorem dX14_load_108 : decode cX14_load 108 = .ok (.iconst (-1), 1) := by decide +kernel
theorem dX14_load_109 : decode cX14_load 109 = .ok (.putfield 42, 3) := by decide +kernel
theorem dX14_load_112 : decode cX14_load 112 = .ok (.aload_n 0, 1) := by decide +kernel
theorem dX14_load_113 : decode cX14_load 113 = .ok (.iconst (-1), 1) := by decide +kernel
theorem dX14_load_114 : decode cX14_load 114 = .ok (.putfield 46, 3) := by decide +kernel
theorem dX14_load_117 : decode cX14_load 117 = .ok (.aload_n 0, 1) := by decide +kernel
theorem dX14_load_118 : decode cX14_load 118 = .ok (.iload_n 1, 1) := by decide +kernel
theorem dX14_load_119 : decode cX14_load 119 = .ok (.invokevirtual 421, 3) := by decide +kernel
theorem dX14_readFile_0 : decode cX14_readFile 0 = .ok (.aload_n 0, 1) := by decide +kernel
theorem dX14_readFile_1 : decode cX14_readFile 1 = .ok (.iload_n 1, 1) := by decide +kernel
theorem dX14_readFile_2 : decode cX14_readFile 2 = .ok (.putfield 251, 3) := by decide +kernel
theorem dX14_readFile_5 : decode cX14_readFile 5 = .ok (.aload_n 0, 1) := by decide +kernel
theorem dX14_readFile_6 : decode cX14_readFile 6 = .ok (.aload_n 0, 1) := by decide +kernel
theorem dX14_readFile_7 : decode cX14_readFile 7 = .ok (.getfield 18, 3) := by decide +kernel
theorem dX14_readFile_10 : decode cX14_readFile 10 = .ok (.iload_n 1, 1) := by decide +kernel
theorem dX14_readFile_11 : decode cX14_readFile 11 = .ok (.aaload, 1) := by decide +kernel
theorem dX14_readFile_12 : decode cX14_readFile 12 = .ok (.putfield 263, 3) := by decide +kernel
theorem dX14_readFile_15 : decode cX14_readFile 15 = .ok (.aload_n 0, 1) := by decide +kernel
theorem dX14_readFile_16 : decode cX14_readFile 16 = .ok (.aload_n 0, 1) := by decide +kernel
theorem dX14_readFile_17 : decode cX14_readFile 17 = .ok (.getfield 21, 3) := by decide +kernel
theorem dX14_readFile_20 : decode cX14_readFile 20 = .ok (.iload_n 1, 1) := by decide +kernel
theorem dX14_readFile_21 : decode cX14_readFile 21 = .ok (.iaload, 1) := by decide +kernel
theorem dX14_readFile_22 : decode cX14_readFile 22 = .ok (.putfield 260, 3) := by decide +kernel
theorem dX14_readFile_25 : decode cX14_readFile 25 = .ok (.aload_n 0, 1) := by decide +kernel
theorem dX14_readFile_26 : decode cX14_readFile 26 = .ok (.iconst 0, 1) := by decide +kernel
theorem dX14_readFile_27 : decode cX14_readFile 27 = .ok (.putfield 274, 3) := by decide +kernel
theorem dX14_readFile_30 : decode cX14_readFile 30 = .ok (.aload_n 0, 1) := by decide +kernel
theorem dX14_readFile_31 : decode cX14_readFile 31 = .ok (.bipush 60, 2) := by decide +kernel
theorem dX14_readFile_33 : decode cX14_readFile 33 = .ok (.putfield 391, 3) := by decide +kernel
theorem dX14_readFile_36 : decode cX14_readFile 36 = .ok (.aload_n 0, 1) := by decide +kernel
theorem dX14_readFile_37 : decode cX14_readFile 37 = .ok (.bipush 62, 2) := by decide +kernel
theorem dX14_readFile_39 : decode cX14_readFile 39 = .ok (.putfield 394, 3) := by decide +kernel
theorem dX14_readFile_42 : decode cX14_readFile 42 = .ok (.aload_n 0, 1) := by decide +kernel
theorem dX14_readFile_43 : decode cX14_readFile 43 = .ok (.getfield 334, 3) := by decide +kernel
theorem dX14_readFile_46 : decode cX14_readFile 46 = .ok (.getfield 397, 3) := by decide +kernel
theorem dX14_readFile_49 : decode cX14_readFile 49 = .ok (.iload_n 1, 1) := by decide +kernel
theorem dX14_readFile_50 : decode cX14_readFile 50 = .ok (.iconst 1, 1) := by decide +kernel
theorem dX14_readFile_51 : decode cX14_readFile 51 = .ok (.bastore, 1) := by decide +kernel
theorem dX14_readFile_52 : decode cX14_readFile 52 = .ok (.aload_n 0, 1) := by decide +kernel
theorem dX14_readFile_53 : decode cX14_readFile 53 = .ok (.getfield 32, 3) := by decide +kernel
theorem dX14_readFile_56 : decode cX14_readFile 56 = .ok (.iload_n 1, 1) := by decide +kernel
theorem dX14_readFile_57 : decode cX14_readFile 57 = .ok (.iconst 1, 1) := by decide +kernel
theorem dX14_readFile_58 : decode cX14_readFile 58 = .ok (.bastore, 1) := by decide +kernel
theorem dX14_readFile_59 : decode cX14_readFile 59 = .ok (.aload_n 0, 1) := by decide +kernel
theorem dX14_readFile_60 : decode cX14_readFile 60 = .ok (.invokevirtual 308, 3) := by decide +kernel
theorem dX14_skip_0 : decode cX14_skip 0 = .ok (.aload_n 0, 1) := by decide +kernel
theorem dX14_skip_1 : decode cX14_skip 1 = .ok (.getfield 248, 3) := by decide +kernel
theorem dX14_skip_4 : decode cX14_skip 4 = .ok (.ifCond .eq 4, 3) := by decide +kernel
theorem dX14_skip_8 : decode cX14_skip 8 = .ok (.aload_n 0, 1) := by decide +kernel
theorem dX14_skip_9 : decode cX14_skip 9 = .ok (.aload_n 0, 1) := by decide +kernel
theorem dX14_skip_10 : decode cX14_skip 10 = .ok (.getfield 274, 3) := by decide +kernel
theorem dX14_skip_13 : decode cX14_skip 13 = .ok (.invokevirtual 277, 3) := by decide +kernel
theorem dX14_ahead_0 : decode cX14_ahead 0 = .ok (.iload_n 1, 1) := by decide +kernel
theorem dX14_ahead_1 : decode cX14_ahead 1 = .ok (.istore_n 2, 1) := by decide +kernel
theorem dX14_ahead_2 : decode cX14_ahead 2 = .ok (.iconst 1, 1) := by decide +kernel
theorem dX14_ahead_3 : decode cX14_ahead 3 = .ok (.istore_n 3, 1) := by decide +kernel
theorem dX14_ahead_4 : decode cX14_ahead 4 = .ok (.iload_n 3, 1) := by decide +kernel
theorem dX14_ahead_5 : decode cX14_ahead 5 = .ok (.ifCond .eq 153, 3) := by decide +kernel
theorem dX14_ahead_8 : decode cX14_ahead 8 = .ok (.iconst 0, 1) := by decide +kernel
theorem dX14_ahead_9 : decode cX14_ahead 9 = .ok (.istore_n 3, 1) := by decide +kernel
theorem dX14_ahead_10 : decode cX14_ahead 10 = .ok (.aload_n 0, 1) := by decide +kernel
theorem dX14_ahead_11 : decode cX14_ahead 11 = .ok (.iload_n 2, 1) := by decide +kernel
theorem dX14_ahead_12 : decode cX14_ahead 12 = .ok (.invokevirtual 266, 3) := by decide +kernel
theorem dX14_fc_0 : decode cX14_fc 0 = .ok (.iload_n 1, 1) := by decide +kernel
theorem dX14_fc_1 : decode cX14_fc 1 = .ok (.aload_n 0, 1) := by decide +kernel
theorem dX14_fc_2 : decode cX14_fc 2 = .ok (.getfield 260, 3) := by decide +kernel
theorem dX14_fc_5 : decode cX14_fc 5 = .ok (.if_icmp .ge 12, 3) := by decide +kernel
theorem dX14_fc_17 : decode cX14_fc 17 = .ok (.iconst (-1), 1) := by decide +kernel
theorem dX14_fc_18 : decode cX14_fc 18 = .ok (.ireturn, 1) := by decide +kernel
theorem dX14_ahead_15 : decode cX14_ahead 15 = .ok (.invokestatic 270, 3) := by decide +kernel
theorem dX14_isBlank_0 : decode cX14_isBlank 0 = .ok (.iload_n 0, 1) := by decide +kernel
theorem dX14_isBlank_1 : decode cX14_isBlank 1 = .ok (.bipush 32, 2) := by decide +kernel
theorem dX14_isBlank_3 : decode cX14_isBlank 3 = .ok (.if_icmp .eq 15, 3) := by decide +kernel
theorem dX14_isBlank_6 : decode cX14_isBlank 6 = .ok (.iload_n 0, 1) := by decide +kernel
theorem dX14_isBlank_7 : decode cX14_isBlank 7 = .ok (.bipush 9, 2) := by decide +kernel
theorem dX14_isBlank_9 : decode cX14_isBlank 9 = .ok (.if_icmp .eq 9, 3) := by decide +kernel
theorem dX14_isBlank_12 : decode cX14_isBlank 12 = .ok (.iload_n 0, 1) := by decide +kernel
theorem dX14_isBlank_13 : decode cX14_isBlank 13 = .ok (.bipush 10, 2) := by decide +kernel
theorem dX14_isBlank_15 : decode cX14_isBlank 15 = .ok (.if_icmp .ne 7, 3) := by decide +kernel
theorem dX14_isBlank_22 : decode cX14_isBlank 22 = .ok (.iconst 0, 1) := by decide +kernel
theorem dX14_isBlank_23 : decode cX14_isBlank 23 = .ok (.ireturn, 1) := by decide +kernel
theorem dX14_ahead_18 : decode cX14_ahead 18 = .ok (.ifCond .eq 9, 3) := by decide +kernel
theorem dX14_ahead_27 : decode cX14_ahead 27 = .ok (.aload_n 0, 1) := by decide +kernel
theorem dX14_ahead_28 : decode cX14_ahead 28 = .ok (.iload_n 2, 1) := by decide +kernel
theorem dX14_ahead_29 : decode cX14_ahead 29 = .ok (.invokevirtual 266, 3) := by decide +kernel
theorem dX14_ahead_32 : decode cX14_ahead 32 = .ok (.bipush 47, 2) := by decide +kernel
theorem dX14_ahead_34 : decode cX14_ahead 34 = .ok (.if_icmp .ne 45, 3) := by decide +kernel
theorem dX14_ahead_79 : decode cX14_ahead 79 = .ok (.aload_n 0, 1) := by decide +kernel
theorem dX14_ahead_80 : decode cX14_ahead 80 = .ok (.iload_n 2, 1) := by decide +kernel
theorem dX14_ahead_81 : decode cX14_ahead 81 = .ok (.invokevirtual 266, 3) := by decide +kernel
theorem dX14_ahead_84 : decode cX14_ahead 84 = .ok (.bipush 47, 2) := by decide +kernel
theorem dX14_ahead_86 : decode cX14_ahead 86 = .ok (.if_icmp .ne (-82), 3) := by decide +kernel
theorem dX14_ahead_158 : decode cX14_ahead 158 = .ok (.iload_n 2, 1) := by decide +kernel
theorem dX14_ahead_159 : decode cX14_ahead 159 = .ok (.ireturn, 1) := by decide +kernel
theorem dX14_skip_16 : decode cX14_skip 16 = .ok (.istore_n 1, 1) := by decide +kernel
theorem dX14_skip_17 : decode cX14_skip 17 = .ok (.iload_n 1, 1) := by decide +kernel
theorem dX14_skip_18 : decode cX14_skip 18 = .ok (.ifCond .ge 13, 3) := by decide +kernel
theorem dX14_skip_31 : decode cX14_skip 31 = .ok (.aload_n 0, 1) := by decide +kernel
theorem dX14_skip_32 : decode cX14_skip 32 = .ok (.iload_n 1, 1) := by decide +kernel
theorem dX14_skip_33 : decode cX14_skip 33 = .ok (.putfield 274, 3) := by decide +kernel
theorem dX14_skip_36 : decode cX14_skip 36 = .ok (.return_, 1) := by decide +kernel
theorem dX14_readFile_63 : decode cX14_readFile 63 = .ok (.aload_n 0, 1) := by decide +kernel
theorem dX14_readFile_64 : decode cX14_readFile 64 = .ok (.getfield 248, 3) := by decide +kernel
theorem dX14_readFile_67 : decode cX14_readFile 67 = .ok (.ifCond .ne 47, 3) := by decide +kernel
theorem dX14_readFile_70 : decode cX14_readFile 70 = .ok (.aload_n 0, 1) := by decide +kernel
theorem dX14_readFile_71 : decode cX14_readFile 71 = .ok (.ldc_w 311, 3) := by decide +kernel
theorem dX14_readFile_74 : decode cX14_readFile 74 = .ok (.invokevirtual 313, 3) := by decide +kernel
theorem dX14_isFileWord_0 : decode cX14_isFileWord 0 = .ok (.aload_n 0, 1) := by decide +kernel
theorem dX14_isFileWord_1 : decode cX14_isFileWord 1 = .ok (.getfield 263, 3) := by decide +kernel
theorem dX14_isFileWord_4 : decode cX14_isFileWord 4 = .ok (.aload_n 0, 1) := by decide +kernel
theorem dX14_isFileWord_5 : decode cX14_isFileWord 5 = .ok (.getfield 274, 3) := by decide +kernel
theorem dX14_isFileWord_8 : decode cX14_isFileWord 8 = .ok (.aload_n 0, 1) := by decide +kernel
theorem dX14_isFileWord_9 : decode cX14_isFileWord 9 = .ok (.getfield 263, 3) := by decide +kernel
theorem dX14_isFileWord_12 : decode cX14_isFileWord 12 = .ok (.aload_n 0, 1) := by decide +kernel
theorem dX14_isFileWord_13 : decode cX14_isFileWord 13 = .ok (.getfield 260, 3) := by decide +kernel
theorem dX14_isFileWord_16 : decode cX14_isFileWord 16 = .ok (.aload_n 0, 1) := by decide +kernel
theorem dX14_isFileWord_17 : decode cX14_isFileWord 17 = .ok (.getfield 274, 3) := by decide +kernel
theorem dX14_isFileWord_20 : decode cX14_isFileWord 20 = .ok (.invokestatic 300, 3) := by decide +kernel
theorem dX14_wordEnd_0 : decode cX14_wordEnd 0 = .ok (.iload_n 2, 1) := by decide +kernel
theorem dX14_wordEnd_1 : decode cX14_wordEnd 1 = .ok (.istore_n 3, 1) := by decide +kernel
theorem dX14_wordEnd_2 : decode cX14_wordEnd 2 = .ok (.iload_n 3, 1) := by decide +kernel
theorem dX14_wordEnd_3 : decode cX14_wordEnd 3 = .ok (.iload_n 1, 1) := by decide +kernel
theorem dX14_wordEnd_4 : decode cX14_wordEnd 4 = .ok (.if_icmp .ge 41, 3) := by decide +kernel
theorem dX14_wordEnd_45 : decode cX14_wordEnd 45 = .ok (.iload_n 3, 1) := by decide +kernel
theorem dX14_wordEnd_46 : decode cX14_wordEnd 46 = .ok (.ireturn, 1) := by decide +kernel
theorem dX14_isFileWord_23 : decode cX14_isFileWord 23 = .ok (.aload_n 1, 1) := by decide +kernel
theorem dX14_isFileWord_24 : decode cX14_isFileWord 24 = .ok (.invokestatic 304, 3) := by decide +kernel
theorem dX14_is_0 : decode cX14_is 0 = .ok (.iload_n 2, 1) := by decide +kernel
theorem dX14_is_1 : decode cX14_is 1 = .ok (.iload_n 1, 1) := by decide +kernel
theorem dX14_is_2 : decode cX14_is 2 = .ok (.isub, 1) := by decide +kernel
theorem dX14_is_3 : decode cX14_is 3 = .ok (.aload_n 3, 1) := by decide +kernel
theorem dX14_is_4 : decode cX14_is 4 = .ok (.invokevirtual 290, 3) := by decide +kernel
theorem dX14_is_7 : decode cX14_is 7 = .ok (.if_icmp .ne 7, 3) := by decide +kernel
theorem dX14_is_14 : decode cX14_is 14 = .ok (.iconst 0, 1) := by decide +kernel
theorem dX14_is_15 : decode cX14_is 15 = .ok (.istore 4, 2) := by decide +kernel
theorem dX14_is_17 : decode cX14_is 17 = .ok (.iconst 0, 1) := by decide +kernel
theorem dX14_is_18 : decode cX14_is 18 = .ok (.istore 5, 2) := by decide +kernel
theorem dX14_is_20 : decode cX14_is 20 = .ok (.iload 5, 2) := by decide +kernel
theorem dX14_is_22 : decode cX14_is 22 = .ok (.aload_n 3, 1) := by decide +kernel
theorem dX14_is_23 : decode cX14_is 23 = .ok (.invokevirtual 290, 3) := by decide +kernel
theorem dX14_is_26 : decode cX14_is 26 = .ok (.if_icmp .ge 36, 3) := by decide +kernel
theorem dX14_is_29 : decode cX14_is 29 = .ok (.iload 4, 2) := by decide +kernel
theorem dX14_is_31 : decode cX14_is 31 = .ok (.ifCond .eq 31, 3) := by decide +kernel
theorem dX14_is_62 : decode cX14_is 62 = .ok (.iload 4, 2) := by decide +kernel
theorem dX14_is_64 : decode cX14_is 64 = .ok (.ireturn, 1) := by decide +kernel
theorem dX14_isFileWord_27 : decode cX14_isFileWord 27 = .ok (.ireturn, 1) := by decide +kernel
theorem dX14_readFile_77 : decode cX14_readFile 77 = .ok (.ifCond .eq 37, 3) := by decide +kernel
theorem dX14_readFile_114 : decode cX14_readFile 114 = .ok (.aload_n 0, 1) := by decide +kernel
theorem dX14_readFile_115 : decode cX14_readFile 115 = .ok (.invokevirtual 308, 3) := by decide +kernel
theorem dX14_readFile_118 : decode cX14_readFile 118 = .ok (.aload_n 0, 1) := by decide +kernel
theorem dX14_readFile_119 : decode cX14_readFile 119 = .ok (.getfield 248, 3) := by decide +kernel
theorem dX14_readFile_122 : decode cX14_readFile 122 = .ok (.ifCond .ne 35, 3) := by decide +kernel
theorem dX14_readFile_125 : decode cX14_readFile 125 = .ok (.aload_n 0, 1) := by decide +kernel
theorem dX14_readFile_126 : decode cX14_readFile 126 = .ok (.ldc_w 317, 3) := by decide +kernel
theorem dX14_readFile_129 : decode cX14_readFile 129 = .ok (.invokevirtual 313, 3) := by decide +kernel
theorem dX14_readFile_132 : decode cX14_readFile 132 = .ok (.ifCond .eq 25, 3) := by decide +kernel
theorem dX14_readFile_157 : decode cX14_readFile 157 = .ok (.aload_n 0, 1) := by decide +kernel
theorem dX14_readFile_158 : decode cX14_readFile 158 = .ok (.getfield 248, 3) := by decide +kernel
theorem dX14_readFile_161 : decode cX14_readFile 161 = .ok (.ifCond .ne 25, 3) := by decide +kernel
theorem dX14_readFile_164 : decode cX14_readFile 164 = .ok (.aload_n 0, 1) := by decide +kernel
theorem dX14_readFile_165 : decode cX14_readFile 165 = .ok (.getfield 274, 3) := by decide +kernel
theorem dX14_readFile_168 : decode cX14_readFile 168 = .ok (.aload_n 0, 1) := by decide +kernel
theorem dX14_readFile_169 : decode cX14_readFile 169 = .ok (.getfield 260, 3) := by decide +kernel
theorem dX14_readFile_172 : decode cX14_readFile 172 = .ok (.if_icmp .ge 14, 3) := by decide +kernel
theorem dX14_readFile_186 : decode cX14_readFile 186 = .ok (.iconst 0, 1) := by decide +kernel
theorem dX14_readFile_187 : decode cX14_readFile 187 = .ok (.istore_n 2, 1) := by decide +kernel
theorem dX14_readFile_188 : decode cX14_readFile 188 = .ok (.iload_n 2, 1) := by decide +kernel
theorem dX14_readFile_189 : decode cX14_readFile 189 = .ok (.aload_n 0, 1) := by decide +kernel
theorem dX14_readFile_190 : decode cX14_readFile 190 = .ok (.getfield 334, 3) := by decide +kernel
theorem dX14_readFile_193 : decode cX14_readFile 193 = .ok (.getfield 415, 3) := by decide +kernel
theorem dX14_readFile_196 : decode cX14_readFile 196 = .ok (.iload_n 1, 1) := by decide +kernel
theorem dX14_readFile_197 : decode cX14_readFile 197 = .ok (.iaload, 1) := by decide +kernel
theorem dX14_readFile_198 : decode cX14_readFile 198 = .ok (.if_icmp .ge 49, 3) := by decide +kernel
theorem dX14_readFile_247 : decode cX14_readFile 247 = .ok (.aload_n 0, 1) := by decide +kernel
theorem dX14_readFile_248 : decode cX14_readFile 248 = .ok (.getfield 32, 3) := by decide +kernel
theorem dX14_readFile_251 : decode cX14_readFile 251 = .ok (.iload_n 1, 1) := by decide +kernel
theorem dX14_readFile_252 : decode cX14_readFile 252 = .ok (.iconst 0, 1) := by decide +kernel
theorem dX14_readFile_253 : decode cX14_readFile 253 = .ok (.bastore, 1) := by decide +kernel
theorem dX14_readFile_254 : decode cX14_readFile 254 = .ok (.return_, 1) := by decide +kernel
theorem dX14_load_122 : decode cX14_load 122 = .ok (.aload_n 0, 1) := by decide +kernel
theorem dX14_load_123 : decode cX14_load 123 = .ok (.getfield 248, 3) := by decide +kernel
theorem dX14_load_126 : decode cX14_load 126 = .ok (.ifCond .ne 7, 3) := by decide +kernel
theorem dX14_load_129 : decode cX14_load 129 = .ok (.aload_n 0, 1) := by decide +kernel
theorem dX14_load_130 : decode cX14_load 130 = .ok (.invokevirtual 845, 3) := by decide +kernel
theorem dX14_checkAll_0 : decode cX14_checkAll 0 = .ok (.iconst 0, 1) := by decide +kernel
theorem dX14_checkAll_1 : decode cX14_checkAll 1 = .ok (.istore_n 1, 1) := by decide +kernel
theorem dX14_checkAll_2 : decode cX14_checkAll 2 = .ok (.iload_n 1, 1) := by decide +kernel
theorem dX14_checkAll_3 : decode cX14_checkAll 3 = .ok (.aload_n 0, 1) := by decide +kernel
theorem dX14_checkAll_4 : decode cX14_checkAll 4 = .ok (.getfield 334, 3) := by decide +kernel
theorem dX14_checkAll_7 : decode cX14_checkAll 7 = .ok (.getfield 486, 3) := by decide +kernel
theorem dX14_checkAll_10 : decode cX14_checkAll 10 = .ok (.if_icmp .ge 424, 3) := by decide +kernel
theorem dX14_checkAll_434 : decode cX14_checkAll 434 = .ok (.return_, 1) := by decide +kernel
theorem dX14_load_133 : decode cX14_load 133 = .ok (.aload_n 0, 1) := by decide +kernel
theorem dX14_load_134 : decode cX14_load 134 = .ok (.getfield 248, 3) := by decide +kernel
theorem dX14_load_137 : decode cX14_load 137 = .ok (.ifCond .eq 10, 3) := by decide +kernel
theorem dX14_load_147 : decode cX14_load 147 = .ok (.aload_n 0, 1) := by decide +kernel
theorem dX14_load_148 : decode cX14_load 148 = .ok (.aload_n 0, 1) := by decide +kernel
theorem dX14_load_149 : decode cX14_load 149 = .ok (.getfield 334, 3) := by decide +kernel
theorem dX14_load_152 : decode cX14_load 152 = .ok (.putfield 836, 3) := by decide +kernel
theorem dX14_load_155 : decode cX14_load 155 = .ok (.aload_n 0, 1) := by decide +kernel
theorem dX14_load_156 : decode cX14_load 156 = .ok (.dup, 1) := by decide +kernel
theorem dX14_load_157 : decode cX14_load 157 = .ok (.getfield 848, 3) := by decide +kernel
theorem dX14_load_160 : decode cX14_load 160 = .ok (.iconst 1, 1) := by decide +kernel
theorem dX14_load_161 : decode cX14_load 161 = .ok (.iadd, 1) := by decide +kernel
theorem dX14_load_162 : decode cX14_load 162 = .ok (.putfield 848, 3) := by decide +kernel
theorem dX14_load_165 : decode cX14_load 165 = .ok (.iconst 0, 1) := by decide +kernel
theorem dX14_load_166 : decode cX14_load 166 = .ok (.istore_n 3, 1) := by decide +kernel
theorem dX14_load_167 : decode cX14_load 167 = .ok (.iconst 0, 1) := by decide +kernel
theorem dX14_load_168 : decode cX14_load 168 = .ok (.istore 4, 2) := by decide +kernel
theorem dX14_load_170 : decode cX14_load 170 = .ok (.iload 4, 2) := by decide +kernel
theorem dX14_load_172 : decode cX14_load 172 = .ok (.aload_n 0, 1) := by decide +kernel
theorem dX14_load_173 : decode cX14_load 173 = .ok (.getfield 334, 3) := by decide +kernel
theorem dX14_load_176 : decode cX14_load 176 = .ok (.getfield 851, 3) := by decide +kernel
theorem dX14_load_179 : decode cX14_load 179 = .ok (.if_icmp .ge 31, 3) := by decide +kernel
theorem dX14_load_210 : decode cX14_load 210 = .ok (.iload_n 3, 1) := by decide +kernel
theorem dX14_load_211 : decode cX14_load 211 = .ok (.ireturn, 1) := by decide +kernel
theorem dL_begin_0 : decode cL_begin 0 = .ok (.aload_n 0, 1) := by decide +kernel
theorem dL_begin_1 : decode cL_begin 1 = .ok (.invokevirtual 15, 3) := by decide +kernel
theorem dL_begin_7 : decode cL_begin 7 = .ok (.astore_n 1, 1) := by decide +kernel
theorem dL_begin_8 : decode cL_begin 8 = .ok (.iconst 1, 1) := by decide +kernel
theorem dL_begin_9 : decode cL_begin 9 = .ok (.ireturn, 1) := by decide +kernel
theorem dL_run_0 : decode cL_run 0 = .ok (.aload_n 2, 1) := by decide +kernel
theorem dL_run_1 : decode cL_run 1 = .ok (.iconst 0, 1) := by decide +kernel
theorem dL_run_2 : decode cL_run 2 = .ok (.aload_n 0, 1) := by decide +kernel
theorem dL_run_3 : decode cL_run 3 = .ok (.iload_n 1, 1) := by decide +kernel
theorem dL_run_4 : decode cL_run 4 = .ok (.invokevirtual 22, 3) := by decide +kernel
theorem dL_run_12 : decode cL_run 12 = .ok (.astore_n 3, 1) := by decide +kernel
theorem dL_run_13 : decode cL_run 13 = .ok (.iconst 1, 1) := by decide +kernel
theorem dL_run_14 : decode cL_run 14 = .ok (.ireturn, 1) := by decide +kernel
theorem dL_run_15 : decode cL_run 15 = .ok (.astore_n 3, 1) := by decide +kernel
theorem dL_run_16 : decode cL_run 16 = .ok (.iconst 2, 1) := by decide +kernel
theorem dL_run_17 : decode cL_run 17 = .ok (.ireturn, 1) := by decide +kernel
theorem dL_load_0 : decode cL_load 0 = .ok (.aload_n 2, 1) := by decide +kernel
theorem dL_load_1 : decode cL_load 1 = .ok (.iconst 0, 1) := by decide +kernel
theorem dL_load_2 : decode cL_load 2 = .ok (.aload_n 0, 1) := by decide +kernel
theorem dL_load_3 : decode cL_load 3 = .ok (.iload_n 1, 1) := by decide +kernel
theorem dL_load_4 : decode cL_load 4 = .ok (.invokevirtual 7, 3) := by decide +kernel
theorem dL_load_12 : decode cL_load 12 = .ok (.astore_n 3, 1) := by decide +kernel
theorem dL_load_13 : decode cL_load 13 = .ok (.iconst 1, 1) := by decide +kernel
theorem dL_load_14 : decode cL_load 14 = .ok (.ireturn, 1) := by decide +kernel
theorem dL_load_7 : decode cL_load 7 = .ok (.i2l, 1) := by decide +kernel
theorem dL_load_8 : decode cL_load 8 = .ok (.lastore, 1) := by decide +kernel
theorem dL_load_9 : decode cL_load 9 = .ok (.goto 6, 3) := by decide +kernel
theorem dL_load_15 : decode cL_load 15 = .ok (.iconst 0, 1) := by decide +kernel
theorem dL_load_16 : decode cL_load 16 = .ok (.ireturn, 1) := by decide +kernel
