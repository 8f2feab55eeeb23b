theorem zw2298 : Cond.methodLink "TemplateHouseModel" 1 ⟨"java/lang/Object", "<init>", "()V"⟩ ∈ zT := zsub10 138 (by decide +kernel) (by decide +kernel)
theorem zw2469 : Cond.fieldLink "TemplateHouseModel" 7 "TemplateHouseModel" "ready" "[B" ∈ zT := zsub11 69 (by decide +kernel) (by decide +kernel)
theorem zw2470 : Cond.fieldLink "TemplateHouseModel" 13 "TemplateHouseModel" "tape" "[B" ∈ zT := zsub11 70 (by decide +kernel) (by decide +kernel)
theorem zw2299 : Cond.classLink "TemplateHouseModel" 16 "[[B" ∈ zT := zsub10 139 (by decide +kernel) (by decide +kernel)
theorem zw2472 : Cond.fieldLink "TemplateHouseModel" 18 "TemplateHouseModel" "files" "[[B" ∈ zT := zsub11 72 (by decide +kernel) (by decide +kernel)
theorem zw2473 : Cond.fieldLink "TemplateHouseModel" 21 "TemplateHouseModel" "fileSize" "[I" ∈ zT := zsub11 73 (by decide +kernel) (by decide +kernel)
theorem zw2300 : Cond.classLink "TemplateHouseModel" 25 "TemplateHouseModel$Group" ∈ zT := zsub10 140 (by decide +kernel) (by decide +kernel)
theorem zw2302 : Cond.instantiable "TemplateHouseModel$Group" 39 ∈ zT := zsub10 142 (by decide +kernel) (by decide +kernel)
theorem zw15 : Cond.initialized "TemplateHouseModel$Group" ∈ zT := zsub1 15 (by decide +kernel) (by decide +kernel)
theorem zw2306 : Cond.methodLink "TemplateHouseModel$Group" 3 ⟨"java/lang/Object", "<init>", "()V"⟩ ∈ zT := zsub10 146 (by decide +kernel) (by decide +kernel)
theorem zw2307 : Cond.constant "TemplateHouseModel$Group" 9 (50000 : Int32) ∈ zT := zsub10 147 (by decide +kernel) (by decide +kernel)
theorem zw2309 : Cond.fieldLink "TemplateHouseModel$Group" 10 "TemplateHouseModel$Group" "kind" "[I" ∈ zT := zsub10 149 (by decide +kernel) (by decide +kernel)
theorem zw2311 : Cond.fieldLink "TemplateHouseModel$Group" 16 "TemplateHouseModel$Group" "a" "[I" ∈ zT := zsub10 151 (by decide +kernel) (by decide +kernel)
theorem zw2313 : Cond.fieldLink "TemplateHouseModel$Group" 19 "TemplateHouseModel$Group" "b" "[I" ∈ zT := zsub10 153 (by decide +kernel) (by decide +kernel)
theorem zw2315 : Cond.fieldLink "TemplateHouseModel$Group" 22 "TemplateHouseModel$Group" "c" "[I" ∈ zT := zsub10 155 (by decide +kernel) (by decide +kernel)
theorem zw2317 : Cond.fieldLink "TemplateHouseModel$Group" 25 "TemplateHouseModel$Group" "d" "[I" ∈ zT := zsub10 157 (by decide +kernel) (by decide +kernel)
theorem zw2319 : Cond.fieldLink "TemplateHouseModel$Group" 28 "TemplateHouseModel$Group" "next" "[I" ∈ zT := zsub10 159 (by decide +kernel) (by decide +kernel)
theorem zw2321 : Cond.fieldLink "TemplateHouseModel$Group" 31 "TemplateHouseModel$Group" "place" "[I" ∈ zT := zsub10 161 (by decide +kernel) (by decide +kernel)
theorem zw2308 : Cond.constant "TemplateHouseModel$Group" 34 (60000 : Int32) ∈ zT := zsub10 148 (by decide +kernel) (by decide +kernel)
theorem zw2325 : Cond.fieldLink "TemplateHouseModel$Group" 35 "TemplateHouseModel$Group" "bytes" "[B" ∈ zT := zsub10 165 (by decide +kernel) (by decide +kernel)
theorem zw2329 : Cond.fieldLink "TemplateHouseModel$Group" 39 "TemplateHouseModel$Group" "nameAt" "[I" ∈ zT := zsub10 169 (by decide +kernel) (by decide +kernel)
theorem zw2331 : Cond.fieldLink "TemplateHouseModel$Group" 42 "TemplateHouseModel$Group" "nameSize" "[I" ∈ zT := zsub10 171 (by decide +kernel) (by decide +kernel)
theorem zw2337 : Cond.fieldLink "TemplateHouseModel$Group" 45 "TemplateHouseModel$Group" "defKind" "[I" ∈ zT := zsub10 177 (by decide +kernel) (by decide +kernel)
theorem zw2339 : Cond.fieldLink "TemplateHouseModel$Group" 48 "TemplateHouseModel$Group" "defName" "[I" ∈ zT := zsub10 179 (by decide +kernel) (by decide +kernel)
theorem zw2341 : Cond.fieldLink "TemplateHouseModel$Group" 51 "TemplateHouseModel$Group" "defOther" "[I" ∈ zT := zsub10 181 (by decide +kernel) (by decide +kernel)
theorem zw2343 : Cond.fieldLink "TemplateHouseModel$Group" 54 "TemplateHouseModel$Group" "defText" "[I" ∈ zT := zsub10 183 (by decide +kernel) (by decide +kernel)
theorem zw2345 : Cond.fieldLink "TemplateHouseModel$Group" 57 "TemplateHouseModel$Group" "defParams" "[I" ∈ zT := zsub10 185 (by decide +kernel) (by decide +kernel)
theorem zw2347 : Cond.fieldLink "TemplateHouseModel$Group" 60 "TemplateHouseModel$Group" "defMany" "[I" ∈ zT := zsub10 187 (by decide +kernel) (by decide +kernel)
theorem zw2349 : Cond.fieldLink "TemplateHouseModel$Group" 63 "TemplateHouseModel$Group" "defDefault" "[I" ∈ zT := zsub10 189 (by decide +kernel) (by decide +kernel)
theorem zw2351 : Cond.fieldLink "TemplateHouseModel$Group" 66 "TemplateHouseModel$Group" "defPlace" "[I" ∈ zT := zsub10 191 (by decide +kernel) (by decide +kernel)
theorem zw2353 : Cond.fieldLink "TemplateHouseModel$Group" 69 "TemplateHouseModel$Group" "defPlace2" "[I" ∈ zT := zsub10 193 (by decide +kernel) (by decide +kernel)
theorem zw2355 : Cond.fieldLink "TemplateHouseModel$Group" 72 "TemplateHouseModel$Group" "many" "[I" ∈ zT := zsub10 195 (by decide +kernel) (by decide +kernel)
theorem zw2357 : Cond.fieldLink "TemplateHouseModel$Group" 75 "TemplateHouseModel$Group" "imports" "[I" ∈ zT := zsub10 197 (by decide +kernel) (by decide +kernel)
theorem zw2359 : Cond.fieldLink "TemplateHouseModel$Group" 78 "TemplateHouseModel$Group" "importMany" "[I" ∈ zT := zsub10 199 (by decide +kernel) (by decide +kernel)
theorem zw2361 : Cond.fieldLink "TemplateHouseModel$Group" 81 "TemplateHouseModel$Group" "isRead" "[Z" ∈ zT := zsub10 201 (by decide +kernel) (by decide +kernel)
theorem zw2365 : Cond.fieldLink "TemplateHouseModel$Group" 85 "TemplateHouseModel$Group" "partDef" "[I" ∈ zT := zsub10 205 (by decide +kernel) (by decide +kernel)
theorem zw2367 : Cond.fieldLink "TemplateHouseModel$Group" 88 "TemplateHouseModel$Group" "partName" "[I" ∈ zT := zsub10 207 (by decide +kernel) (by decide +kernel)
theorem zw2369 : Cond.fieldLink "TemplateHouseModel$Group" 91 "TemplateHouseModel$Group" "partNode" "[I" ∈ zT := zsub10 209 (by decide +kernel) (by decide +kernel)
theorem zw2373 : Cond.fieldLink "TemplateHouseModel$Group" 94 "TemplateHouseModel$Group" "checkKind" "[I" ∈ zT := zsub10 213 (by decide +kernel) (by decide +kernel)
theorem zw2375 : Cond.fieldLink "TemplateHouseModel$Group" 97 "TemplateHouseModel$Group" "checkNode" "[I" ∈ zT := zsub10 215 (by decide +kernel) (by decide +kernel)
theorem zw2377 : Cond.fieldLink "TemplateHouseModel$Group" 100 "TemplateHouseModel$Group" "checkOf" "[I" ∈ zT := zsub10 217 (by decide +kernel) (by decide +kernel)
theorem zw2379 : Cond.fieldLink "TemplateHouseModel$Group" 103 "TemplateHouseModel$Group" "checkPlace" "[I" ∈ zT := zsub10 219 (by decide +kernel) (by decide +kernel)
theorem zw2381 : Cond.fieldLink "TemplateHouseModel$Group" 106 "TemplateHouseModel$Group" "checkFile" "[I" ∈ zT := zsub10 221 (by decide +kernel) (by decide +kernel)
theorem zw2303 : Cond.methodLinkNest "TemplateHouseModel" 27 ⟨"TemplateHouseModel$Group", "<init>", "()V"⟩ "TemplateHouseModel" ∈ zNest := zsubN10 143 (by decide +kernel) (by decide +kernel)
theorem zw2474 : Cond.fieldLink "TemplateHouseModel" 28 "TemplateHouseModel" "groups" "[LTemplateHouseModel$Group;" ∈ zT := zsub11 74 (by decide +kernel) (by decide +kernel)
theorem zw2487 : Cond.fieldLink "TemplateHouseModel" 32 "TemplateHouseModel" "onWay" "[Z" ∈ zT := zsub11 87 (by decide +kernel) (by decide +kernel)
theorem zw2493 : Cond.fieldLink "TemplateHouseModel" 36 "TemplateHouseModel" "tb" "[B" ∈ zT := zsub11 93 (by decide +kernel) (by decide +kernel)
theorem zw2494 : Cond.fieldLink "TemplateHouseModel" 39 "TemplateHouseModel" "tp" "[I" ∈ zT := zsub11 94 (by decide +kernel) (by decide +kernel)
theorem zw2499 : Cond.fieldLink "TemplateHouseModel" 42 "TemplateHouseModel" "inTemplate" "I" ∈ zT := zsub11 99 (by decide +kernel) (by decide +kernel)
theorem zw2500 : Cond.fieldLink "TemplateHouseModel" 46 "TemplateHouseModel" "inRegion" "I" ∈ zT := zsub11 100 (by decide +kernel) (by decide +kernel)
theorem zw2501 : Cond.fieldLink "TemplateHouseModel" 49 "TemplateHouseModel" "wordKind" "[I" ∈ zT := zsub11 101 (by decide +kernel) (by decide +kernel)
theorem zw2502 : Cond.fieldLink "TemplateHouseModel" 52 "TemplateHouseModel" "wordNode" "[I" ∈ zT := zsub11 102 (by decide +kernel) (by decide +kernel)
theorem zw2503 : Cond.fieldLink "TemplateHouseModel" 55 "TemplateHouseModel" "wordPlace" "[I" ∈ zT := zsub11 103 (by decide +kernel) (by decide +kernel)
theorem zw2504 : Cond.fieldLink "TemplateHouseModel" 58 "TemplateHouseModel" "gone" "[Z" ∈ zT := zsub11 104 (by decide +kernel) (by decide +kernel)
theorem zw2507 : Cond.fieldLink "TemplateHouseModel" 61 "TemplateHouseModel" "openKind" "[I" ∈ zT := zsub11 107 (by decide +kernel) (by decide +kernel)
theorem zw2513 : Cond.fieldLink "TemplateHouseModel" 64 "TemplateHouseModel" "valueKind" "[I" ∈ zT := zsub11 113 (by decide +kernel) (by decide +kernel)
theorem zw2514 : Cond.fieldLink "TemplateHouseModel" 67 "TemplateHouseModel" "number" "[J" ∈ zT := zsub11 114 (by decide +kernel) (by decide +kernel)
theorem zw2515 : Cond.fieldLink "TemplateHouseModel" 71 "TemplateHouseModel" "letters" "[B" ∈ zT := zsub11 115 (by decide +kernel) (by decide +kernel)
theorem zw2516 : Cond.fieldLink "TemplateHouseModel" 74 "TemplateHouseModel" "wordFrom" "[I" ∈ zT := zsub11 116 (by decide +kernel) (by decide +kernel)
theorem zw2517 : Cond.fieldLink "TemplateHouseModel" 77 "TemplateHouseModel" "wordSize" "[I" ∈ zT := zsub11 117 (by decide +kernel) (by decide +kernel)
theorem zw2518 : Cond.fieldLink "TemplateHouseModel" 80 "TemplateHouseModel" "many" "[I" ∈ zT := zsub11 118 (by decide +kernel) (by decide +kernel)
theorem zw2465 : Cond.constant "TemplateHouseModel" 83 (50000 : Int32) ∈ zT := zsub11 65 (by decide +kernel) (by decide +kernel)
theorem zw2519 : Cond.fieldLink "TemplateHouseModel" 84 "TemplateHouseModel" "listValue" "[I" ∈ zT := zsub11 119 (by decide +kernel) (by decide +kernel)
theorem zw2520 : Cond.fieldLink "TemplateHouseModel" 87 "TemplateHouseModel" "keyFrom" "[I" ∈ zT := zsub11 120 (by decide +kernel) (by decide +kernel)
theorem zw2521 : Cond.fieldLink "TemplateHouseModel" 90 "TemplateHouseModel" "keySize" "[I" ∈ zT := zsub11 121 (by decide +kernel) (by decide +kernel)
theorem zw2522 : Cond.fieldLink "TemplateHouseModel" 93 "TemplateHouseModel" "mapValue" "[I" ∈ zT := zsub11 122 (by decide +kernel) (by decide +kernel)
theorem zw2523 : Cond.fieldLink "TemplateHouseModel" 96 "TemplateHouseModel" "propertyFrom" "[I" ∈ zT := zsub11 123 (by decide +kernel) (by decide +kernel)
theorem zw2524 : Cond.fieldLink "TemplateHouseModel" 99 "TemplateHouseModel" "propertySize" "[I" ∈ zT := zsub11 124 (by decide +kernel) (by decide +kernel)
theorem zw2525 : Cond.fieldLink "TemplateHouseModel" 102 "TemplateHouseModel" "propertySort" "[I" ∈ zT := zsub11 125 (by decide +kernel) (by decide +kernel)
theorem zw2526 : Cond.fieldLink "TemplateHouseModel" 105 "TemplateHouseModel" "propertyValue" "[I" ∈ zT := zsub11 126 (by decide +kernel) (by decide +kernel)
theorem zw2528 : Cond.fieldLink "TemplateHouseModel" 108 "TemplateHouseModel" "addedFrom" "[I" ∈ zT := zsub11 128 (by decide +kernel) (by decide +kernel)
theorem zw2529 : Cond.fieldLink "TemplateHouseModel" 111 "TemplateHouseModel" "addedSize" "[I" ∈ zT := zsub11 129 (by decide +kernel) (by decide +kernel)
theorem zw2530 : Cond.fieldLink "TemplateHouseModel" 114 "TemplateHouseModel" "addedValue" "[I" ∈ zT := zsub11 130 (by decide +kernel) (by decide +kernel)
theorem zw2531 : Cond.fieldLink "TemplateHouseModel" 117 "TemplateHouseModel" "addedBytes" "[B" ∈ zT := zsub11 131 (by decide +kernel) (by decide +kernel)
theorem zw2536 : Cond.fieldLink "TemplateHouseModel" 120 "TemplateHouseModel" "out" "[B" ∈ zT := zsub11 136 (by decide +kernel) (by decide +kernel)
theorem zw2542 : Cond.fieldLink "TemplateHouseModel" 123 "TemplateHouseModel" "errorKind" "[I" ∈ zT := zsub11 142 (by decide +kernel) (by decide +kernel)
theorem zw2543 : Cond.fieldLink "TemplateHouseModel" 126 "TemplateHouseModel" "errorFile" "[I" ∈ zT := zsub11 143 (by decide +kernel) (by decide +kernel)
theorem zw2544 : Cond.fieldLink "TemplateHouseModel" 129 "TemplateHouseModel" "errorPlace" "[I" ∈ zT := zsub11 144 (by decide +kernel) (by decide +kernel)
theorem zw2545 : Cond.fieldLink "TemplateHouseModel" 132 "TemplateHouseModel" "lookBean" "[I" ∈ zT := zsub11 145 (by decide +kernel) (by decide +kernel)
theorem zw2546 : Cond.fieldLink "TemplateHouseModel" 135 "TemplateHouseModel" "lookOf" "[I" ∈ zT := zsub11 146 (by decide +kernel) (by decide +kernel)
theorem zw2551 : Cond.fieldLink "TemplateHouseModel" 138 "TemplateHouseModel" "instText" "[I" ∈ zT := zsub11 151 (by decide +kernel) (by decide +kernel)
theorem zw2552 : Cond.fieldLink "TemplateHouseModel" 141 "TemplateHouseModel" "instIn" "[I" ∈ zT := zsub11 152 (by decide +kernel) (by decide +kernel)
theorem zw2553 : Cond.fieldLink "TemplateHouseModel" 144 "TemplateHouseModel" "instFrom" "[I" ∈ zT := zsub11 153 (by decide +kernel) (by decide +kernel)
theorem zw2554 : Cond.fieldLink "TemplateHouseModel" 147 "TemplateHouseModel" "instMany" "[I" ∈ zT := zsub11 154 (by decide +kernel) (by decide +kernel)
theorem zw2556 : Cond.fieldLink "TemplateHouseModel" 150 "TemplateHouseModel" "attrName" "[I" ∈ zT := zsub11 156 (by decide +kernel) (by decide +kernel)
theorem zw2557 : Cond.fieldLink "TemplateHouseModel" 153 "TemplateHouseModel" "attrValue" "[J" ∈ zT := zsub11 157 (by decide +kernel) (by decide +kernel)
theorem zw2466 : Cond.constant "TemplateHouseModel" 156 (41000 : Int32) ∈ zT := zsub11 66 (by decide +kernel) (by decide +kernel)
theorem zw2558 : Cond.fieldLink "TemplateHouseModel" 157 "TemplateHouseModel" "wordBytes" "[B" ∈ zT := zsub11 158 (by decide +kernel) (by decide +kernel)
theorem zw2560 : Cond.fieldLink "TemplateHouseModel" 160 "TemplateHouseModel" "row" "[J" ∈ zT := zsub11 160 (by decide +kernel) (by decide +kernel)
theorem zw2562 : Cond.fieldLink "TemplateHouseModel" 163 "TemplateHouseModel" "pile" "[J" ∈ zT := zsub11 162 (by decide +kernel) (by decide +kernel)
theorem zw2569 : Cond.fieldLink "TemplateHouseModel" 166 "TemplateHouseModel" "plain" "[B" ∈ zT := zsub11 169 (by decide +kernel) (by decide +kernel)
theorem zw2572 : Cond.fieldLink "TemplateHouseModel" 169 "TemplateHouseModel" "columnOf" "[I" ∈ zT := zsub11 172 (by decide +kernel) (by decide +kernel)
theorem zw2573 : Cond.fieldLink "TemplateHouseModel" 172 "TemplateHouseModel" "sizeOfWord" "[I" ∈ zT := zsub11 173 (by decide +kernel) (by decide +kernel)
theorem zw2574 : Cond.fieldLink "TemplateHouseModel" 175 "TemplateHouseModel" "indentBase" "[I" ∈ zT := zsub11 174 (by decide +kernel) (by decide +kernel)
theorem zw2575 : Cond.fieldLink "TemplateHouseModel" 178 "TemplateHouseModel" "anchorBase" "[I" ∈ zT := zsub11 175 (by decide +kernel) (by decide +kernel)
theorem zw2576 : Cond.fieldLink "TemplateHouseModel" 181 "TemplateHouseModel" "putOut" "[J" ∈ zT := zsub11 176 (by decide +kernel) (by decide +kernel)
theorem zw2577 : Cond.fieldLink "TemplateHouseModel" 184 "TemplateHouseModel" "atBeginning" "[Z" ∈ zT := zsub11 177 (by decide +kernel) (by decide +kernel)
theorem zw2467 : Cond.constant "TemplateHouseModel" 187 (40000 : Int32) ∈ zT := zsub11 67 (by decide +kernel) (by decide +kernel)
theorem zw2578 : Cond.fieldLink "TemplateHouseModel" 188 "TemplateHouseModel" "wordOf" "[B" ∈ zT := zsub11 178 (by decide +kernel) (by decide +kernel)
theorem zw2581 : Cond.fieldLink "TemplateHouseModel" 191 "TemplateHouseModel" "indentFrom" "[I" ∈ zT := zsub11 181 (by decide +kernel) (by decide +kernel)
theorem zw2582 : Cond.fieldLink "TemplateHouseModel" 194 "TemplateHouseModel" "indentSize" "[I" ∈ zT := zsub11 182 (by decide +kernel) (by decide +kernel)
theorem zw2583 : Cond.fieldLink "TemplateHouseModel" 197 "TemplateHouseModel" "anchorAt" "[I" ∈ zT := zsub11 183 (by decide +kernel) (by decide +kernel)
theorem zw2584 : Cond.fieldLink "TemplateHouseModel" 200 "TemplateHouseModel" "counters" "[B" ∈ zT := zsub11 184 (by decide +kernel) (by decide +kernel)
theorem zw2587 : Cond.fieldLink "TemplateHouseModel" 203 "TemplateHouseModel" "condOf" "[I" ∈ zT := zsub11 187 (by decide +kernel) (by decide +kernel)
theorem zw2588 : Cond.fieldLink "TemplateHouseModel" 206 "TemplateHouseModel" "condAt" "[I" ∈ zT := zsub11 188 (by decide +kernel) (by decide +kernel)
theorem zw2591 : Cond.fieldLink "TemplateHouseModel" 209 "TemplateHouseModel" "separatorOf" "[J" ∈ zT := zsub11 191 (by decide +kernel) (by decide +kernel)
theorem zw2592 : Cond.fieldLink "TemplateHouseModel" 212 "TemplateHouseModel" "nullOf" "[J" ∈ zT := zsub11 192 (by decide +kernel) (by decide +kernel)
theorem zw2593 : Cond.fieldLink "TemplateHouseModel" 215 "TemplateHouseModel" "formatOf" "[I" ∈ zT := zsub11 193 (by decide +kernel) (by decide +kernel)
theorem zw2594 : Cond.fieldLink "TemplateHouseModel" 218 "TemplateHouseModel" "digitsOf" "[I" ∈ zT := zsub11 194 (by decide +kernel) (by decide +kernel)
theorem zw2595 : Cond.fieldLink "TemplateHouseModel" 221 "TemplateHouseModel" "wrapFrom" "[I" ∈ zT := zsub11 195 (by decide +kernel) (by decide +kernel)
theorem zw2596 : Cond.fieldLink "TemplateHouseModel" 224 "TemplateHouseModel" "wrapSize" "[I" ∈ zT := zsub11 196 (by decide +kernel) (by decide +kernel)
theorem zw2597 : Cond.fieldLink "TemplateHouseModel" 227 "TemplateHouseModel" "frameOf" "[J" ∈ zT := zsub11 197 (by decide +kernel) (by decide +kernel)
theorem zw2598 : Cond.fieldLink "TemplateHouseModel" 230 "TemplateHouseModel" "frameAt" "[I" ∈ zT := zsub11 198 (by decide +kernel) (by decide +kernel)
theorem zw2599 : Cond.fieldLink "TemplateHouseModel" 233 "TemplateHouseModel" "frameEnd" "[I" ∈ zT := zsub11 199 (by decide +kernel) (by decide +kernel)
theorem zw2600 : Cond.fieldLink "TemplateHouseModel" 236 "TemplateHouseModel" "frameFrom" "[I" ∈ zT := zsub11 200 (by decide +kernel) (by decide +kernel)
theorem zw2601 : Cond.fieldLink "TemplateHouseModel" 239 "TemplateHouseModel" "frameSeen" "[Z" ∈ zT := zsub11 201 (by decide +kernel) (by decide +kernel)
theorem zw2603 : Cond.fieldLink "TemplateHouseModel" 242 "TemplateHouseModel" "shaped" "[B" ∈ zT := zsub11 203 (by decide +kernel) (by decide +kernel)
theorem zw2605 : Cond.fieldLink "TemplateHouseModel" 245 "TemplateHouseModel" "addedName" "[I" ∈ zT := zsub11 205 (by decide +kernel) (by decide +kernel)
theorem zw2297 : Cond.code ⟨"TemplateHouseModel", "<init>", "()V"⟩ prog_15_method_1_code 1 (Option.none : Option Jvm.ClassFile.FieldType) ∈ zT := zsub10 137 rfl rfl
theorem zw14 : Cond.initialized "TemplateHouseModel" ∈ zT := zsub1 14 (by decide +kernel) (by decide +kernel)
theorem zw2296 : Cond.instanceMethod ⟨"TemplateHouseModel", "<init>", "()V"⟩ ∈ zT := zsub10 136 (by decide +kernel) (by decide +kernel)
theorem zw2305 : Cond.code ⟨"TemplateHouseModel$Group", "<init>", "()V"⟩ prog_16_method_1_code 1 (Option.none : Option Jvm.ClassFile.FieldType) ∈ zT := zsub10 145 rfl rfl
theorem zw2304 : Cond.instanceMethod ⟨"TemplateHouseModel$Group", "<init>", "()V"⟩ ∈ zT := zsub10 144 (by decide +kernel) (by decide +kernel)
abbrev cX14_init : ByteArray := prog_15_method_1_code
abbrev yX14_init : MethodName := ⟨"TemplateHouseModel", "<init>", "()V"⟩
theorem dmX14_init : zDi yX14_init cX14_init 1 0 := ⟨⟨⟨by decide +kernel, by decide +kernel, by decide +kernel⟩, zw2297, zw14⟩, rfl, zw2296⟩
abbrev cX13_init : ByteArray := prog_16_method_1_code
abbrev yX13_init : MethodName := ⟨"TemplateHouseModel$Group", "<init>", "()V"⟩
theorem dmX13_init : zDi yX13_init cX13_init 1 0 := ⟨⟨⟨by decide +kernel, by decide +kernel, by decide +kernel⟩, zw2305, zw15⟩, rfl, zw2304⟩
theorem dX14_init_0 : decode cX14_init 0 = .ok (.aload_n 0, 1) := by decide +kernel
theorem dX14_init_1 : decode cX14_init 1 = .ok (.invokespecial 1, 3) := by decide +kernel
theorem dX14_init_4 : decode cX14_init 4 = .ok (.aload_n 0, 1) := by decide +kernel
theorem dX14_init_5 : decode cX14_init 5 = .ok (.bipush 20, 2) := by decide +kernel
theorem dX14_init_7 : decode cX14_init 7 = .ok (.newarray .byte, 2) := by decide +kernel
theorem dX14_init_9 : decode cX14_init 9 = .ok (.putfield 7, 3) := by decide +kernel
theorem dX14_init_12 : decode cX14_init 12 = .ok (.aload_n 0, 1) := by decide +kernel
theorem dX14_init_13 : decode cX14_init 13 = .ok (.sipush 4000, 3) := by decide +kernel
theorem dX14_init_16 : decode cX14_init 16 = .ok (.newarray .byte, 2) := by decide +kernel
theorem dX14_init_18 : decode cX14_init 18 = .ok (.putfield 13, 3) := by decide +kernel
theorem dX14_init_21 : decode cX14_init 21 = .ok (.aload_n 0, 1) := by decide +kernel
theorem dX14_init_22 : decode cX14_init 22 = .ok (.bipush 8, 2) := by decide +kernel
theorem dX14_init_24 : decode cX14_init 24 = .ok (.sipush 4000, 3) := by decide +kernel
theorem dX14_init_27 : decode cX14_init 27 = .ok (.multianewarray 16 2, 4) := by decide +kernel
theorem dX14_init_31 : decode cX14_init 31 = .ok (.putfield 18, 3) := by decide +kernel
theorem dX14_init_34 : decode cX14_init 34 = .ok (.aload_n 0, 1) := by decide +kernel
theorem dX14_init_35 : decode cX14_init 35 = .ok (.bipush 8, 2) := by decide +kernel
theorem dX14_init_37 : decode cX14_init 37 = .ok (.newarray .int, 2) := by decide +kernel
theorem dX14_init_39 : decode cX14_init 39 = .ok (.putfield 21, 3) := by decide +kernel
theorem dX14_init_42 : decode cX14_init 42 = .ok (.aload_n 0, 1) := by decide +kernel
theorem dX14_init_43 : decode cX14_init 43 = .ok (.iconst 3, 1) := by decide +kernel
theorem dX14_init_44 : decode cX14_init 44 = .ok (.anewarray 25, 3) := by decide +kernel
theorem dX14_init_47 : decode cX14_init 47 = .ok (.dup, 1) := by decide +kernel
theorem dX14_init_48 : decode cX14_init 48 = .ok (.iconst 0, 1) := by decide +kernel
theorem dX14_init_49 : decode cX14_init 49 = .ok (.new 25, 3) := by decide +kernel
theorem dX14_init_52 : decode cX14_init 52 = .ok (.dup, 1) := by decide +kernel
theorem dX14_init_53 : decode cX14_init 53 = .ok (.invokespecial 27, 3) := by decide +kernel
theorem dX13_init_0 : decode cX13_init 0 = .ok (.aload_n 0, 1) := by decide +kernel
theorem dX13_init_1 : decode cX13_init 1 = .ok (.invokespecial 3, 3) := by decide +kernel
theorem dX13_init_4 : decode cX13_init 4 = .ok (.aload_n 0, 1) := by decide +kernel
theorem dX13_init_5 : decode cX13_init 5 = .ok (.ldc 9, 2) := by decide +kernel
theorem dX13_init_7 : decode cX13_init 7 = .ok (.newarray .int, 2) := by decide +kernel
theorem dX13_init_9 : decode cX13_init 9 = .ok (.putfield 10, 3) := by decide +kernel
theorem dX13_init_12 : decode cX13_init 12 = .ok (.aload_n 0, 1) := by decide +kernel
theorem dX13_init_13 : decode cX13_init 13 = .ok (.ldc 9, 2) := by decide +kernel
theorem dX13_init_15 : decode cX13_init 15 = .ok (.newarray .int, 2) := by decide +kernel
theorem dX13_init_17 : decode cX13_init 17 = .ok (.putfield 16, 3) := by decide +kernel
theorem dX13_init_20 : decode cX13_init 20 = .ok (.aload_n 0, 1) := by decide +kernel
theorem dX13_init_21 : decode cX13_init 21 = .ok (.ldc 9, 2) := by decide +kernel
theorem dX13_init_23 : decode cX13_init 23 = .ok (.newarray .int, 2) := by decide +kernel
theorem dX13_init_25 : decode cX13_init 25 = .ok (.putfield 19, 3) := by decide +kernel
theorem dX13_init_28 : decode cX13_init 28 = .ok (.aload_n 0, 1) := by decide +kernel
theorem dX13_init_29 : decode cX13_init 29 = .ok (.ldc 9, 2) := by decide +kernel
theorem dX13_init_31 : decode cX13_init 31 = .ok (.newarray .int, 2) := by decide +kernel
theorem dX13_init_33 : decode cX13_init 33 = .ok (.putfield 22, 3) := by decide +kernel
theorem dX13_init_36 : decode cX13_init 36 = .ok (.aload_n 0, 1) := by decide +kernel
theorem dX13_init_37 : decode cX13_init 37 = .ok (.ldc 9, 2) := by decide +kernel
theorem dX13_init_39 : decode cX13_init 39 = .ok (.newarray .int, 2) := by decide +kernel
theorem dX13_init_41 : decode cX13_init 41 = .ok (.putfield 25, 3) := by decide +kernel
theorem dX13_init_44 : decode cX13_init 44 = .ok (.aload_n 0, 1) := by decide +kernel
theorem dX13_init_45 : decode cX13_init 45 = .ok (.ldc 9, 2) := by decide +kernel
theorem dX13_init_47 : decode cX13_init 47 = .ok (.newarray .int, 2) := by decide +kernel
theorem dX13_init_49 : decode cX13_init 49 = .ok (.putfield 28, 3) := by decide +kernel
theorem dX13_init_52 : decode cX13_init 52 = .ok (.aload_n 0, 1) := by decide +kernel
theorem dX13_init_53 : decode cX13_init 53 = .ok (.ldc 9, 2) := by decide +kernel
theorem dX13_init_55 : decode cX13_init 55 = .ok (.newarray .int, 2) := by decide +kernel
theorem dX13_init_57 : decode cX13_init 57 = .ok (.putfield 31, 3) := by decide +kernel
theorem dX13_init_60 : decode cX13_init 60 = .ok (.aload_n 0, 1) := by decide +kernel
theorem dX13_init_61 : decode cX13_init 61 = .ok (.ldc 34, 2) := by decide +kernel
theorem dX13_init_63 : decode cX13_init 63 = .ok (.newarray .byte, 2) := by decide +kernel
theorem dX13_init_65 : decode cX13_init 65 = .ok (.putfield 35, 3) := by decide +kernel
theorem dX13_init_68 : decode cX13_init 68 = .ok (.aload_n 0, 1) := by decide +kernel
theorem dX13_init_69 : decode cX13_init 69 = .ok (.sipush 17000, 3) := by decide +kernel
theorem dX13_init_72 : decode cX13_init 72 = .ok (.newarray .int, 2) := by decide +kernel
theorem dX13_init_74 : decode cX13_init 74 = .ok (.putfield 39, 3) := by decide +kernel
theorem dX13_init_77 : decode cX13_init 77 = .ok (.aload_n 0, 1) := by decide +kernel
theorem dX13_init_78 : decode cX13_init 78 = .ok (.sipush 17000, 3) := by decide +kernel
theorem dX13_init_81 : decode cX13_init 81 = .ok (.newarray .int, 2) := by decide +kernel
theorem dX13_init_83 : decode cX13_init 83 = .ok (.putfield 42, 3) := by decide +kernel
theorem dX13_init_86 : decode cX13_init 86 = .ok (.aload_n 0, 1) := by decide +kernel
theorem dX13_init_87 : decode cX13_init 87 = .ok (.sipush 320, 3) := by decide +kernel
theorem dX13_init_90 : decode cX13_init 90 = .ok (.newarray .int, 2) := by decide +kernel
theorem dX13_init_92 : decode cX13_init 92 = .ok (.putfield 45, 3) := by decide +kernel
theorem dX13_init_95 : decode cX13_init 95 = .ok (.aload_n 0, 1) := by decide +kernel
theorem dX13_init_96 : decode cX13_init 96 = .ok (.sipush 320, 3) := by decide +kernel
theorem dX13_init_99 : decode cX13_init 99 = .ok (.newarray .int, 2) := by decide +kernel
theorem dX13_init_101 : decode cX13_init 101 = .ok (.putfield 48, 3) := by decide +kernel
theorem dX13_init_104 : decode cX13_init 104 = .ok (.aload_n 0, 1) := by decide +kernel
theorem dX13_init_105 : decode cX13_init 105 = .ok (.sipush 320, 3) := by decide +kernel
theorem dX13_init_108 : decode cX13_init 108 = .ok (.newarray .int, 2) := by decide +kernel
theorem dX13_init_110 : decode cX13_init 110 = .ok (.putfield 51, 3) := by decide +kernel
theorem dX13_init_113 : decode cX13_init 113 = .ok (.aload_n 0, 1) := by decide +kernel
theorem dX13_init_114 : decode cX13_init 114 = .ok (.sipush 320, 3) := by decide +kernel
theorem dX13_init_117 : decode cX13_init 117 = .ok (.newarray .int, 2) := by decide +kernel
theorem dX13_init_119 : decode cX13_init 119 = .ok (.putfield 54, 3) := by decide +kernel
theorem dX13_init_122 : decode cX13_init 122 = .ok (.aload_n 0, 1) := by decide +kernel
theorem dX13_init_123 : decode cX13_init 123 = .ok (.sipush 320, 3) := by decide +kernel
theorem dX13_init_126 : decode cX13_init 126 = .ok (.newarray .int, 2) := by decide +kernel
theorem dX13_init_128 : decode cX13_init 128 = .ok (.putfield 57, 3) := by decide +kernel
theorem dX13_init_131 : decode cX13_init 131 = .ok (.aload_n 0, 1) := by decide +kernel
theorem dX13_init_132 : decode cX13_init 132 = .ok (.sipush 320, 3) := by decide +kernel
theorem dX13_init_135 : decode cX13_init 135 = .ok (.newarray .int, 2) := by decide +kernel
theorem dX13_init_137 : decode cX13_init 137 = .ok (.putfield 60, 3) := by decide +kernel
theorem dX13_init_140 : decode cX13_init 140 = .ok (.aload_n 0, 1) := by decide +kernel
theorem dX13_init_141 : decode cX13_init 141 = .ok (.sipush 320, 3) := by decide +kernel
theorem dX13_init_144 : decode cX13_init 144 = .ok (.newarray .int, 2) := by decide +kernel
theorem dX13_init_146 : decode cX13_init 146 = .ok (.putfield 63, 3) := by decide +kernel
theorem dX13_init_149 : decode cX13_init 149 = .ok (.aload_n 0, 1) := by decide +kernel
theorem dX13_init_150 : decode cX13_init 150 = .ok (.sipush 320, 3) := by decide +kernel
theorem dX13_init_153 : decode cX13_init 153 = .ok (.newarray .int, 2) := by decide +kernel
theorem dX13_init_155 : decode cX13_init 155 = .ok (.putfield 66, 3) := by decide +kernel
theorem dX13_init_158 : decode cX13_init 158 = .ok (.aload_n 0, 1) := by decide +kernel
theorem dX13_init_159 : decode cX13_init 159 = .ok (.sipush 320, 3) := by decide +kernel
theorem dX13_init_162 : decode cX13_init 162 = .ok (.newarray .int, 2) := by decide +kernel
theorem dX13_init_164 : decode cX13_init 164 = .ok (.putfield 69, 3) := by decide +kernel
theorem dX13_init_167 : decode cX13_init 167 = .ok (.aload_n 0, 1) := by decide +kernel
theorem dX13_init_168 : decode cX13_init 168 = .ok (.bipush 8, 2) := by decide +kernel
theorem dX13_init_170 : decode cX13_init 170 = .ok (.newarray .int, 2) := by decide +kernel
theorem dX13_init_172 : decode cX13_init 172 = .ok (.putfield 72, 3) := by decide +kernel
theorem dX13_init_175 : decode cX13_init 175 = .ok (.aload_n 0, 1) := by decide +kernel
theorem dX13_init_176 : decode cX13_init 176 = .ok (.sipush 4000, 3) := by decide +kernel
theorem dX13_init_179 : decode cX13_init 179 = .ok (.newarray .int, 2) := by decide +kernel
theorem dX13_init_181 : decode cX13_init 181 = .ok (.putfield 75, 3) := by decide +kernel
theorem dX13_init_184 : decode cX13_init 184 = .ok (.aload_n 0, 1) := by decide +kernel
theorem dX13_init_185 : decode cX13_init 185 = .ok (.bipush 8, 2) := by decide +kernel
theorem dX13_init_187 : decode cX13_init 187 = .ok (.newarray .int, 2) := by decide +kernel
theorem dX13_init_189 : decode cX13_init 189 = .ok (.putfield 78, 3) := by decide +kernel
theorem dX13_init_192 : decode cX13_init 192 = .ok (.aload_n 0, 1) := by decide +kernel
theorem dX13_init_193 : decode cX13_init 193 = .ok (.bipush 8, 2) := by decide +kernel
theorem dX13_init_195 : decode cX13_init 195 = .ok (.newarray .boolean, 2) := by decide +kernel
theorem dX13_init_197 : decode cX13_init 197 = .ok (.putfield 81, 3) := by decide +kernel
theorem dX13_init_200 : decode cX13_init 200 = .ok (.aload_n 0, 1) := by decide +kernel
theorem dX13_init_201 : decode cX13_init 201 = .ok (.sipush 5400, 3) := by decide +kernel
theorem dX13_init_204 : decode cX13_init 204 = .ok (.newarray .int, 2) := by decide +kernel
theorem dX13_init_206 : decode cX13_init 206 = .ok (.putfield 85, 3) := by decide +kernel
theorem dX13_init_209 : decode cX13_init 209 = .ok (.aload_n 0, 1) := by decide +kernel
theorem dX13_init_210 : decode cX13_init 210 = .ok (.sipush 5400, 3) := by decide +kernel
theorem dX13_init_213 : decode cX13_init 213 = .ok (.newarray .int, 2) := by decide +kernel
theorem dX13_init_215 : decode cX13_init 215 = .ok (.putfield 88, 3) := by decide +kernel
theorem dX13_init_218 : decode cX13_init 218 = .ok (.aload_n 0, 1) := by decide +kernel
theorem dX13_init_219 : decode cX13_init 219 = .ok (.sipush 5400, 3) := by decide +kernel
theorem dX13_init_222 : decode cX13_init 222 = .ok (.newarray .int, 2) := by decide +kernel
theorem dX13_init_224 : decode cX13_init 224 = .ok (.putfield 91, 3) := by decide +kernel
theorem dX13_init_227 : decode cX13_init 227 = .ok (.aload_n 0, 1) := by decide +kernel
theorem dX13_init_228 : decode cX13_init 228 = .ok (.sipush 13000, 3) := by decide +kernel
theorem dX13_init_231 : decode cX13_init 231 = .ok (.newarray .int, 2) := by decide +kernel
theorem dX13_init_233 : decode cX13_init 233 = .ok (.putfield 94, 3) := by decide +kernel
theorem dX13_init_236 : decode cX13_init 236 = .ok (.aload_n 0, 1) := by decide +kernel
theorem dX13_init_237 : decode cX13_init 237 = .ok (.sipush 13000, 3) := by decide +kernel
theorem dX13_init_240 : decode cX13_init 240 = .ok (.newarray .int, 2) := by decide +kernel
theorem dX13_init_242 : decode cX13_init 242 = .ok (.putfield 97, 3) := by decide +kernel
theorem dX13_init_245 : decode cX13_init 245 = .ok (.aload_n 0, 1) := by decide +kernel
theorem dX13_init_246 : decode cX13_init 246 = .ok (.sipush 13000, 3) := by decide +kernel
theorem dX13_init_249 : decode cX13_init 249 = .ok (.newarray .int, 2) := by decide +kernel
theorem dX13_init_251 : decode cX13_init 251 = .ok (.putfield 100, 3) := by decide +kernel
theorem dX13_init_254 : decode cX13_init 254 = .ok (.aload_n 0, 1) := by decide +kernel
theorem dX13_init_255 : decode cX13_init 255 = .ok (.sipush 13000, 3) := by decide +kernel
theorem dX13_init_258 : decode cX13_init 258 = .ok (.newarray .int, 2) := by decide +kernel
theorem dX13_init_260 : decode cX13_init 260 = .ok (.putfield 103, 3) := by decide +kernel
theorem dX13_init_263 : decode cX13_init 263 = .ok (.aload_n 0, 1) := by decide +kernel
theorem dX13_init_264 : decode cX13_init 264 = .ok (.sipush 13000, 3) := by decide +kernel
theorem dX13_init_267 : decode cX13_init 267 = .ok (.newarray .int, 2) := by decide +kernel
theorem dX13_init_269 : decode cX13_init 269 = .ok (.putfield 106, 3) := by decide +kernel
theorem dX13_init_272 : decode cX13_init 272 = .ok (.return_, 1) := by decide +kernel
theorem dX14_init_56 : decode cX14_init 56 = .ok (.aastore, 1) := by decide +kernel
theorem dX14_init_57 : decode cX14_init 57 = .ok (.dup, 1) := by decide +kernel
theorem dX14_init_58 : decode cX14_init 58 = .ok (.iconst 1, 1) := by decide +kernel
theorem dX14_init_59 : decode cX14_init 59 = .ok (.new 25, 3) := by decide +kernel
theorem dX14_init_62 : decode cX14_init 62 = .ok (.dup, 1) := by decide +kernel
theorem dX14_init_63 : decode cX14_init 63 = .ok (.invokespecial 27, 3) := by decide +kernel
theorem dX14_init_66 : decode cX14_init 66 = .ok (.aastore, 1) := by decide +kernel
theorem dX14_init_67 : decode cX14_init 67 = .ok (.dup, 1) := by decide +kernel
theorem dX14_init_68 : decode cX14_init 68 = .ok (.iconst 2, 1) := by decide +kernel
theorem dX14_init_69 : decode cX14_init 69 = .ok (.new 25, 3) := by decide +kernel
theorem dX14_init_72 : decode cX14_init 72 = .ok (.dup, 1) := by decide +kernel
theorem dX14_init_73 : decode cX14_init 73 = .ok (.invokespecial 27, 3) := by decide +kernel
theorem dX14_init_76 : decode cX14_init 76 = .ok (.aastore, 1) := by decide +kernel
theorem dX14_init_77 : decode cX14_init 77 = .ok (.putfield 28, 3) := by decide +kernel
theorem dX14_init_80 : decode cX14_init 80 = .ok (.aload_n 0, 1) := by decide +kernel
theorem dX14_init_81 : decode cX14_init 81 = .ok (.bipush 8, 2) := by decide +kernel
theorem dX14_init_83 : decode cX14_init 83 = .ok (.newarray .boolean, 2) := by decide +kernel
theorem dX14_init_85 : decode cX14_init 85 = .ok (.putfield 32, 3) := by decide +kernel
theorem dX14_init_88 : decode cX14_init 88 = .ok (.aload_n 0, 1) := by decide +kernel
theorem dX14_init_89 : decode cX14_init 89 = .ok (.sipush 4001, 3) := by decide +kernel
theorem dX14_init_92 : decode cX14_init 92 = .ok (.newarray .byte, 2) := by decide +kernel
theorem dX14_init_94 : decode cX14_init 94 = .ok (.putfield 36, 3) := by decide +kernel
theorem dX14_init_97 : decode cX14_init 97 = .ok (.aload_n 0, 1) := by decide +kernel
theorem dX14_init_98 : decode cX14_init 98 = .ok (.sipush 4001, 3) := by decide +kernel
theorem dX14_init_101 : decode cX14_init 101 = .ok (.newarray .int, 2) := by decide +kernel
theorem dX14_init_103 : decode cX14_init 103 = .ok (.putfield 39, 3) := by decide +kernel
theorem dX14_init_106 : decode cX14_init 106 = .ok (.aload_n 0, 1) := by decide +kernel
theorem dX14_init_107 : decode cX14_init 107 = .ok (.iconst (-1), 1) := by decide +kernel
theorem dX14_init_108 : decode cX14_init 108 = .ok (.putfield 42, 3) := by decide +kernel
theorem dX14_init_111 : decode cX14_init 111 = .ok (.aload_n 0, 1) := by decide +kernel
theorem dX14_init_112 : decode cX14_init 112 = .ok (.iconst (-1), 1) := by decide +kernel
theorem dX14_init_113 : decode cX14_init 113 = .ok (.putfield 46, 3) := by decide +kernel
theorem dX14_init_116 : decode cX14_init 116 = .ok (.aload_n 0, 1) := by decide +kernel
theorem dX14_init_117 : decode cX14_init 117 = .ok (.sipush 9000, 3) := by decide +kernel
theorem dX14_init_120 : decode cX14_init 120 = .ok (.newarray .int, 2) := by decide +kernel
theorem dX14_init_122 : decode cX14_init 122 = .ok (.putfield 49, 3) := by decide +kernel
theorem dX14_init_125 : decode cX14_init 125 = .ok (.aload_n 0, 1) := by decide +kernel
theorem dX14_init_126 : decode cX14_init 126 = .ok (.sipush 9000, 3) := by decide +kernel
theorem dX14_init_129 : decode cX14_init 129 = .ok (.newarray .int, 2) := by decide +kernel
theorem dX14_init_131 : decode cX14_init 131 = .ok (.putfield 52, 3) := by decide +kernel
theorem dX14_init_134 : decode cX14_init 134 = .ok (.aload_n 0, 1) := by decide +kernel
theorem dX14_init_135 : decode cX14_init 135 = .ok (.sipush 9000, 3) := by decide +kernel
theorem dX14_init_138 : decode cX14_init 138 = .ok (.newarray .int, 2) := by decide +kernel
theorem dX14_init_140 : decode cX14_init 140 = .ok (.putfield 55, 3) := by decide +kernel
theorem dX14_init_143 : decode cX14_init 143 = .ok (.aload_n 0, 1) := by decide +kernel
theorem dX14_init_144 : decode cX14_init 144 = .ok (.sipush 9000, 3) := by decide +kernel
theorem dX14_init_147 : decode cX14_init 147 = .ok (.newarray .boolean, 2) := by decide +kernel
theorem dX14_init_149 : decode cX14_init 149 = .ok (.putfield 58, 3) := by decide +kernel
theorem dX14_init_152 : decode cX14_init 152 = .ok (.aload_n 0, 1) := by decide +kernel
theorem dX14_init_153 : decode cX14_init 153 = .ok (.bipush 64, 2) := by decide +kernel
theorem dX14_init_155 : decode cX14_init 155 = .ok (.newarray .int, 2) := by decide +kernel
theorem dX14_init_157 : decode cX14_init 157 = .ok (.putfield 61, 3) := by decide +kernel
theorem dX14_init_160 : decode cX14_init 160 = .ok (.aload_n 0, 1) := by decide +kernel
theorem dX14_init_161 : decode cX14_init 161 = .ok (.sipush 500, 3) := by decide +kernel
theorem dX14_init_164 : decode cX14_init 164 = .ok (.newarray .int, 2) := by decide +kernel
theorem dX14_init_166 : decode cX14_init 166 = .ok (.putfield 64, 3) := by decide +kernel
theorem dX14_init_169 : decode cX14_init 169 = .ok (.aload_n 0, 1) := by decide +kernel
theorem dX14_init_170 : decode cX14_init 170 = .ok (.sipush 500, 3) := by decide +kernel
theorem dX14_init_173 : decode cX14_init 173 = .ok (.newarray .long, 2) := by decide +kernel
theorem dX14_init_175 : decode cX14_init 175 = .ok (.putfield 67, 3) := by decide +kernel
theorem dX14_init_178 : decode cX14_init 178 = .ok (.aload_n 0, 1) := by decide +kernel
theorem dX14_init_179 : decode cX14_init 179 = .ok (.sipush 16000, 3) := by decide +kernel
theorem dX14_init_182 : decode cX14_init 182 = .ok (.newarray .byte, 2) := by decide +kernel
theorem dX14_init_184 : decode cX14_init 184 = .ok (.putfield 71, 3) := by decide +kernel
theorem dX14_init_187 : decode cX14_init 187 = .ok (.aload_n 0, 1) := by decide +kernel
theorem dX14_init_188 : decode cX14_init 188 = .ok (.sipush 500, 3) := by decide +kernel
theorem dX14_init_191 : decode cX14_init 191 = .ok (.newarray .int, 2) := by decide +kernel
theorem dX14_init_193 : decode cX14_init 193 = .ok (.putfield 74, 3) := by decide +kernel
theorem dX14_init_196 : decode cX14_init 196 = .ok (.aload_n 0, 1) := by decide +kernel
theorem dX14_init_197 : decode cX14_init 197 = .ok (.sipush 500, 3) := by decide +kernel
theorem dX14_init_200 : decode cX14_init 200 = .ok (.newarray .int, 2) := by decide +kernel
theorem dX14_init_202 : decode cX14_init 202 = .ok (.putfield 77, 3) := by decide +kernel
theorem dX14_init_205 : decode cX14_init 205 = .ok (.aload_n 0, 1) := by decide +kernel
theorem dX14_init_206 : decode cX14_init 206 = .ok (.sipush 500, 3) := by decide +kernel
theorem dX14_init_209 : decode cX14_init 209 = .ok (.newarray .int, 2) := by decide +kernel
theorem dX14_init_211 : decode cX14_init 211 = .ok (.putfield 80, 3) := by decide +kernel
theorem dX14_init_214 : decode cX14_init 214 = .ok (.aload_n 0, 1) := by decide +kernel
theorem dX14_init_215 : decode cX14_init 215 = .ok (.ldc 83, 2) := by decide +kernel
theorem dX14_init_217 : decode cX14_init 217 = .ok (.newarray .int, 2) := by decide +kernel
theorem dX14_init_219 : decode cX14_init 219 = .ok (.putfield 84, 3) := by decide +kernel
theorem dX14_init_222 : decode cX14_init 222 = .ok (.aload_n 0, 1) := by decide +kernel
theorem dX14_init_223 : decode cX14_init 223 = .ok (.sipush 25000, 3) := by decide +kernel
theorem dX14_init_226 : decode cX14_init 226 = .ok (.newarray .int, 2) := by decide +kernel
theorem dX14_init_228 : decode cX14_init 228 = .ok (.putfield 87, 3) := by decide +kernel
theorem dX14_init_231 : decode cX14_init 231 = .ok (.aload_n 0, 1) := by decide +kernel
theorem dX14_init_232 : decode cX14_init 232 = .ok (.sipush 25000, 3) := by decide +kernel
theorem dX14_init_235 : decode cX14_init 235 = .ok (.newarray .int, 2) := by decide +kernel
theorem dX14_init_237 : decode cX14_init 237 = .ok (.putfield 90, 3) := by decide +kernel
theorem dX14_init_240 : decode cX14_init 240 = .ok (.aload_n 0, 1) := by decide +kernel
theorem dX14_init_241 : decode cX14_init 241 = .ok (.sipush 25000, 3) := by decide +kernel
theorem dX14_init_244 : decode cX14_init 244 = .ok (.newarray .int, 2) := by decide +kernel
theorem dX14_init_246 : decode cX14_init 246 = .ok (.putfield 93, 3) := by decide +kernel
theorem dX14_init_249 : decode cX14_init 249 = .ok (.aload_n 0, 1) := by decide +kernel
theorem dX14_init_250 : decode cX14_init 250 = .ok (.sipush 6000, 3) := by decide +kernel
theorem dX14_init_253 : decode cX14_init 253 = .ok (.newarray .int, 2) := by decide +kernel
theorem dX14_init_255 : decode cX14_init 255 = .ok (.putfield 96, 3) := by decide +kernel
theorem dX14_init_258 : decode cX14_init 258 = .ok (.aload_n 0, 1) := by decide +kernel
theorem dX14_init_259 : decode cX14_init 259 = .ok (.sipush 6000, 3) := by decide +kernel
theorem dX14_init_262 : decode cX14_init 262 = .ok (.newarray .int, 2) := by decide +kernel
theorem dX14_init_264 : decode cX14_init 264 = .ok (.putfield 99, 3) := by decide +kernel
theorem dX14_init_267 : decode cX14_init 267 = .ok (.aload_n 0, 1) := by decide +kernel
theorem dX14_init_268 : decode cX14_init 268 = .ok (.sipush 6000, 3) := by decide +kernel
theorem dX14_init_271 : decode cX14_init 271 = .ok (.newarray .int, 2) := by decide +kernel
theorem dX14_init_273 : decode cX14_init 273 = .ok (.putfield 102, 3) := by decide +kernel
theorem dX14_init_276 : decode cX14_init 276 = .ok (.aload_n 0, 1) := by decide +kernel
theorem dX14_init_277 : decode cX14_init 277 = .ok (.sipush 6000, 3) := by decide +kernel
theorem dX14_init_280 : decode cX14_init 280 = .ok (.newarray .int, 2) := by decide +kernel
theorem dX14_init_282 : decode cX14_init 282 = .ok (.putfield 105, 3) := by decide +kernel
theorem dX14_init_285 : decode cX14_init 285 = .ok (.aload_n 0, 1) := by decide +kernel
theorem dX14_init_286 : decode cX14_init 286 = .ok (.bipush 40, 2) := by decide +kernel
theorem dX14_init_288 : decode cX14_init 288 = .ok (.newarray .int, 2) := by decide +kernel
theorem dX14_init_290 : decode cX14_init 290 = .ok (.putfield 108, 3) := by decide +kernel
theorem dX14_init_293 : decode cX14_init 293 = .ok (.aload_n 0, 1) := by decide +kernel
theorem dX14_init_294 : decode cX14_init 294 = .ok (.bipush 40, 2) := by decide +kernel
theorem dX14_init_296 : decode cX14_init 296 = .ok (.newarray .int, 2) := by decide +kernel
theorem dX14_init_298 : decode cX14_init 298 = .ok (.putfield 111, 3) := by decide +kernel
theorem dX14_init_301 : decode cX14_init 301 = .ok (.aload_n 0, 1) := by decide +kernel
theorem dX14_init_302 : decode cX14_init 302 = .ok (.bipush 40, 2) := by decide +kernel
theorem dX14_init_304 : decode cX14_init 304 = .ok (.newarray .int, 2) := by decide +kernel
theorem dX14_init_306 : decode cX14_init 306 = .ok (.putfield 114, 3) := by decide +kernel
theorem dX14_init_309 : decode cX14_init 309 = .ok (.aload_n 0, 1) := by decide +kernel
theorem dX14_init_310 : decode cX14_init 310 = .ok (.sipush 640, 3) := by decide +kernel
theorem dX14_init_313 : decode cX14_init 313 = .ok (.newarray .byte, 2) := by decide +kernel
theorem dX14_init_315 : decode cX14_init 315 = .ok (.putfield 117, 3) := by decide +kernel
theorem dX14_init_318 : decode cX14_init 318 = .ok (.aload_n 0, 1) := by decide +kernel
theorem dX14_init_319 : decode cX14_init 319 = .ok (.sipush 12000, 3) := by decide +kernel
theorem dX14_init_322 : decode cX14_init 322 = .ok (.newarray .byte, 2) := by decide +kernel
theorem dX14_init_324 : decode cX14_init 324 = .ok (.putfield 120, 3) := by decide +kernel
theorem dX14_init_327 : decode cX14_init 327 = .ok (.aload_n 0, 1) := by decide +kernel
theorem dX14_init_328 : decode cX14_init 328 = .ok (.sipush 400, 3) := by decide +kernel
theorem dX14_init_331 : decode cX14_init 331 = .ok (.newarray .int, 2) := by decide +kernel
theorem dX14_init_333 : decode cX14_init 333 = .ok (.putfield 123, 3) := by decide +kernel
theorem dX14_init_336 : decode cX14_init 336 = .ok (.aload_n 0, 1) := by decide +kernel
theorem dX14_init_337 : decode cX14_init 337 = .ok (.sipush 400, 3) := by decide +kernel
theorem dX14_init_340 : decode cX14_init 340 = .ok (.newarray .int, 2) := by decide +kernel
theorem dX14_init_342 : decode cX14_init 342 = .ok (.putfield 126, 3) := by decide +kernel
theorem dX14_init_345 : decode cX14_init 345 = .ok (.aload_n 0, 1) := by decide +kernel
theorem dX14_init_346 : decode cX14_init 346 = .ok (.sipush 400, 3) := by decide +kernel
theorem dX14_init_349 : decode cX14_init 349 = .ok (.newarray .int, 2) := by decide +kernel
theorem dX14_init_351 : decode cX14_init 351 = .ok (.putfield 129, 3) := by decide +kernel
theorem dX14_init_354 : decode cX14_init 354 = .ok (.aload_n 0, 1) := by decide +kernel
theorem dX14_init_355 : decode cX14_init 355 = .ok (.sipush 1000, 3) := by decide +kernel
theorem dX14_init_358 : decode cX14_init 358 = .ok (.newarray .int, 2) := by decide +kernel
theorem dX14_init_360 : decode cX14_init 360 = .ok (.putfield 132, 3) := by decide +kernel
theorem dX14_init_363 : decode cX14_init 363 = .ok (.aload_n 0, 1) := by decide +kernel
theorem dX14_init_364 : decode cX14_init 364 = .ok (.sipush 1000, 3) := by decide +kernel
theorem dX14_init_367 : decode cX14_init 367 = .ok (.newarray .int, 2) := by decide +kernel
theorem dX14_init_369 : decode cX14_init 369 = .ok (.putfield 135, 3) := by decide +kernel
theorem dX14_init_372 : decode cX14_init 372 = .ok (.aload_n 0, 1) := by decide +kernel
theorem dX14_init_373 : decode cX14_init 373 = .ok (.sipush 2001, 3) := by decide +kernel
theorem dX14_init_376 : decode cX14_init 376 = .ok (.newarray .int, 2) := by decide +kernel
theorem dX14_init_378 : decode cX14_init 378 = .ok (.putfield 138, 3) := by decide +kernel
theorem dX14_init_381 : decode cX14_init 381 = .ok (.aload_n 0, 1) := by decide +kernel
theorem dX14_init_382 : decode cX14_init 382 = .ok (.sipush 2001, 3) := by decide +kernel
theorem dX14_init_385 : decode cX14_init 385 = .ok (.newarray .int, 2) := by decide +kernel
theorem dX14_init_387 : decode cX14_init 387 = .ok (.putfield 141, 3) := by decide +kernel
theorem dX14_init_390 : decode cX14_init 390 = .ok (.aload_n 0, 1) := by decide +kernel
theorem dX14_init_391 : decode cX14_init 391 = .ok (.sipush 2001, 3) := by decide +kernel
theorem dX14_init_394 : decode cX14_init 394 = .ok (.newarray .int, 2) := by decide +kernel
theorem dX14_init_396 : decode cX14_init 396 = .ok (.putfield 144, 3) := by decide +kernel
theorem dX14_init_399 : decode cX14_init 399 = .ok (.aload_n 0, 1) := by decide +kernel
theorem dX14_init_400 : decode cX14_init 400 = .ok (.sipush 2001, 3) := by decide +kernel
theorem dX14_init_403 : decode cX14_init 403 = .ok (.newarray .int, 2) := by decide +kernel
theorem dX14_init_405 : decode cX14_init 405 = .ok (.putfield 147, 3) := by decide +kernel
theorem dX14_init_408 : decode cX14_init 408 = .ok (.aload_n 0, 1) := by decide +kernel
theorem dX14_init_409 : decode cX14_init 409 = .ok (.sipush 30000, 3) := by decide +kernel
theorem dX14_init_412 : decode cX14_init 412 = .ok (.newarray .int, 2) := by decide +kernel
theorem dX14_init_414 : decode cX14_init 414 = .ok (.putfield 150, 3) := by decide +kernel
theorem dX14_init_417 : decode cX14_init 417 = .ok (.aload_n 0, 1) := by decide +kernel
theorem dX14_init_418 : decode cX14_init 418 = .ok (.sipush 30000, 3) := by decide +kernel
theorem dX14_init_421 : decode cX14_init 421 = .ok (.newarray .long, 2) := by decide +kernel
theorem dX14_init_423 : decode cX14_init 423 = .ok (.putfield 153, 3) := by decide +kernel
theorem dX14_init_426 : decode cX14_init 426 = .ok (.aload_n 0, 1) := by decide +kernel
theorem dX14_init_427 : decode cX14_init 427 = .ok (.ldc 156, 2) := by decide +kernel
theorem dX14_init_429 : decode cX14_init 429 = .ok (.newarray .byte, 2) := by decide +kernel
theorem dX14_init_431 : decode cX14_init 431 = .ok (.putfield 157, 3) := by decide +kernel
theorem dX14_init_434 : decode cX14_init 434 = .ok (.aload_n 0, 1) := by decide +kernel
theorem dX14_init_435 : decode cX14_init 435 = .ok (.sipush 20001, 3) := by decide +kernel
theorem dX14_init_438 : decode cX14_init 438 = .ok (.newarray .long, 2) := by decide +kernel
theorem dX14_init_440 : decode cX14_init 440 = .ok (.putfield 160, 3) := by decide +kernel
theorem dX14_init_443 : decode cX14_init 443 = .ok (.aload_n 0, 1) := by decide +kernel
theorem dX14_init_444 : decode cX14_init 444 = .ok (.sipush 20000, 3) := by decide +kernel
theorem dX14_init_447 : decode cX14_init 447 = .ok (.newarray .long, 2) := by decide +kernel
theorem dX14_init_449 : decode cX14_init 449 = .ok (.putfield 163, 3) := by decide +kernel
theorem dX14_init_452 : decode cX14_init 452 = .ok (.aload_n 0, 1) := by decide +kernel
theorem dX14_init_453 : decode cX14_init 453 = .ok (.sipush 4100, 3) := by decide +kernel
theorem dX14_init_456 : decode cX14_init 456 = .ok (.newarray .byte, 2) := by decide +kernel
theorem dX14_init_458 : decode cX14_init 458 = .ok (.putfield 166, 3) := by decide +kernel
theorem dX14_init_461 : decode cX14_init 461 = .ok (.aload_n 0, 1) := by decide +kernel
theorem dX14_init_462 : decode cX14_init 462 = .ok (.bipush 40, 2) := by decide +kernel
theorem dX14_init_464 : decode cX14_init 464 = .ok (.newarray .int, 2) := by decide +kernel
theorem dX14_init_466 : decode cX14_init 466 = .ok (.putfield 169, 3) := by decide +kernel
theorem dX14_init_469 : decode cX14_init 469 = .ok (.aload_n 0, 1) := by decide +kernel
theorem dX14_init_470 : decode cX14_init 470 = .ok (.bipush 40, 2) := by decide +kernel
theorem dX14_init_472 : decode cX14_init 472 = .ok (.newarray .int, 2) := by decide +kernel
theorem dX14_init_474 : decode cX14_init 474 = .ok (.putfield 172, 3) := by decide +kernel
theorem dX14_init_477 : decode cX14_init 477 = .ok (.aload_n 0, 1) := by decide +kernel
theorem dX14_init_478 : decode cX14_init 478 = .ok (.bipush 40, 2) := by decide +kernel
theorem dX14_init_480 : decode cX14_init 480 = .ok (.newarray .int, 2) := by decide +kernel
theorem dX14_init_482 : decode cX14_init 482 = .ok (.putfield 175, 3) := by decide +kernel
theorem dX14_init_485 : decode cX14_init 485 = .ok (.aload_n 0, 1) := by decide +kernel
theorem dX14_init_486 : decode cX14_init 486 = .ok (.bipush 40, 2) := by decide +kernel
theorem dX14_init_488 : decode cX14_init 488 = .ok (.newarray .int, 2) := by decide +kernel
theorem dX14_init_490 : decode cX14_init 490 = .ok (.putfield 178, 3) := by decide +kernel
theorem dX14_init_493 : decode cX14_init 493 = .ok (.aload_n 0, 1) := by decide +kernel
theorem dX14_init_494 : decode cX14_init 494 = .ok (.bipush 40, 2) := by decide +kernel
theorem dX14_init_496 : decode cX14_init 496 = .ok (.newarray .long, 2) := by decide +kernel
theorem dX14_init_498 : decode cX14_init 498 = .ok (.putfield 181, 3) := by decide +kernel
theorem dX14_init_501 : decode cX14_init 501 = .ok (.aload_n 0, 1) := by decide +kernel
theorem dX14_init_502 : decode cX14_init 502 = .ok (.bipush 40, 2) := by decide +kernel
theorem dX14_init_504 : decode cX14_init 504 = .ok (.newarray .boolean, 2) := by decide +kernel
theorem dX14_init_506 : decode cX14_init 506 = .ok (.putfield 184, 3) := by decide +kernel
theorem dX14_init_509 : decode cX14_init 509 = .ok (.aload_n 0, 1) := by decide +kernel
theorem dX14_init_510 : decode cX14_init 510 = .ok (.ldc 187, 2) := by decide +kernel
theorem dX14_init_512 : decode cX14_init 512 = .ok (.newarray .byte, 2) := by decide +kernel
theorem dX14_init_514 : decode cX14_init 514 = .ok (.putfield 188, 3) := by decide +kernel
theorem dX14_init_517 : decode cX14_init 517 = .ok (.aload_n 0, 1) := by decide +kernel
theorem dX14_init_518 : decode cX14_init 518 = .ok (.sipush 4000, 3) := by decide +kernel
theorem dX14_init_521 : decode cX14_init 521 = .ok (.newarray .int, 2) := by decide +kernel
theorem dX14_init_523 : decode cX14_init 523 = .ok (.putfield 191, 3) := by decide +kernel
theorem dX14_init_526 : decode cX14_init 526 = .ok (.aload_n 0, 1) := by decide +kernel
theorem dX14_init_527 : decode cX14_init 527 = .ok (.sipush 4000, 3) := by decide +kernel
theorem dX14_init_530 : decode cX14_init 530 = .ok (.newarray .int, 2) := by decide +kernel
theorem dX14_init_532 : decode cX14_init 532 = .ok (.putfield 194, 3) := by decide +kernel
theorem dX14_init_535 : decode cX14_init 535 = .ok (.aload_n 0, 1) := by decide +kernel
theorem dX14_init_536 : decode cX14_init 536 = .ok (.sipush 4000, 3) := by decide +kernel
theorem dX14_init_539 : decode cX14_init 539 = .ok (.newarray .int, 2) := by decide +kernel
theorem dX14_init_541 : decode cX14_init 541 = .ok (.putfield 197, 3) := by decide +kernel
theorem dX14_init_544 : decode cX14_init 544 = .ok (.aload_n 0, 1) := by decide +kernel
theorem dX14_init_545 : decode cX14_init 545 = .ok (.iconst 2, 1) := by decide +kernel
theorem dX14_init_546 : decode cX14_init 546 = .ok (.newarray .byte, 2) := by decide +kernel
theorem dX14_init_548 : decode cX14_init 548 = .ok (.dup, 1) := by decide +kernel
theorem dX14_init_549 : decode cX14_init 549 = .ok (.iconst 0, 1) := by decide +kernel
theorem dX14_init_550 : decode cX14_init 550 = .ok (.bipush 105, 2) := by decide +kernel
theorem dX14_init_552 : decode cX14_init 552 = .ok (.bastore, 1) := by decide +kernel
theorem dX14_init_553 : decode cX14_init 553 = .ok (.dup, 1) := by decide +kernel
theorem dX14_init_554 : decode cX14_init 554 = .ok (.iconst 1, 1) := by decide +kernel
theorem dX14_init_555 : decode cX14_init 555 = .ok (.bipush 48, 2) := by decide +kernel
theorem dX14_init_557 : decode cX14_init 557 = .ok (.bastore, 1) := by decide +kernel
theorem dX14_init_558 : decode cX14_init 558 = .ok (.putfield 200, 3) := by decide +kernel
theorem dX14_init_561 : decode cX14_init 561 = .ok (.aload_n 0, 1) := by decide +kernel
theorem dX14_init_562 : decode cX14_init 562 = .ok (.sipush 3000, 3) := by decide +kernel
theorem dX14_init_565 : decode cX14_init 565 = .ok (.newarray .int, 2) := by decide +kernel
theorem dX14_init_567 : decode cX14_init 567 = .ok (.putfield 203, 3) := by decide +kernel
theorem dX14_init_570 : decode cX14_init 570 = .ok (.aload_n 0, 1) := by decide +kernel
theorem dX14_init_571 : decode cX14_init 571 = .ok (.sipush 3000, 3) := by decide +kernel
theorem dX14_init_574 : decode cX14_init 574 = .ok (.newarray .int, 2) := by decide +kernel
theorem dX14_init_576 : decode cX14_init 576 = .ok (.putfield 206, 3) := by decide +kernel
theorem dX14_init_579 : decode cX14_init 579 = .ok (.aload_n 0, 1) := by decide +kernel
theorem dX14_init_580 : decode cX14_init 580 = .ok (.sipush 200, 3) := by decide +kernel
theorem dX14_init_583 : decode cX14_init 583 = .ok (.newarray .long, 2) := by decide +kernel
theorem dX14_init_585 : decode cX14_init 585 = .ok (.putfield 209, 3) := by decide +kernel
theorem dX14_init_588 : decode cX14_init 588 = .ok (.aload_n 0, 1) := by decide +kernel
theorem dX14_init_589 : decode cX14_init 589 = .ok (.sipush 200, 3) := by decide +kernel
theorem dX14_init_592 : decode cX14_init 592 = .ok (.newarray .long, 2) := by decide +kernel
theorem dX14_init_594 : decode cX14_init 594 = .ok (.putfield 212, 3) := by decide +kernel
theorem dX14_init_597 : decode cX14_init 597 = .ok (.aload_n 0, 1) := by decide +kernel
theorem dX14_init_598 : decode cX14_init 598 = .ok (.sipush 200, 3) := by decide +kernel
theorem dX14_init_601 : decode cX14_init 601 = .ok (.newarray .int, 2) := by decide +kernel
theorem dX14_init_603 : decode cX14_init 603 = .ok (.putfield 215, 3) := by decide +kernel
theorem dX14_init_606 : decode cX14_init 606 = .ok (.aload_n 0, 1) := by decide +kernel
theorem dX14_init_607 : decode cX14_init 607 = .ok (.sipush 200, 3) := by decide +kernel
theorem dX14_init_610 : decode cX14_init 610 = .ok (.newarray .int, 2) := by decide +kernel
theorem dX14_init_612 : decode cX14_init 612 = .ok (.putfield 218, 3) := by decide +kernel
theorem dX14_init_615 : decode cX14_init 615 = .ok (.aload_n 0, 1) := by decide +kernel
theorem dX14_init_616 : decode cX14_init 616 = .ok (.sipush 200, 3) := by decide +kernel
theorem dX14_init_619 : decode cX14_init 619 = .ok (.newarray .int, 2) := by decide +kernel
theorem dX14_init_621 : decode cX14_init 621 = .ok (.putfield 221, 3) := by decide +kernel
theorem dX14_init_624 : decode cX14_init 624 = .ok (.aload_n 0, 1) := by decide +kernel
theorem dX14_init_625 : decode cX14_init 625 = .ok (.sipush 200, 3) := by decide +kernel
theorem dX14_init_628 : decode cX14_init 628 = .ok (.newarray .int, 2) := by decide +kernel
theorem dX14_init_630 : decode cX14_init 630 = .ok (.putfield 224, 3) := by decide +kernel
theorem dX14_init_633 : decode cX14_init 633 = .ok (.aload_n 0, 1) := by decide +kernel
theorem dX14_init_634 : decode cX14_init 634 = .ok (.sipush 2000, 3) := by decide +kernel
theorem dX14_init_637 : decode cX14_init 637 = .ok (.newarray .long, 2) := by decide +kernel
theorem dX14_init_639 : decode cX14_init 639 = .ok (.putfield 227, 3) := by decide +kernel
theorem dX14_init_642 : decode cX14_init 642 = .ok (.aload_n 0, 1) := by decide +kernel
theorem dX14_init_643 : decode cX14_init 643 = .ok (.sipush 2000, 3) := by decide +kernel
theorem dX14_init_646 : decode cX14_init 646 = .ok (.newarray .int, 2) := by decide +kernel
theorem dX14_init_648 : decode cX14_init 648 = .ok (.putfield 230, 3) := by decide +kernel
theorem dX14_init_651 : decode cX14_init 651 = .ok (.aload_n 0, 1) := by decide +kernel
theorem dX14_init_652 : decode cX14_init 652 = .ok (.sipush 2000, 3) := by decide +kernel
theorem dX14_init_655 : decode cX14_init 655 = .ok (.newarray .int, 2) := by decide +kernel
theorem dX14_init_657 : decode cX14_init 657 = .ok (.putfield 233, 3) := by decide +kernel
theorem dX14_init_660 : decode cX14_init 660 = .ok (.aload_n 0, 1) := by decide +kernel
theorem dX14_init_661 : decode cX14_init 661 = .ok (.sipush 2000, 3) := by decide +kernel
theorem dX14_init_664 : decode cX14_init 664 = .ok (.newarray .int, 2) := by decide +kernel
theorem dX14_init_666 : decode cX14_init 666 = .ok (.putfield 236, 3) := by decide +kernel
theorem dX14_init_669 : decode cX14_init 669 = .ok (.aload_n 0, 1) := by decide +kernel
theorem dX14_init_670 : decode cX14_init 670 = .ok (.sipush 2000, 3) := by decide +kernel
theorem dX14_init_673 : decode cX14_init 673 = .ok (.newarray .boolean, 2) := by decide +kernel
theorem dX14_init_675 : decode cX14_init 675 = .ok (.putfield 239, 3) := by decide +kernel
theorem dX14_init_678 : decode cX14_init 678 = .ok (.aload_n 0, 1) := by decide +kernel
theorem dX14_init_679 : decode cX14_init 679 = .ok (.sipush 25000, 3) := by decide +kernel
theorem dX14_init_682 : decode cX14_init 682 = .ok (.newarray .byte, 2) := by decide +kernel
theorem dX14_init_684 : decode cX14_init 684 = .ok (.putfield 242, 3) := by decide +kernel
theorem dX14_init_687 : decode cX14_init 687 = .ok (.aload_n 0, 1) := by decide +kernel
theorem dX14_init_688 : decode cX14_init 688 = .ok (.bipush 40, 2) := by decide +kernel
theorem dX14_init_690 : decode cX14_init 690 = .ok (.newarray .int, 2) := by decide +kernel
theorem dX14_init_692 : decode cX14_init 692 = .ok (.putfield 245, 3) := by decide +kernel
theorem dX14_init_695 : decode cX14_init 695 = .ok (.return_, 1) := by decide +kernel
theorem zd13 : ∀ j, j < 39 → defaultValue (tyX13 j) = vp_V [.null, .null, .null, .null, .null, .null, .null, .int 0, .null, .int 0, .null, .null, .int 0, .int 0, .int 0, .null, .null, .null, .null, .null, .null, .null, .null, .null, .null, .null, .null, .null, .int 0, .null, .null, .null, .int 0, .null, .null, .null, .null, .null, .int 0] j := zdef rfl
