theorem zw723 : Cond.fieldLink "TemplateHouse" 29 "TemplateHouse" "faultPlace" "I" ∈ zT := zsub4 3 (by decide +kernel) (by decide +kernel)
theorem zw722 : Cond.fieldLink "TemplateHouse" 26 "TemplateHouse" "faultFile" "I" ∈ zT := zsub4 2 (by decide +kernel) (by decide +kernel)
theorem zw721 : Cond.fieldLink "TemplateHouse" 23 "TemplateHouse" "faultNumber" "I" ∈ zT := zsub4 1 (by decide +kernel) (by decide +kernel)
theorem zw62 : Cond.fieldLink "TemplateHouse$Store" 36 "TemplateHouse$Store" "count" "I" ∈ zT := zsub1 62 (by decide +kernel) (by decide +kernel)
theorem zw65 : Cond.fieldLink "TemplateHouse$Store" 40 "TemplateHouse$Store" "used" "I" ∈ zT := zsub1 65 (by decide +kernel) (by decide +kernel)
theorem zw47 : Cond.fieldLink "TemplateHouse$Store" 9 "TemplateHouse$Store" "sort" "[I" ∈ zT := zsub1 47 (by decide +kernel) (by decide +kernel)
theorem zw803 : Cond.methodLinkNest "TemplateHouse$Store" 66 ⟨"TemplateHouse", "set", "([III)V"⟩ "TemplateHouse" ∈ zNest := zsubN4 83 (by decide +kernel) (by decide +kernel)
theorem zw49 : Cond.fieldLink "TemplateHouse$Store" 15 "TemplateHouse$Store" "much" "[J" ∈ zT := zsub1 49 (by decide +kernel) (by decide +kernel)
theorem zw51 : Cond.fieldLink "TemplateHouse$Store" 19 "TemplateHouse$Store" "from" "[I" ∈ zT := zsub1 51 (by decide +kernel) (by decide +kernel)
theorem zw53 : Cond.fieldLink "TemplateHouse$Store" 22 "TemplateHouse$Store" "length" "[I" ∈ zT := zsub1 53 (by decide +kernel) (by decide +kernel)
theorem zw55 : Cond.fieldLink "TemplateHouse$Store" 25 "TemplateHouse$Store" "size" "[I" ∈ zT := zsub1 55 (by decide +kernel) (by decide +kernel)
theorem zw60 : Cond.fieldLink "TemplateHouse$Store" 32 "TemplateHouse$Store" "bytes" "[B" ∈ zT := zsub1 60 (by decide +kernel) (by decide +kernel)
theorem zw822 : Cond.methodLinkNest "TemplateHouse$Store" 58 ⟨"TemplateHouse", "getByte", "([BI)I"⟩ "TemplateHouse" ∈ zNest := zsubN4 102 (by decide +kernel) (by decide +kernel)
theorem zw823 : Cond.methodLinkNest "TemplateHouse$Store" 62 ⟨"TemplateHouse", "setByte", "([BII)V"⟩ "TemplateHouse" ∈ zNest := zsubN4 103 (by decide +kernel) (by decide +kernel)
theorem zw844 : Cond.methodLinkNest "TemplateHouse$Store" 70 ⟨"TemplateHouse", "get", "([II)I"⟩ "TemplateHouse" ∈ zNest := zsubN4 124 (by decide +kernel) (by decide +kernel)
theorem zw847 : Cond.methodLink "TemplateHouse$Store" 82 ⟨"TemplateHouse$Store", "is", "(II)Z"⟩ ∈ zT := zsub4 127 (by decide +kernel) (by decide +kernel)
theorem zw851 : Cond.methodLink "TemplateHouse$Store" 85 ⟨"TemplateHouse$Store", "mayHave", "(II)Z"⟩ ∈ zT := zsub4 131 (by decide +kernel) (by decide +kernel)
theorem zw67 : Cond.fieldLink "TemplateHouse$Store" 43 "TemplateHouse$Store" "listed" "I" ∈ zT := zsub1 67 (by decide +kernel) (by decide +kernel)
theorem zw57 : Cond.fieldLink "TemplateHouse$Store" 29 "TemplateHouse$Store" "cells" "[I" ∈ zT := zsub1 57 (by decide +kernel) (by decide +kernel)
theorem zw725 : Cond.fieldLink "TemplateHouse" 35 "TemplateHouse" "state" "I" ∈ zT := zsub4 5 (by decide +kernel) (by decide +kernel)
theorem zw713 : Cond.fieldLink "TemplateHouse" 59 "TemplateHouse" "store" "LTemplateHouse$Store;" ∈ zT := zsub3 233 (by decide +kernel) (by decide +kernel)
theorem zw840 : Cond.methodLink "TemplateHouse" 177 ⟨"TemplateHouse$Store", "append", "(II)Z"⟩ ∈ zT := zsub4 120 (by decide +kernel) (by decide +kernel)
theorem zw74 : Cond.fieldLink "TemplateHouse$Store" 55 "TemplateHouse$Store" "addedCount" "I" ∈ zT := zsub1 74 (by decide +kernel) (by decide +kernel)
theorem zw70 : Cond.fieldLink "TemplateHouse$Store" 49 "TemplateHouse$Store" "addedLengths" "[I" ∈ zT := zsub1 70 (by decide +kernel) (by decide +kernel)
theorem zw72 : Cond.fieldLink "TemplateHouse$Store" 52 "TemplateHouse$Store" "addedValues" "[I" ∈ zT := zsub1 72 (by decide +kernel) (by decide +kernel)
theorem zw68 : Cond.fieldLink "TemplateHouse$Store" 46 "TemplateHouse$Store" "addedNames" "[B" ∈ zT := zsub1 68 (by decide +kernel) (by decide +kernel)
theorem zw887 : Cond.methodLink "TemplateHouse" 189 ⟨"TemplateHouse$Store", "addAttribute", "([BII)I"⟩ ∈ zT := zsub4 167 (by decide +kernel) (by decide +kernel)
theorem zw76 : Cond.fieldLink "TemplateHouse" 193 "TemplateHouse$Store" "addedCount" "I" ∈ zT := zsub1 76 (by decide +kernel) (by decide +kernel)
theorem zw724 : Cond.fieldLink "TemplateHouse" 32 "TemplateHouse" "wide" "I" ∈ zT := zsub4 4 (by decide +kernel) (by decide +kernel)
theorem zw482 : Cond.fieldLink "TemplateHouse$Teller" 16 "TemplateHouse$Teller" "counts" "[I" ∈ zT := zsub3 2 (by decide +kernel) (by decide +kernel)
theorem zw1795 : Cond.methodLink "TemplateHouse$Teller" 19 ⟨"java/util/Arrays", "fill", "([II)V"⟩ ∈ zT := zsub8 115 (by decide +kernel) (by decide +kernel)
theorem zw505 : Cond.fieldLink "TemplateHouse$Heap" 75 "TemplateHouse$Heap" "g" "LTemplateHouse$Gen;" ∈ zT := zsub3 25 (by decide +kernel) (by decide +kernel)
theorem zw513 : Cond.fieldLink "TemplateHouse$Heap" 24 "TemplateHouse$Heap" "made" "I" ∈ zT := zsub3 33 (by decide +kernel) (by decide +kernel)
theorem zw515 : Cond.fieldLink "TemplateHouse$Heap" 32 "TemplateHouse$Heap" "rowsEnd" "I" ∈ zT := zsub3 35 (by decide +kernel) (by decide +kernel)
theorem zw516 : Cond.fieldLink "TemplateHouse$Heap" 35 "TemplateHouse$Heap" "listed" "I" ∈ zT := zsub3 36 (by decide +kernel) (by decide +kernel)
theorem zw519 : Cond.fieldLink "TemplateHouse$Heap" 43 "TemplateHouse$Heap" "wordsEnd" "I" ∈ zT := zsub3 39 (by decide +kernel) (by decide +kernel)
theorem zw522 : Cond.fieldLink "TemplateHouse$Heap" 52 "TemplateHouse$Heap" "rootCount" "I" ∈ zT := zsub3 42 (by decide +kernel) (by decide +kernel)
theorem zw587 : Cond.fieldLink "TemplateHouse$Writer" 25 "TemplateHouse$Writer" "column" "I" ∈ zT := zsub3 107 (by decide +kernel) (by decide +kernel)
theorem zw589 : Cond.fieldLink "TemplateHouse$Writer" 28 "TemplateHouse$Writer" "atStart" "Z" ∈ zT := zsub3 109 (by decide +kernel) (by decide +kernel)
theorem zw591 : Cond.fieldLink "TemplateHouse$Writer" 32 "TemplateHouse$Writer" "puts" "I" ∈ zT := zsub3 111 (by decide +kernel) (by decide +kernel)
theorem zw597 : Cond.fieldLink "TemplateHouse$Writer" 42 "TemplateHouse$Writer" "wordLength" "I" ∈ zT := zsub3 117 (by decide +kernel) (by decide +kernel)
theorem zw603 : Cond.fieldLink "TemplateHouse$Writer" 51 "TemplateHouse$Writer" "indentEnd" "I" ∈ zT := zsub3 123 (by decide +kernel) (by decide +kernel)
theorem zw601 : Cond.fieldLink "TemplateHouse$Writer" 48 "TemplateHouse$Writer" "indentBase" "I" ∈ zT := zsub3 121 (by decide +kernel) (by decide +kernel)
theorem zw605 : Cond.fieldLink "TemplateHouse$Writer" 54 "TemplateHouse$Writer" "anchor" "I" ∈ zT := zsub3 125 (by decide +kernel) (by decide +kernel)
theorem zw248 : Cond.fieldLink "TemplateHouse$Writer" 61 "TemplateHouse$Gen" "pool" "[B" ∈ zT := zsub2 8 (by decide +kernel) (by decide +kernel)
theorem zw599 : Cond.fieldLink "TemplateHouse$Writer" 66 "TemplateHouse$Writer" "pool" "[B" ∈ zT := zsub3 119 (by decide +kernel) (by decide +kernel)
theorem zw584 : Cond.fieldLink "TemplateHouse$Writer" 18 "TemplateHouse$Writer" "length" "I" ∈ zT := zsub3 104 (by decide +kernel) (by decide +kernel)
theorem zw586 : Cond.fieldLink "TemplateHouse$Writer" 22 "TemplateHouse$Writer" "width" "I" ∈ zT := zsub3 106 (by decide +kernel) (by decide +kernel)
theorem zw593 : Cond.fieldLink "TemplateHouse$Writer" 35 "TemplateHouse$Writer" "level" "I" ∈ zT := zsub3 113 (by decide +kernel) (by decide +kernel)
theorem zw1804 : Cond.methodLink "TemplateHouse$Writer" 67 ⟨"TemplateHouse$Writer", "freshLine", "()V"⟩ ∈ zT := zsub8 124 (by decide +kernel) (by decide +kernel)
theorem zw657 : Cond.fieldLink "TemplateHouse$Maker" 48 "TemplateHouse$Maker" "separator" "I" ∈ zT := zsub3 177 (by decide +kernel) (by decide +kernel)
theorem zw658 : Cond.fieldLink "TemplateHouse$Maker" 51 "TemplateHouse$Maker" "ofNothing" "I" ∈ zT := zsub3 178 (by decide +kernel) (by decide +kernel)
theorem zw659 : Cond.fieldLink "TemplateHouse$Maker" 54 "TemplateHouse$Maker" "format" "I" ∈ zT := zsub3 179 (by decide +kernel) (by decide +kernel)
theorem zw660 : Cond.fieldLink "TemplateHouse$Maker" 57 "TemplateHouse$Maker" "wrap" "I" ∈ zT := zsub3 180 (by decide +kernel) (by decide +kernel)
theorem zw1820 : Cond.classLink "TemplateHouse$Heap" 79 "java/lang/IllegalStateException" ∈ zT := zsub8 140 (by decide +kernel) (by decide +kernel)
theorem zw506 : Cond.fieldLink "TemplateHouse$Heap" 9 "TemplateHouse$Heap" "text" "[I" ∈ zT := zsub3 26 (by decide +kernel) (by decide +kernel)
theorem zw508 : Cond.fieldLink "TemplateHouse$Heap" 15 "TemplateHouse$Heap" "parent" "[I" ∈ zT := zsub3 28 (by decide +kernel) (by decide +kernel)
theorem zw509 : Cond.fieldLink "TemplateHouse$Heap" 18 "TemplateHouse$Heap" "turn" "[I" ∈ zT := zsub3 29 (by decide +kernel) (by decide +kernel)
theorem zw504 : Cond.fieldLink "TemplateHouse$Heap" 71 "TemplateHouse$Heap" "teller" "LTemplateHouse$Teller;" ∈ zT := zsub3 24 (by decide +kernel) (by decide +kernel)
theorem zw483 : Cond.fieldLink "TemplateHouse$Heap" 82 "TemplateHouse$Teller" "counts" "[I" ∈ zT := zsub3 3 (by decide +kernel) (by decide +kernel)
theorem zw502 : Cond.fieldLink "TemplateHouse$Heap" 67 "TemplateHouse$Heap" "store" "LTemplateHouse$Store;" ∈ zT := zsub3 22 (by decide +kernel) (by decide +kernel)
theorem zw63 : Cond.fieldLink "TemplateHouse$Heap" 111 "TemplateHouse$Store" "count" "I" ∈ zT := zsub1 63 (by decide +kernel) (by decide +kernel)
theorem zw48 : Cond.fieldLink "TemplateHouse$Heap" 116 "TemplateHouse$Store" "sort" "[I" ∈ zT := zsub1 48 (by decide +kernel) (by decide +kernel)
theorem zw1847 : Cond.constant "TemplateHouse$Heap" 110 (-134217728 : Int32) ∈ zT := zsub8 167 (by decide +kernel) (by decide +kernel)
theorem zw1848 : Cond.constant "TemplateHouse$Heap" 91 (805306368 : Int32) ∈ zT := zsub8 168 (by decide +kernel) (by decide +kernel)
theorem zw1844 : Cond.methodLink "TemplateHouse$Heap" 119 ⟨"TemplateHouse$Heap", "sortOf", "(I)I"⟩ ∈ zT := zsub8 164 (by decide +kernel) (by decide +kernel)
theorem zw1851 : Cond.methodLink "TemplateHouse$Heap" 126 ⟨"TemplateHouse$Heap", "isMany", "(I)Z"⟩ ∈ zT := zsub8 171 (by decide +kernel) (by decide +kernel)
theorem zw56 : Cond.fieldLink "TemplateHouse$Heap" 130 "TemplateHouse$Store" "size" "[I" ∈ zT := zsub1 56 (by decide +kernel) (by decide +kernel)
theorem zw1850 : Cond.methodLinkNest "TemplateHouse$Heap" 122 ⟨"TemplateHouse", "get", "([II)I"⟩ "TemplateHouse" ∈ zNest := zsubN8 170 (by decide +kernel) (by decide +kernel)
theorem zw514 : Cond.fieldLink "TemplateHouse$Heap" 29 "TemplateHouse$Heap" "rows" "[I" ∈ zT := zsub3 34 (by decide +kernel) (by decide +kernel)
theorem zw1849 : Cond.constant "TemplateHouse$Heap" 100 (134217727 : Int32) ∈ zT := zsub8 169 (by decide +kernel) (by decide +kernel)
theorem zw58 : Cond.fieldLink "TemplateHouse$Heap" 133 "TemplateHouse$Store" "cells" "[I" ∈ zT := zsub1 58 (by decide +kernel) (by decide +kernel)
theorem zw1879 : Cond.methodLinkNest "TemplateHouse$Heap" 87 ⟨"TemplateHouse", "set", "([III)V"⟩ "TemplateHouse" ∈ zNest := zsubN8 199 (by decide +kernel) (by decide +kernel)
theorem zw644 : Cond.fieldLink "TemplateHouse$Maker" 83 "TemplateHouse$Maker" "heap" "LTemplateHouse$Heap;" ∈ zT := zsub3 164 (by decide +kernel) (by decide +kernel)
theorem zw1875 : Cond.methodLink "TemplateHouse$Maker" 233 ⟨"TemplateHouse$Heap", "put", "(III)V"⟩ ∈ zT := zsub8 195 (by decide +kernel) (by decide +kernel)
theorem zw1871 : Cond.methodLink "TemplateHouse$Maker" 230 ⟨"TemplateHouse$Heap", "valueOf", "(II)I"⟩ ∈ zT := zsub8 191 (by decide +kernel) (by decide +kernel)
theorem zw1840 : Cond.methodLink "TemplateHouse$Maker" 220 ⟨"TemplateHouse$Heap", "countOf", "(I)I"⟩ ∈ zT := zsub8 160 (by decide +kernel) (by decide +kernel)
theorem zw520 : Cond.fieldLink "TemplateHouse$Heap" 46 "TemplateHouse$Heap" "rootNames" "[I" ∈ zT := zsub3 40 (by decide +kernel) (by decide +kernel)
theorem zw521 : Cond.fieldLink "TemplateHouse$Heap" 49 "TemplateHouse$Heap" "rootValues" "[I" ∈ zT := zsub3 41 (by decide +kernel) (by decide +kernel)
theorem zw656 : Cond.fieldLink "TemplateHouse$Maker" 45 "TemplateHouse$Maker" "written" "I" ∈ zT := zsub3 176 (by decide +kernel) (by decide +kernel)
theorem zw1915 : Cond.constant "TemplateHouse$Maker" 308 (60000 : Int32) ∈ zT := zsub8 235 (by decide +kernel) (by decide +kernel)
theorem zw1790 : Cond.classLink "TemplateHouse$Maker" 134 "java/lang/IllegalStateException" ∈ zT := zsub8 110 (by decide +kernel) (by decide +kernel)
theorem zw649 : Cond.fieldLink "TemplateHouse$Maker" 24 "TemplateHouse$Maker" "begun" "I" ∈ zT := zsub3 169 (by decide +kernel) (by decide +kernel)
theorem zw648 : Cond.fieldLink "TemplateHouse$Maker" 21 "TemplateHouse$Maker" "frames" "[I" ∈ zT := zsub3 168 (by decide +kernel) (by decide +kernel)
theorem zw1921 : Cond.methodLink "TemplateHouse$Maker" 299 ⟨"TemplateHouse$Maker", "start", "(I)V"⟩ ∈ zT := zsub9 1 (by decide +kernel) (by decide +kernel)
theorem zw642 : Cond.fieldLink "TemplateHouse$Maker" 92 "TemplateHouse$Maker" "writer" "LTemplateHouse$Writer;" ∈ zT := zsub3 162 (by decide +kernel) (by decide +kernel)
theorem zw604 : Cond.fieldLink "TemplateHouse$Maker" 302 "TemplateHouse$Writer" "indentEnd" "I" ∈ zT := zsub3 124 (by decide +kernel) (by decide +kernel)
theorem zw606 : Cond.fieldLink "TemplateHouse$Maker" 296 "TemplateHouse$Writer" "anchor" "I" ∈ zT := zsub3 126 (by decide +kernel) (by decide +kernel)
theorem zw517 : Cond.fieldLink "TemplateHouse$Heap" 39 "TemplateHouse$Heap" "words" "[B" ∈ zT := zsub3 37 (by decide +kernel) (by decide +kernel)
theorem zw1978 : Cond.constant "TemplateHouse$Heap" 109 (536870912 : Int32) ∈ zT := zsub9 58 (by decide +kernel) (by decide +kernel)
theorem zw1976 : Cond.methodLinkNest "TemplateHouse$Heap" 101 ⟨"TemplateHouse", "getByte", "([BI)I"⟩ "TemplateHouse" ∈ zNest := zsubN9 56 (by decide +kernel) (by decide +kernel)
theorem zw1977 : Cond.methodLinkNest "TemplateHouse$Heap" 105 ⟨"TemplateHouse", "setByte", "([BII)V"⟩ "TemplateHouse" ∈ zNest := zsubN9 57 (by decide +kernel) (by decide +kernel)
theorem zw1739 : Cond.code ⟨"TemplateHouse$Checker", "tieParts", "()V"⟩ prog_2_method_17_code 6 (Option.none : Option Jvm.ClassFile.FieldType) ∈ zT := zsub8 59 rfl rfl
theorem zw1738 : Cond.instanceMethod ⟨"TemplateHouse$Checker", "tieParts", "()V"⟩ ∈ zT := zsub8 58 (by decide +kernel) (by decide +kernel)
theorem zwp18 : Cond.selects "TemplateHouse$Checker" ⟨"TemplateHouse$Checker", "tieParts", "()V"⟩ ⟨"TemplateHouse$Checker", "tieParts", "()V"⟩ ∈ zT := zin 18 (by decide +kernel) (by decide +kernel)
theorem zw794 : Cond.code ⟨"TemplateHouse", "fault", "(I)I"⟩ prog_1_method_8_code 2 (Option.some Jvm.ClassFile.FieldType.int) ∈ zT := zsub4 74 rfl rfl
theorem zw792 : Cond.instanceMethod ⟨"TemplateHouse", "fault", "(I)I"⟩ ∈ zT := zsub4 72 (by decide +kernel) (by decide +kernel)
theorem zw793 : Cond.selects "TemplateHouse" ⟨"TemplateHouse", "fault", "(I)I"⟩ ⟨"TemplateHouse", "fault", "(I)I"⟩ ∈ zT := zsub4 73 (by decide +kernel) (by decide +kernel)
theorem zw802 : Cond.code ⟨"TemplateHouse$Store", "make", "(IJI)I"⟩ prog_10_method_5_code 5 (Option.some Jvm.ClassFile.FieldType.int) ∈ zT := zsub4 82 rfl rfl
theorem zw2 : Cond.initialized "TemplateHouse$Store" ∈ zT := zsub1 2 (by decide +kernel) (by decide +kernel)
theorem zw800 : Cond.instanceMethod ⟨"TemplateHouse$Store", "make", "(IJI)I"⟩ ∈ zT := zsub4 80 (by decide +kernel) (by decide +kernel)
theorem zw801 : Cond.selects "TemplateHouse$Store" ⟨"TemplateHouse$Store", "make", "(IJI)I"⟩ ⟨"TemplateHouse$Store", "make", "(IJI)I"⟩ ∈ zT := zsub4 81 (by decide +kernel) (by decide +kernel)
theorem zw821 : Cond.code ⟨"TemplateHouse$Store", "takeBytes", "([BI)V"⟩ prog_10_method_6_code 4 (Option.none : Option Jvm.ClassFile.FieldType) ∈ zT := zsub4 101 rfl rfl
theorem zw819 : Cond.instanceMethod ⟨"TemplateHouse$Store", "takeBytes", "([BI)V"⟩ ∈ zT := zsub4 99 (by decide +kernel) (by decide +kernel)
theorem zw820 : Cond.selects "TemplateHouse$Store" ⟨"TemplateHouse$Store", "takeBytes", "([BI)V"⟩ ⟨"TemplateHouse$Store", "takeBytes", "([BI)V"⟩ ∈ zT := zsub4 100 (by decide +kernel) (by decide +kernel)
theorem zw850 : Cond.code ⟨"TemplateHouse$Store", "is", "(II)Z"⟩ prog_10_method_7_code 3 (Option.some Jvm.ClassFile.FieldType.boolean) ∈ zT := zsub4 130 rfl rfl
theorem zw848 : Cond.instanceMethod ⟨"TemplateHouse$Store", "is", "(II)Z"⟩ ∈ zT := zsub4 128 (by decide +kernel) (by decide +kernel)
theorem zw849 : Cond.selects "TemplateHouse$Store" ⟨"TemplateHouse$Store", "is", "(II)Z"⟩ ⟨"TemplateHouse$Store", "is", "(II)Z"⟩ ∈ zT := zsub4 129 (by decide +kernel) (by decide +kernel)
theorem zw854 : Cond.code ⟨"TemplateHouse$Store", "mayHave", "(II)Z"⟩ prog_10_method_8_code 3 (Option.some Jvm.ClassFile.FieldType.boolean) ∈ zT := zsub4 134 rfl rfl
theorem zw852 : Cond.instanceMethod ⟨"TemplateHouse$Store", "mayHave", "(II)Z"⟩ ∈ zT := zsub4 132 (by decide +kernel) (by decide +kernel)
theorem zw853 : Cond.selects "TemplateHouse$Store" ⟨"TemplateHouse$Store", "mayHave", "(II)Z"⟩ ⟨"TemplateHouse$Store", "mayHave", "(II)Z"⟩ ∈ zT := zsub4 133 (by decide +kernel) (by decide +kernel)
theorem zw843 : Cond.code ⟨"TemplateHouse$Store", "append", "(II)Z"⟩ prog_10_method_9_code 4 (Option.some Jvm.ClassFile.FieldType.boolean) ∈ zT := zsub4 123 rfl rfl
theorem zw841 : Cond.instanceMethod ⟨"TemplateHouse$Store", "append", "(II)Z"⟩ ∈ zT := zsub4 121 (by decide +kernel) (by decide +kernel)
theorem zw842 : Cond.selects "TemplateHouse$Store" ⟨"TemplateHouse$Store", "append", "(II)Z"⟩ ⟨"TemplateHouse$Store", "append", "(II)Z"⟩ ∈ zT := zsub4 122 (by decide +kernel) (by decide +kernel)
theorem zw839 : Cond.code ⟨"TemplateHouse", "add", "(II)Z"⟩ prog_1_method_16_code 3 (Option.some Jvm.ClassFile.FieldType.boolean) ∈ zT := zsub4 119 rfl rfl
theorem zw837 : Cond.instanceMethod ⟨"TemplateHouse", "add", "(II)Z"⟩ ∈ zT := zsub4 117 (by decide +kernel) (by decide +kernel)
theorem zw838 : Cond.selects "TemplateHouse" ⟨"TemplateHouse", "add", "(II)Z"⟩ ⟨"TemplateHouse", "add", "(II)Z"⟩ ∈ zT := zsub4 118 (by decide +kernel) (by decide +kernel)
theorem zw890 : Cond.code ⟨"TemplateHouse$Store", "addAttribute", "([BII)I"⟩ prog_10_method_2_code 5 (Option.some Jvm.ClassFile.FieldType.int) ∈ zT := zsub4 170 rfl rfl
theorem zw888 : Cond.instanceMethod ⟨"TemplateHouse$Store", "addAttribute", "([BII)I"⟩ ∈ zT := zsub4 168 (by decide +kernel) (by decide +kernel)
theorem zw889 : Cond.selects "TemplateHouse$Store" ⟨"TemplateHouse$Store", "addAttribute", "([BII)I"⟩ ⟨"TemplateHouse$Store", "addAttribute", "([BII)I"⟩ ∈ zT := zsub4 169 (by decide +kernel) (by decide +kernel)
theorem zw886 : Cond.code ⟨"TemplateHouse", "attribute", "(I)I"⟩ prog_1_method_19_code 3 (Option.some Jvm.ClassFile.FieldType.int) ∈ zT := zsub4 166 rfl rfl
theorem zw884 : Cond.instanceMethod ⟨"TemplateHouse", "attribute", "(I)I"⟩ ∈ zT := zsub4 164 (by decide +kernel) (by decide +kernel)
theorem zw885 : Cond.selects "TemplateHouse" ⟨"TemplateHouse", "attribute", "(I)I"⟩ ⟨"TemplateHouse", "attribute", "(I)I"⟩ ∈ zT := zsub4 165 (by decide +kernel) (by decide +kernel)
theorem zw894 : Cond.code ⟨"TemplateHouse", "clear", "()Z"⟩ prog_1_method_20_code 1 (Option.some Jvm.ClassFile.FieldType.boolean) ∈ zT := zsub4 174 rfl rfl
theorem zw892 : Cond.instanceMethod ⟨"TemplateHouse", "clear", "()Z"⟩ ∈ zT := zsub4 172 (by decide +kernel) (by decide +kernel)
theorem zw893 : Cond.selects "TemplateHouse" ⟨"TemplateHouse", "clear", "()Z"⟩ ⟨"TemplateHouse", "clear", "()Z"⟩ ∈ zT := zsub4 173 (by decide +kernel) (by decide +kernel)
theorem zw898 : Cond.code ⟨"TemplateHouse", "width", "(I)Z"⟩ prog_1_method_21_code 2 (Option.some Jvm.ClassFile.FieldType.boolean) ∈ zT := zsub4 178 rfl rfl
theorem zw896 : Cond.instanceMethod ⟨"TemplateHouse", "width", "(I)Z"⟩ ∈ zT := zsub4 176 (by decide +kernel) (by decide +kernel)
theorem zw897 : Cond.selects "TemplateHouse" ⟨"TemplateHouse", "width", "(I)Z"⟩ ⟨"TemplateHouse", "width", "(I)Z"⟩ ∈ zT := zsub4 177 (by decide +kernel) (by decide +kernel)
theorem zw1794 : Cond.code ⟨"TemplateHouse$Teller", "forget", "()V"⟩ prog_11_method_2_code 1 (Option.none : Option Jvm.ClassFile.FieldType) ∈ zT := zsub8 114 rfl rfl
theorem zw11 : Cond.initialized "TemplateHouse$Teller" ∈ zT := zsub1 11 (by decide +kernel) (by decide +kernel)
theorem zw1792 : Cond.instanceMethod ⟨"TemplateHouse$Teller", "forget", "()V"⟩ ∈ zT := zsub8 112 (by decide +kernel) (by decide +kernel)
theorem zw1793 : Cond.selects "TemplateHouse$Teller" ⟨"TemplateHouse$Teller", "forget", "()V"⟩ ⟨"TemplateHouse$Teller", "forget", "()V"⟩ ∈ zT := zsub8 113 (by decide +kernel) (by decide +kernel)
theorem zw1799 : Cond.code ⟨"TemplateHouse$Heap", "forget", "(LTemplateHouse$Gen;)V"⟩ prog_5_method_2_code 2 (Option.none : Option Jvm.ClassFile.FieldType) ∈ zT := zsub8 119 rfl rfl
theorem zw12 : Cond.initialized "TemplateHouse$Heap" ∈ zT := zsub1 12 (by decide +kernel) (by decide +kernel)
theorem zw1797 : Cond.instanceMethod ⟨"TemplateHouse$Heap", "forget", "(LTemplateHouse$Gen;)V"⟩ ∈ zT := zsub8 117 (by decide +kernel) (by decide +kernel)
theorem zw1798 : Cond.selects "TemplateHouse$Heap" ⟨"TemplateHouse$Heap", "forget", "(LTemplateHouse$Gen;)V"⟩ ⟨"TemplateHouse$Heap", "forget", "(LTemplateHouse$Gen;)V"⟩ ∈ zT := zsub8 118 (by decide +kernel) (by decide +kernel)
theorem zw1807 : Cond.code ⟨"TemplateHouse$Writer", "freshLine", "()V"⟩ prog_13_method_3_code 1 (Option.none : Option Jvm.ClassFile.FieldType) ∈ zT := zsub8 127 rfl rfl
theorem zw13 : Cond.initialized "TemplateHouse$Writer" ∈ zT := zsub1 13 (by decide +kernel) (by decide +kernel)
theorem zw1805 : Cond.instanceMethod ⟨"TemplateHouse$Writer", "freshLine", "()V"⟩ ∈ zT := zsub8 125 (by decide +kernel) (by decide +kernel)
theorem zw1806 : Cond.selects "TemplateHouse$Writer" ⟨"TemplateHouse$Writer", "freshLine", "()V"⟩ ⟨"TemplateHouse$Writer", "freshLine", "()V"⟩ ∈ zT := zsub8 126 (by decide +kernel) (by decide +kernel)
theorem zw1803 : Cond.code ⟨"TemplateHouse$Writer", "forget", "(LTemplateHouse$Gen;I)V"⟩ prog_13_method_2_code 3 (Option.none : Option Jvm.ClassFile.FieldType) ∈ zT := zsub8 123 rfl rfl
theorem zw1801 : Cond.instanceMethod ⟨"TemplateHouse$Writer", "forget", "(LTemplateHouse$Gen;I)V"⟩ ∈ zT := zsub8 121 (by decide +kernel) (by decide +kernel)
theorem zw1802 : Cond.selects "TemplateHouse$Writer" ⟨"TemplateHouse$Writer", "forget", "(LTemplateHouse$Gen;I)V"⟩ ⟨"TemplateHouse$Writer", "forget", "(LTemplateHouse$Gen;I)V"⟩ ∈ zT := zsub8 122 (by decide +kernel) (by decide +kernel)
theorem zw1811 : Cond.code ⟨"TemplateHouse$Maker", "plain", "()V"⟩ prog_7_method_3_code 1 (Option.none : Option Jvm.ClassFile.FieldType) ∈ zT := zsub8 131 rfl rfl
theorem zw10 : Cond.initialized "TemplateHouse$Maker" ∈ zT := zsub1 10 (by decide +kernel) (by decide +kernel)
theorem zw1810 : Cond.instanceMethod ⟨"TemplateHouse$Maker", "plain", "()V"⟩ ∈ zT := zsub8 130 (by decide +kernel) (by decide +kernel)
theorem zwp69 : Cond.selects "TemplateHouse$Maker" ⟨"TemplateHouse$Maker", "plain", "()V"⟩ ⟨"TemplateHouse$Maker", "plain", "()V"⟩ ∈ zT := zin 69 (by decide +kernel) (by decide +kernel)
theorem zw1819 : Cond.code ⟨"TemplateHouse$Heap", "make", "(III)I"⟩ prog_5_method_3_code 6 (Option.some Jvm.ClassFile.FieldType.int) ∈ zT := zsub8 139 rfl rfl
theorem zw1817 : Cond.instanceMethod ⟨"TemplateHouse$Heap", "make", "(III)I"⟩ ∈ zT := zsub8 137 (by decide +kernel) (by decide +kernel)
theorem zw1818 : Cond.selects "TemplateHouse$Heap" ⟨"TemplateHouse$Heap", "make", "(III)I"⟩ ⟨"TemplateHouse$Heap", "make", "(III)I"⟩ ∈ zT := zsub8 138 (by decide +kernel) (by decide +kernel)
theorem zw1839 : Cond.code ⟨"TemplateHouse$Heap", "isHouse", "(II)Z"⟩ prog_5_method_11_code 3 (Option.some Jvm.ClassFile.FieldType.boolean) ∈ zT := zsub8 159 rfl rfl
theorem zw1837 : Cond.instanceMethod ⟨"TemplateHouse$Heap", "isHouse", "(II)Z"⟩ ∈ zT := zsub8 157 (by decide +kernel) (by decide +kernel)
theorem zw1838 : Cond.selects "TemplateHouse$Heap" ⟨"TemplateHouse$Heap", "isHouse", "(II)Z"⟩ ⟨"TemplateHouse$Heap", "isHouse", "(II)Z"⟩ ∈ zT := zsub8 158 (by decide +kernel) (by decide +kernel)
theorem zw1846 : Cond.code ⟨"TemplateHouse$Heap", "sortOf", "(I)I"⟩ prog_5_method_10_code 1 (Option.some Jvm.ClassFile.FieldType.int) ∈ zT := zsub8 166 rfl rfl
theorem zw1845 : Cond.static ⟨"TemplateHouse$Heap", "sortOf", "(I)I"⟩ ∈ zT := zsub8 165 (by decide +kernel) (by decide +kernel)
theorem zw1854 : Cond.code ⟨"TemplateHouse$Heap", "isMany", "(I)Z"⟩ prog_5_method_12_code 2 (Option.some Jvm.ClassFile.FieldType.boolean) ∈ zT := zsub8 174 rfl rfl
theorem zw1852 : Cond.instanceMethod ⟨"TemplateHouse$Heap", "isMany", "(I)Z"⟩ ∈ zT := zsub8 172 (by decide +kernel) (by decide +kernel)
theorem zw1853 : Cond.selects "TemplateHouse$Heap" ⟨"TemplateHouse$Heap", "isMany", "(I)Z"⟩ ⟨"TemplateHouse$Heap", "isMany", "(I)Z"⟩ ∈ zT := zsub8 173 (by decide +kernel) (by decide +kernel)
theorem zw1843 : Cond.code ⟨"TemplateHouse$Heap", "countOf", "(I)I"⟩ prog_5_method_13_code 2 (Option.some Jvm.ClassFile.FieldType.int) ∈ zT := zsub8 163 rfl rfl
theorem zw1841 : Cond.instanceMethod ⟨"TemplateHouse$Heap", "countOf", "(I)I"⟩ ∈ zT := zsub8 161 (by decide +kernel) (by decide +kernel)
theorem zw1842 : Cond.selects "TemplateHouse$Heap" ⟨"TemplateHouse$Heap", "countOf", "(I)I"⟩ ⟨"TemplateHouse$Heap", "countOf", "(I)I"⟩ ∈ zT := zsub8 162 (by decide +kernel) (by decide +kernel)
theorem zw1862 : Cond.code ⟨"TemplateHouse$Heap", "counted", "(I)V"⟩ prog_5_method_5_code 2 (Option.none : Option Jvm.ClassFile.FieldType) ∈ zT := zsub8 182 rfl rfl
theorem zw1860 : Cond.instanceMethod ⟨"TemplateHouse$Heap", "counted", "(I)V"⟩ ∈ zT := zsub8 180 (by decide +kernel) (by decide +kernel)
theorem zw1861 : Cond.selects "TemplateHouse$Heap" ⟨"TemplateHouse$Heap", "counted", "(I)V"⟩ ⟨"TemplateHouse$Heap", "counted", "(I)V"⟩ ∈ zT := zsub8 181 (by decide +kernel) (by decide +kernel)
theorem zw1866 : Cond.code ⟨"TemplateHouse$Heap", "room", "(I)I"⟩ prog_5_method_6_code 3 (Option.some Jvm.ClassFile.FieldType.int) ∈ zT := zsub8 186 rfl rfl
theorem zw1864 : Cond.instanceMethod ⟨"TemplateHouse$Heap", "room", "(I)I"⟩ ∈ zT := zsub8 184 (by decide +kernel) (by decide +kernel)
theorem zw1865 : Cond.selects "TemplateHouse$Heap" ⟨"TemplateHouse$Heap", "room", "(I)I"⟩ ⟨"TemplateHouse$Heap", "room", "(I)I"⟩ ∈ zT := zsub8 185 (by decide +kernel) (by decide +kernel)
theorem zw1874 : Cond.code ⟨"TemplateHouse$Heap", "valueOf", "(II)I"⟩ prog_5_method_14_code 3 (Option.some Jvm.ClassFile.FieldType.int) ∈ zT := zsub8 194 rfl rfl
theorem zw1872 : Cond.instanceMethod ⟨"TemplateHouse$Heap", "valueOf", "(II)I"⟩ ∈ zT := zsub8 192 (by decide +kernel) (by decide +kernel)
theorem zw1873 : Cond.selects "TemplateHouse$Heap" ⟨"TemplateHouse$Heap", "valueOf", "(II)I"⟩ ⟨"TemplateHouse$Heap", "valueOf", "(II)I"⟩ ∈ zT := zsub8 193 (by decide +kernel) (by decide +kernel)
theorem zw1878 : Cond.code ⟨"TemplateHouse$Heap", "put", "(III)V"⟩ prog_5_method_8_code 4 (Option.none : Option Jvm.ClassFile.FieldType) ∈ zT := zsub8 198 rfl rfl
theorem zw1876 : Cond.instanceMethod ⟨"TemplateHouse$Heap", "put", "(III)V"⟩ ∈ zT := zsub8 196 (by decide +kernel) (by decide +kernel)
theorem zw1877 : Cond.selects "TemplateHouse$Heap" ⟨"TemplateHouse$Heap", "put", "(III)V"⟩ ⟨"TemplateHouse$Heap", "put", "(III)V"⟩ ∈ zT := zsub8 197 (by decide +kernel) (by decide +kernel)
theorem zw1870 : Cond.code ⟨"TemplateHouse$Maker", "spread", "(IIIZI)I"⟩ prog_7_method_7_code 9 (Option.some Jvm.ClassFile.FieldType.int) ∈ zT := zsub8 190 rfl rfl
theorem zw1869 : Cond.instanceMethod ⟨"TemplateHouse$Maker", "spread", "(IIIZI)I"⟩ ∈ zT := zsub8 189 (by decide +kernel) (by decide +kernel)
theorem zwp83 : Cond.selects "TemplateHouse$Maker" ⟨"TemplateHouse$Maker", "spread", "(IIIZI)I"⟩ ⟨"TemplateHouse$Maker", "spread", "(IIIZI)I"⟩ ∈ zT := zin 83 (by decide +kernel) (by decide +kernel)
theorem zw1886 : Cond.code ⟨"TemplateHouse$Heap", "addToRoot", "(II)V"⟩ prog_5_method_4_code 3 (Option.none : Option Jvm.ClassFile.FieldType) ∈ zT := zsub8 206 rfl rfl
theorem zw1884 : Cond.instanceMethod ⟨"TemplateHouse$Heap", "addToRoot", "(II)V"⟩ ∈ zT := zsub8 204 (by decide +kernel) (by decide +kernel)
theorem zw1885 : Cond.selects "TemplateHouse$Heap" ⟨"TemplateHouse$Heap", "addToRoot", "(II)V"⟩ ⟨"TemplateHouse$Heap", "addToRoot", "(II)V"⟩ ∈ zT := zsub8 205 (by decide +kernel) (by decide +kernel)
theorem zw1914 : Cond.code ⟨"TemplateHouse$Maker", "counted", "()V"⟩ prog_7_method_22_code 1 (Option.none : Option Jvm.ClassFile.FieldType) ∈ zT := zsub8 234 rfl rfl
theorem zw1913 : Cond.instanceMethod ⟨"TemplateHouse$Maker", "counted", "()V"⟩ ∈ zT := zsub8 233 (by decide +kernel) (by decide +kernel)
theorem zwp40 : Cond.selects "TemplateHouse$Maker" ⟨"TemplateHouse$Maker", "counted", "()V"⟩ ⟨"TemplateHouse$Maker", "counted", "()V"⟩ ∈ zT := zin 40 (by decide +kernel) (by decide +kernel)
theorem zw1924 : Cond.code ⟨"TemplateHouse$Maker", "start", "(I)V"⟩ prog_7_method_11_code 2 (Option.none : Option Jvm.ClassFile.FieldType) ∈ zT := zsub9 4 rfl rfl
theorem zw1923 : Cond.instanceMethod ⟨"TemplateHouse$Maker", "start", "(I)V"⟩ ∈ zT := zsub9 3 (by decide +kernel) (by decide +kernel)
theorem zwp84 : Cond.selects "TemplateHouse$Maker" ⟨"TemplateHouse$Maker", "start", "(I)V"⟩ ⟨"TemplateHouse$Maker", "start", "(I)V"⟩ ∈ zT := zin 84 (by decide +kernel) (by decide +kernel)
theorem zw1920 : Cond.code ⟨"TemplateHouse$Maker", "options", "()V"⟩ prog_7_method_20_code 1 (Option.none : Option Jvm.ClassFile.FieldType) ∈ zT := zsub9 0 rfl rfl
theorem zw1919 : Cond.instanceMethod ⟨"TemplateHouse$Maker", "options", "()V"⟩ ∈ zT := zsub8 239 (by decide +kernel) (by decide +kernel)
theorem zwp66 : Cond.selects "TemplateHouse$Maker" ⟨"TemplateHouse$Maker", "options", "()V"⟩ ⟨"TemplateHouse$Maker", "options", "()V"⟩ ∈ zT := zin 66 (by decide +kernel) (by decide +kernel)
theorem zw1935 : Cond.code ⟨"TemplateHouse$Teller", "noteError", "(III)V"⟩ prog_11_method_3_code 5 (Option.none : Option Jvm.ClassFile.FieldType) ∈ zT := zsub9 15 rfl rfl
theorem zw1933 : Cond.instanceMethod ⟨"TemplateHouse$Teller", "noteError", "(III)V"⟩ ∈ zT := zsub9 13 (by decide +kernel) (by decide +kernel)
theorem zw1934 : Cond.selects "TemplateHouse$Teller" ⟨"TemplateHouse$Teller", "noteError", "(III)V"⟩ ⟨"TemplateHouse$Teller", "noteError", "(III)V"⟩ ∈ zT := zsub9 14 (by decide +kernel) (by decide +kernel)
theorem zw1963 : Cond.code ⟨"TemplateHouse$Maker", "done", "()I"⟩ prog_7_method_12_code 1 (Option.some Jvm.ClassFile.FieldType.int) ∈ zT := zsub9 43 rfl rfl
theorem zw1962 : Cond.instanceMethod ⟨"TemplateHouse$Maker", "done", "()I"⟩ ∈ zT := zsub9 42 (by decide +kernel) (by decide +kernel)
theorem zwp42 : Cond.selects "TemplateHouse$Maker" ⟨"TemplateHouse$Maker", "done", "()I"⟩ ⟨"TemplateHouse$Maker", "done", "()I"⟩ ∈ zT := zin 42 (by decide +kernel) (by decide +kernel)
theorem zw1971 : Cond.code ⟨"TemplateHouse$Writer", "wordAt", "()I"⟩ prog_13_method_5_code 1 (Option.some Jvm.ClassFile.FieldType.int) ∈ zT := zsub9 51 rfl rfl
theorem zw1969 : Cond.instanceMethod ⟨"TemplateHouse$Writer", "wordAt", "()I"⟩ ∈ zT := zsub9 49 (by decide +kernel) (by decide +kernel)
theorem zw1970 : Cond.selects "TemplateHouse$Writer" ⟨"TemplateHouse$Writer", "wordAt", "()I"⟩ ⟨"TemplateHouse$Writer", "wordAt", "()I"⟩ ∈ zT := zsub9 50 (by decide +kernel) (by decide +kernel)
theorem zw1975 : Cond.code ⟨"TemplateHouse$Heap", "newWord", "([BII)I"⟩ prog_5_method_9_code 6 (Option.some Jvm.ClassFile.FieldType.int) ∈ zT := zsub9 55 rfl rfl
theorem zw1973 : Cond.instanceMethod ⟨"TemplateHouse$Heap", "newWord", "([BII)I"⟩ ∈ zT := zsub9 53 (by decide +kernel) (by decide +kernel)
theorem zw1974 : Cond.selects "TemplateHouse$Heap" ⟨"TemplateHouse$Heap", "newWord", "([BII)I"⟩ ⟨"TemplateHouse$Heap", "newWord", "([BII)I"⟩ ∈ zT := zsub9 54 (by decide +kernel) (by decide +kernel)
abbrev cX0_tieParts : ByteArray := prog_2_method_17_code
abbrev yX0_tieParts : MethodName := ⟨"TemplateHouse$Checker", "tieParts", "()V"⟩
theorem dmX0_tieParts : zDv yX0_tieParts cX0_tieParts 6 none 0 := ⟨⟨⟨by decide +kernel, by decide +kernel, by decide +kernel⟩, zw1739, zw9⟩, zw1738, zwp18⟩
abbrev cX12_fault : ByteArray := prog_1_method_8_code
abbrev yX12_fault : MethodName := ⟨"TemplateHouse", "fault", "(I)I"⟩
theorem dmX12_fault : zDv yX12_fault cX12_fault 2 (some .int) 1 := ⟨⟨⟨by decide +kernel, by decide +kernel, by decide +kernel⟩, zw794, zw1⟩, zw792, zw793⟩
abbrev cX8_make : ByteArray := prog_10_method_5_code
abbrev yX8_make : MethodName := ⟨"TemplateHouse$Store", "make", "(IJI)I"⟩
theorem dmX8_make : zDv yX8_make cX8_make 5 (some .int) 3 := ⟨⟨⟨by decide +kernel, by decide +kernel, by decide +kernel⟩, zw802, zw2⟩, zw800, zw801⟩
abbrev cX8_takeBytes : ByteArray := prog_10_method_6_code
abbrev yX8_takeBytes : MethodName := ⟨"TemplateHouse$Store", "takeBytes", "([BI)V"⟩
theorem dmX8_takeBytes : zDv yX8_takeBytes cX8_takeBytes 4 none 2 := ⟨⟨⟨by decide +kernel, by decide +kernel, by decide +kernel⟩, zw821, zw2⟩, zw819, zw820⟩
abbrev cX8_is : ByteArray := prog_10_method_7_code
abbrev yX8_is : MethodName := ⟨"TemplateHouse$Store", "is", "(II)Z"⟩
theorem dmX8_is : zDv yX8_is cX8_is 3 (some .boolean) 2 := ⟨⟨⟨by decide +kernel, by decide +kernel, by decide +kernel⟩, zw850, zw2⟩, zw848, zw849⟩
abbrev cX8_mayHave : ByteArray := prog_10_method_8_code
abbrev yX8_mayHave : MethodName := ⟨"TemplateHouse$Store", "mayHave", "(II)Z"⟩
theorem dmX8_mayHave : zDv yX8_mayHave cX8_mayHave 3 (some .boolean) 2 := ⟨⟨⟨by decide +kernel, by decide +kernel, by decide +kernel⟩, zw854, zw2⟩, zw852, zw853⟩
abbrev cX8_append : ByteArray := prog_10_method_9_code
abbrev yX8_append : MethodName := ⟨"TemplateHouse$Store", "append", "(II)Z"⟩
theorem dmX8_append : zDv yX8_append cX8_append 4 (some .boolean) 2 := ⟨⟨⟨by decide +kernel, by decide +kernel, by decide +kernel⟩, zw843, zw2⟩, zw841, zw842⟩
abbrev cX12_add : ByteArray := prog_1_method_16_code
abbrev yX12_add : MethodName := ⟨"TemplateHouse", "add", "(II)Z"⟩
theorem dmX12_add : zDv yX12_add cX12_add 3 (some .boolean) 2 := ⟨⟨⟨by decide +kernel, by decide +kernel, by decide +kernel⟩, zw839, zw1⟩, zw837, zw838⟩
abbrev cX8_addAttribute : ByteArray := prog_10_method_2_code
abbrev yX8_addAttribute : MethodName := ⟨"TemplateHouse$Store", "addAttribute", "([BII)I"⟩
theorem dmX8_addAttribute : zDv yX8_addAttribute cX8_addAttribute 5 (some .int) 3 := ⟨⟨⟨by decide +kernel, by decide +kernel, by decide +kernel⟩, zw890, zw2⟩, zw888, zw889⟩
abbrev cX12_attribute : ByteArray := prog_1_method_19_code
abbrev yX12_attribute : MethodName := ⟨"TemplateHouse", "attribute", "(I)I"⟩
theorem dmX12_attribute : zDv yX12_attribute cX12_attribute 3 (some .int) 1 := ⟨⟨⟨by decide +kernel, by decide +kernel, by decide +kernel⟩, zw886, zw1⟩, zw884, zw885⟩
abbrev cX12_clear : ByteArray := prog_1_method_20_code
abbrev yX12_clear : MethodName := ⟨"TemplateHouse", "clear", "()Z"⟩
theorem dmX12_clear : zDv yX12_clear cX12_clear 1 (some .boolean) 0 := ⟨⟨⟨by decide +kernel, by decide +kernel, by decide +kernel⟩, zw894, zw1⟩, zw892, zw893⟩
abbrev cX12_width : ByteArray := prog_1_method_21_code
abbrev yX12_width : MethodName := ⟨"TemplateHouse", "width", "(I)Z"⟩
theorem dmX12_width : zDv yX12_width cX12_width 2 (some .boolean) 1 := ⟨⟨⟨by decide +kernel, by decide +kernel, by decide +kernel⟩, zw898, zw1⟩, zw896, zw897⟩
abbrev cX9_forget : ByteArray := prog_11_method_2_code
abbrev yX9_forget : MethodName := ⟨"TemplateHouse$Teller", "forget", "()V"⟩
theorem dmX9_forget : zDv yX9_forget cX9_forget 1 none 0 := ⟨⟨⟨by decide +kernel, by decide +kernel, by decide +kernel⟩, zw1794, zw11⟩, zw1792, zw1793⟩
abbrev cX3_forget : ByteArray := prog_5_method_2_code
abbrev yX3_forget : MethodName := ⟨"TemplateHouse$Heap", "forget", "(LTemplateHouse$Gen;)V"⟩
theorem dmX3_forget : zDv yX3_forget cX3_forget 2 none 1 := ⟨⟨⟨by decide +kernel, by decide +kernel, by decide +kernel⟩, zw1799, zw12⟩, zw1797, zw1798⟩
abbrev cX11_freshLine : ByteArray := prog_13_method_3_code
abbrev yX11_freshLine : MethodName := ⟨"TemplateHouse$Writer", "freshLine", "()V"⟩
theorem dmX11_freshLine : zDv yX11_freshLine cX11_freshLine 1 none 0 := ⟨⟨⟨by decide +kernel, by decide +kernel, by decide +kernel⟩, zw1807, zw13⟩, zw1805, zw1806⟩
abbrev cX11_forget : ByteArray := prog_13_method_2_code
abbrev yX11_forget : MethodName := ⟨"TemplateHouse$Writer", "forget", "(LTemplateHouse$Gen;I)V"⟩
theorem dmX11_forget : zDv yX11_forget cX11_forget 3 none 2 := ⟨⟨⟨by decide +kernel, by decide +kernel, by decide +kernel⟩, zw1803, zw13⟩, zw1801, zw1802⟩
abbrev cX5_plain : ByteArray := prog_7_method_3_code
abbrev yX5_plain : MethodName := ⟨"TemplateHouse$Maker", "plain", "()V"⟩
theorem dmX5_plain : zDv yX5_plain cX5_plain 1 none 0 := ⟨⟨⟨by decide +kernel, by decide +kernel, by decide +kernel⟩, zw1811, zw10⟩, zw1810, zwp69⟩
abbrev cX3_make : ByteArray := prog_5_method_3_code
abbrev yX3_make : MethodName := ⟨"TemplateHouse$Heap", "make", "(III)I"⟩
theorem dmX3_make : zDv yX3_make cX3_make 6 (some .int) 3 := ⟨⟨⟨by decide +kernel, by decide +kernel, by decide +kernel⟩, zw1819, zw12⟩, zw1817, zw1818⟩
abbrev cX3_isHouse : ByteArray := prog_5_method_11_code
abbrev yX3_isHouse : MethodName := ⟨"TemplateHouse$Heap", "isHouse", "(II)Z"⟩
theorem dmX3_isHouse : zDv yX3_isHouse cX3_isHouse 3 (some .boolean) 2 := ⟨⟨⟨by decide +kernel, by decide +kernel, by decide +kernel⟩, zw1839, zw12⟩, zw1837, zw1838⟩
abbrev cX3_sortOf : ByteArray := prog_5_method_10_code
abbrev yX3_sortOf : MethodName := ⟨"TemplateHouse$Heap", "sortOf", "(I)I"⟩
theorem dmX3_sortOf : zDs yX3_sortOf cX3_sortOf 1 (some .int) 1 := ⟨⟨⟨by decide +kernel, by decide +kernel, by decide +kernel⟩, zw1846, zw12⟩, zw1845⟩
abbrev cX3_isMany : ByteArray := prog_5_method_12_code
abbrev yX3_isMany : MethodName := ⟨"TemplateHouse$Heap", "isMany", "(I)Z"⟩
theorem dmX3_isMany : zDv yX3_isMany cX3_isMany 2 (some .boolean) 1 := ⟨⟨⟨by decide +kernel, by decide +kernel, by decide +kernel⟩, zw1854, zw12⟩, zw1852, zw1853⟩
abbrev cX3_countOf : ByteArray := prog_5_method_13_code
abbrev yX3_countOf : MethodName := ⟨"TemplateHouse$Heap", "countOf", "(I)I"⟩
theorem dmX3_countOf : zDv yX3_countOf cX3_countOf 2 (some .int) 1 := ⟨⟨⟨by decide +kernel, by decide +kernel, by decide +kernel⟩, zw1843, zw12⟩, zw1841, zw1842⟩
abbrev cX3_counted : ByteArray := prog_5_method_5_code
abbrev yX3_counted : MethodName := ⟨"TemplateHouse$Heap", "counted", "(I)V"⟩
theorem dmX3_counted : zDv yX3_counted cX3_counted 2 none 1 := ⟨⟨⟨by decide +kernel, by decide +kernel, by decide +kernel⟩, zw1862, zw12⟩, zw1860, zw1861⟩
abbrev cX3_room : ByteArray := prog_5_method_6_code
abbrev yX3_room : MethodName := ⟨"TemplateHouse$Heap", "room", "(I)I"⟩
theorem dmX3_room : zDv yX3_room cX3_room 3 (some .int) 1 := ⟨⟨⟨by decide +kernel, by decide +kernel, by decide +kernel⟩, zw1866, zw12⟩, zw1864, zw1865⟩
abbrev cX3_valueOf : ByteArray := prog_5_method_14_code
abbrev yX3_valueOf : MethodName := ⟨"TemplateHouse$Heap", "valueOf", "(II)I"⟩
theorem dmX3_valueOf : zDv yX3_valueOf cX3_valueOf 3 (some .int) 2 := ⟨⟨⟨by decide +kernel, by decide +kernel, by decide +kernel⟩, zw1874, zw12⟩, zw1872, zw1873⟩
abbrev cX3_put : ByteArray := prog_5_method_8_code
abbrev yX3_put : MethodName := ⟨"TemplateHouse$Heap", "put", "(III)V"⟩
theorem dmX3_put : zDv yX3_put cX3_put 4 none 3 := ⟨⟨⟨by decide +kernel, by decide +kernel, by decide +kernel⟩, zw1878, zw12⟩, zw1876, zw1877⟩
abbrev cX5_spread : ByteArray := prog_7_method_7_code
abbrev yX5_spread : MethodName := ⟨"TemplateHouse$Maker", "spread", "(IIIZI)I"⟩
theorem dmX5_spread : zDv yX5_spread cX5_spread 9 (some .int) 5 := ⟨⟨⟨by decide +kernel, by decide +kernel, by decide +kernel⟩, zw1870, zw10⟩, zw1869, zwp83⟩
abbrev cX3_addToRoot : ByteArray := prog_5_method_4_code
abbrev yX3_addToRoot : MethodName := ⟨"TemplateHouse$Heap", "addToRoot", "(II)V"⟩
theorem dmX3_addToRoot : zDv yX3_addToRoot cX3_addToRoot 3 none 2 := ⟨⟨⟨by decide +kernel, by decide +kernel, by decide +kernel⟩, zw1886, zw12⟩, zw1884, zw1885⟩
abbrev cX5_counted : ByteArray := prog_7_method_22_code
abbrev yX5_counted : MethodName := ⟨"TemplateHouse$Maker", "counted", "()V"⟩
theorem dmX5_counted : zDv yX5_counted cX5_counted 1 none 0 := ⟨⟨⟨by decide +kernel, by decide +kernel, by decide +kernel⟩, zw1914, zw10⟩, zw1913, zwp40⟩
abbrev cX5_start : ByteArray := prog_7_method_11_code
abbrev yX5_start : MethodName := ⟨"TemplateHouse$Maker", "start", "(I)V"⟩
theorem dmX5_start : zDv yX5_start cX5_start 2 none 1 := ⟨⟨⟨by decide +kernel, by decide +kernel, by decide +kernel⟩, zw1924, zw10⟩, zw1923, zwp84⟩
abbrev cX5_options : ByteArray := prog_7_method_20_code
abbrev yX5_options : MethodName := ⟨"TemplateHouse$Maker", "options", "()V"⟩
theorem dmX5_options : zDv yX5_options cX5_options 1 none 0 := ⟨⟨⟨by decide +kernel, by decide +kernel, by decide +kernel⟩, zw1920, zw10⟩, zw1919, zwp66⟩
abbrev cX9_noteError : ByteArray := prog_11_method_3_code
abbrev yX9_noteError : MethodName := ⟨"TemplateHouse$Teller", "noteError", "(III)V"⟩
theorem dmX9_noteError : zDv yX9_noteError cX9_noteError 5 none 3 := ⟨⟨⟨by decide +kernel, by decide +kernel, by decide +kernel⟩, zw1935, zw11⟩, zw1933, zw1934⟩
abbrev cX5_done : ByteArray := prog_7_method_12_code
abbrev yX5_done : MethodName := ⟨"TemplateHouse$Maker", "done", "()I"⟩
theorem dmX5_done : zDv yX5_done cX5_done 1 (some .int) 0 := ⟨⟨⟨by decide +kernel, by decide +kernel, by decide +kernel⟩, zw1963, zw10⟩, zw1962, zwp42⟩
abbrev cX11_wordAt : ByteArray := prog_13_method_5_code
abbrev yX11_wordAt : MethodName := ⟨"TemplateHouse$Writer", "wordAt", "()I"⟩
theorem dmX11_wordAt : zDv yX11_wordAt cX11_wordAt 1 (some .int) 0 := ⟨⟨⟨by decide +kernel, by decide +kernel, by decide +kernel⟩, zw1971, zw13⟩, zw1969, zw1970⟩
abbrev cX3_newWord : ByteArray := prog_5_method_9_code
abbrev yX3_newWord : MethodName := ⟨"TemplateHouse$Heap", "newWord", "([BII)I"⟩
theorem dmX3_newWord : zDv yX3_newWord cX3_newWord 6 (some .int) 3 := ⟨⟨⟨by decide +kernel, by decide +kernel, by decide +kernel⟩, zw1975, zw12⟩, zw1973, zw1974⟩
theorem dX0_tieParts_0 : decode cX0_tieParts 0 = .ok (.aload_n 0, 1) := by decide +kernel
theorem dX0_tieParts_1 : decode cX0_tieParts 1 = .ok (.getfield 25, 3) := by decide +kernel
theorem dX0_tieParts_4 : decode cX0_tieParts 4 = .ok (.getfield 29, 3) := by decide +kernel
theorem dX0_tieParts_7 : decode cX0_tieParts 7 = .ok (.getfield 46, 3) := by decide +kernel
theorem dX0_tieParts_10 : decode cX0_tieParts 10 = .ok (.iconst 0, 1) := by decide +kernel
theorem dX0_tieParts_11 : decode cX0_tieParts 11 = .ok (.invokestatic 50, 3) := by decide +kernel
theorem dX0_tieParts_14 : decode cX0_tieParts 14 = .ok (.istore_n 1, 1) := by decide +kernel
theorem dX0_tieParts_15 : decode cX0_tieParts 15 = .ok (.iconst 0, 1) := by decide +kernel
theorem dX0_tieParts_16 : decode cX0_tieParts 16 = .ok (.istore_n 2, 1) := by decide +kernel
theorem dX0_tieParts_17 : decode cX0_tieParts 17 = .ok (.iload_n 2, 1) := by decide +kernel
theorem dX0_tieParts_18 : decode cX0_tieParts 18 = .ok (.aload_n 0, 1) := by decide +kernel
theorem dX0_tieParts_19 : decode cX0_tieParts 19 = .ok (.getfield 25, 3) := by decide +kernel
theorem dX0_tieParts_22 : decode cX0_tieParts 22 = .ok (.getfield 155, 3) := by decide +kernel
theorem dX0_tieParts_25 : decode cX0_tieParts 25 = .ok (.if_icmp .ge 127, 3) := by decide +kernel
theorem dX0_tieParts_152 : decode cX0_tieParts 152 = .ok (.return_, 1) := by decide +kernel
theorem dX0_tieParts_28 : decode cX0_tieParts 28 = .ok (.iload_n 2, 1) := by decide +kernel
theorem dX0_tieParts_29 : decode cX0_tieParts 29 = .ok (.bipush 6, 2) := by decide +kernel
theorem dX0_tieParts_31 : decode cX0_tieParts 31 = .ok (.imul, 1) := by decide +kernel
theorem dX0_tieParts_32 : decode cX0_tieParts 32 = .ok (.istore_n 3, 1) := by decide +kernel
theorem dX0_tieParts_33 : decode cX0_tieParts 33 = .ok (.aload_n 0, 1) := by decide +kernel
theorem dX0_tieParts_34 : decode cX0_tieParts 34 = .ok (.getfield 25, 3) := by decide +kernel
theorem dX0_tieParts_37 : decode cX0_tieParts 37 = .ok (.getfield 158, 3) := by decide +kernel
theorem dX0_tieParts_40 : decode cX0_tieParts 40 = .ok (.iload_n 3, 1) := by decide +kernel
theorem dX0_tieParts_41 : decode cX0_tieParts 41 = .ok (.iconst 4, 1) := by decide +kernel
theorem dX0_tieParts_42 : decode cX0_tieParts 42 = .ok (.iadd, 1) := by decide +kernel
theorem dX0_tieParts_43 : decode cX0_tieParts 43 = .ok (.invokestatic 50, 3) := by decide +kernel
theorem dX0_tieParts_46 : decode cX0_tieParts 46 = .ok (.iconst 1, 1) := by decide +kernel
theorem dX0_tieParts_47 : decode cX0_tieParts 47 = .ok (.if_icmp .ne 7, 3) := by decide +kernel
theorem dX0_tieParts_55 : decode cX0_tieParts 55 = .ok (.istore 4, 2) := by decide +kernel
theorem dX0_tieParts_57 : decode cX0_tieParts 57 = .ok (.aload_n 0, 1) := by decide +kernel
theorem dX0_tieParts_58 : decode cX0_tieParts 58 = .ok (.iload 4, 2) := by decide +kernel
theorem dX0_tieParts_60 : decode cX0_tieParts 60 = .ok (.ifCond .eq 17, 3) := by decide +kernel
theorem dX0_tieParts_78 : decode cX0_tieParts 78 = .ok (.iload 4, 2) := by decide +kernel
theorem dX0_tieParts_80 : decode cX0_tieParts 80 = .ok (.ifCond .eq 7, 3) := by decide +kernel
theorem dX0_tieParts_88 : decode cX0_tieParts 88 = .ok (.aload_n 0, 1) := by decide +kernel
theorem dX0_tieParts_89 : decode cX0_tieParts 89 = .ok (.getfield 25, 3) := by decide +kernel
theorem dX0_tieParts_92 : decode cX0_tieParts 92 = .ok (.getfield 158, 3) := by decide +kernel
theorem dX0_tieParts_95 : decode cX0_tieParts 95 = .ok (.iload_n 3, 1) := by decide +kernel
theorem dX0_tieParts_96 : decode cX0_tieParts 96 = .ok (.iconst 1, 1) := by decide +kernel
theorem dX0_tieParts_97 : decode cX0_tieParts 97 = .ok (.iadd, 1) := by decide +kernel
theorem dX0_tieParts_98 : decode cX0_tieParts 98 = .ok (.invokestatic 50, 3) := by decide +kernel
theorem dX0_tieParts_101 : decode cX0_tieParts 101 = .ok (.aload_n 0, 1) := by decide +kernel
theorem dX0_tieParts_102 : decode cX0_tieParts 102 = .ok (.getfield 25, 3) := by decide +kernel
theorem dX0_tieParts_105 : decode cX0_tieParts 105 = .ok (.getfield 158, 3) := by decide +kernel
theorem dX0_tieParts_108 : decode cX0_tieParts 108 = .ok (.iload_n 3, 1) := by decide +kernel
theorem dX0_tieParts_109 : decode cX0_tieParts 109 = .ok (.iconst 2, 1) := by decide +kernel
theorem dX0_tieParts_110 : decode cX0_tieParts 110 = .ok (.iadd, 1) := by decide +kernel
theorem dX0_tieParts_111 : decode cX0_tieParts 111 = .ok (.invokestatic 50, 3) := by decide +kernel
theorem dX0_tieParts_114 : decode cX0_tieParts 114 = .ok (.invokevirtual 161, 3) := by decide +kernel
theorem dX0_tieParts_117 : decode cX0_tieParts 117 = .ok (.istore 5, 2) := by decide +kernel
theorem dX0_tieParts_119 : decode cX0_tieParts 119 = .ok (.aload_n 0, 1) := by decide +kernel
theorem dX0_tieParts_120 : decode cX0_tieParts 120 = .ok (.getfield 25, 3) := by decide +kernel
theorem dX0_tieParts_123 : decode cX0_tieParts 123 = .ok (.getfield 138, 3) := by decide +kernel
theorem dX0_tieParts_126 : decode cX0_tieParts 126 = .ok (.aload_n 0, 1) := by decide +kernel
theorem dX0_tieParts_127 : decode cX0_tieParts 127 = .ok (.getfield 25, 3) := by decide +kernel
theorem dX0_tieParts_130 : decode cX0_tieParts 130 = .ok (.getfield 158, 3) := by decide +kernel
theorem dX0_tieParts_133 : decode cX0_tieParts 133 = .ok (.iload_n 3, 1) := by decide +kernel
theorem dX0_tieParts_134 : decode cX0_tieParts 134 = .ok (.iconst 3, 1) := by decide +kernel
theorem dX0_tieParts_135 : decode cX0_tieParts 135 = .ok (.iadd, 1) := by decide +kernel
theorem dX0_tieParts_136 : decode cX0_tieParts 136 = .ok (.invokestatic 50, 3) := by decide +kernel
theorem dX0_tieParts_139 : decode cX0_tieParts 139 = .ok (.iconst 5, 1) := by decide +kernel
theorem dX0_tieParts_140 : decode cX0_tieParts 140 = .ok (.iadd, 1) := by decide +kernel
theorem dX0_tieParts_141 : decode cX0_tieParts 141 = .ok (.iload 5, 2) := by decide +kernel
theorem dX0_tieParts_143 : decode cX0_tieParts 143 = .ok (.invokestatic 91, 3) := by decide +kernel
theorem dX0_tieParts_146 : decode cX0_tieParts 146 = .ok (.iinc 2 1, 3) := by decide +kernel
theorem dX0_tieParts_149 : decode cX0_tieParts 149 = .ok (.goto (-132), 3) := by decide +kernel
theorem dX0_tieParts_87 : decode cX0_tieParts 87 = .ok (.iconst 0, 1) := by decide +kernel
theorem dX0_tieParts_83 : decode cX0_tieParts 83 = .ok (.iconst 1, 1) := by decide +kernel
theorem dX0_tieParts_84 : decode cX0_tieParts 84 = .ok (.goto 4, 3) := by decide +kernel
theorem dX0_tieParts_77 : decode cX0_tieParts 77 = .ok (.iload_n 1, 1) := by decide +kernel
theorem dX0_tieParts_63 : decode cX0_tieParts 63 = .ok (.aload_n 0, 1) := by decide +kernel
theorem dX0_tieParts_64 : decode cX0_tieParts 64 = .ok (.getfield 25, 3) := by decide +kernel
theorem dX0_tieParts_67 : decode cX0_tieParts 67 = .ok (.getfield 158, 3) := by decide +kernel
theorem dX0_tieParts_70 : decode cX0_tieParts 70 = .ok (.iload_n 3, 1) := by decide +kernel
theorem dX0_tieParts_71 : decode cX0_tieParts 71 = .ok (.invokestatic 50, 3) := by decide +kernel
theorem dX0_tieParts_74 : decode cX0_tieParts 74 = .ok (.goto 4, 3) := by decide +kernel
theorem dX0_tieParts_54 : decode cX0_tieParts 54 = .ok (.iconst 0, 1) := by decide +kernel
theorem dX0_tieParts_50 : decode cX0_tieParts 50 = .ok (.iconst 1, 1) := by decide +kernel
theorem dX0_tieParts_51 : decode cX0_tieParts 51 = .ok (.goto 4, 3) := by decide +kernel
theorem dX12_fault_0 : decode cX12_fault 0 = .ok (.iload_n 1, 1) := by decide +kernel
theorem dX12_fault_1 : decode cX12_fault 1 = .ok (.ifCond .ne 8, 3) := by decide +kernel
theorem dX12_fault_9 : decode cX12_fault 9 = .ok (.iload_n 1, 1) := by decide +kernel
theorem dX12_fault_10 : decode cX12_fault 10 = .ok (.iconst 1, 1) := by decide +kernel
theorem dX12_fault_11 : decode cX12_fault 11 = .ok (.if_icmp .ne 10, 3) := by decide +kernel
theorem dX12_fault_34 : decode cX12_fault 34 = .ok (.ireturn, 1) := by decide +kernel
theorem dX12_fault_21 : decode cX12_fault 21 = .ok (.iload_n 1, 1) := by decide +kernel
theorem dX12_fault_22 : decode cX12_fault 22 = .ok (.iconst 2, 1) := by decide +kernel
theorem dX12_fault_23 : decode cX12_fault 23 = .ok (.if_icmp .ne 10, 3) := by decide +kernel
theorem dX12_fault_33 : decode cX12_fault 33 = .ok (.iconst (-1), 1) := by decide +kernel
theorem dX12_fault_26 : decode cX12_fault 26 = .ok (.aload_n 0, 1) := by decide +kernel
theorem dX12_fault_27 : decode cX12_fault 27 = .ok (.getfield 29, 3) := by decide +kernel
theorem dX12_fault_30 : decode cX12_fault 30 = .ok (.goto 4, 3) := by decide +kernel
theorem dX12_fault_14 : decode cX12_fault 14 = .ok (.aload_n 0, 1) := by decide +kernel
theorem dX12_fault_15 : decode cX12_fault 15 = .ok (.getfield 26, 3) := by decide +kernel
theorem dX12_fault_18 : decode cX12_fault 18 = .ok (.goto 16, 3) := by decide +kernel
theorem dX12_fault_4 : decode cX12_fault 4 = .ok (.aload_n 0, 1) := by decide +kernel
theorem dX12_fault_5 : decode cX12_fault 5 = .ok (.getfield 23, 3) := by decide +kernel
theorem dX12_fault_8 : decode cX12_fault 8 = .ok (.ireturn, 1) := by decide +kernel
theorem dX8_make_0 : decode cX8_make 0 = .ok (.aload_n 0, 1) := by decide +kernel
theorem dX8_make_1 : decode cX8_make 1 = .ok (.getfield 36, 3) := by decide +kernel
theorem dX8_make_4 : decode cX8_make 4 = .ok (.sipush 500, 3) := by decide +kernel
theorem dX8_make_7 : decode cX8_make 7 = .ok (.if_icmp .ge 16, 3) := by decide +kernel
theorem dX8_make_23 : decode cX8_make 23 = .ok (.iconst (-1), 1) := by decide +kernel
theorem dX8_make_24 : decode cX8_make 24 = .ok (.ireturn, 1) := by decide +kernel
theorem dX8_make_10 : decode cX8_make 10 = .ok (.aload_n 0, 1) := by decide +kernel
theorem dX8_make_11 : decode cX8_make 11 = .ok (.getfield 40, 3) := by decide +kernel
theorem dX8_make_14 : decode cX8_make 14 = .ok (.iload 4, 2) := by decide +kernel
theorem dX8_make_16 : decode cX8_make 16 = .ok (.iadd, 1) := by decide +kernel
theorem dX8_make_17 : decode cX8_make 17 = .ok (.sipush 16000, 3) := by decide +kernel
theorem dX8_make_20 : decode cX8_make 20 = .ok (.if_icmp .le 5, 3) := by decide +kernel
theorem dX8_make_25 : decode cX8_make 25 = .ok (.aload_n 0, 1) := by decide +kernel
theorem dX8_make_26 : decode cX8_make 26 = .ok (.getfield 9, 3) := by decide +kernel
theorem dX8_make_29 : decode cX8_make 29 = .ok (.aload_n 0, 1) := by decide +kernel
theorem dX8_make_30 : decode cX8_make 30 = .ok (.getfield 36, 3) := by decide +kernel
theorem dX8_make_33 : decode cX8_make 33 = .ok (.iload_n 1, 1) := by decide +kernel
theorem dX8_make_34 : decode cX8_make 34 = .ok (.invokestatic 66, 3) := by decide +kernel
theorem dX8_make_37 : decode cX8_make 37 = .ok (.aload_n 0, 1) := by decide +kernel
theorem dX8_make_38 : decode cX8_make 38 = .ok (.getfield 36, 3) := by decide +kernel
theorem dX8_make_41 : decode cX8_make 41 = .ok (.aload_n 0, 1) := by decide +kernel
theorem dX8_make_42 : decode cX8_make 42 = .ok (.getfield 15, 3) := by decide +kernel
theorem dX8_make_45 : decode cX8_make 45 = .ok (.arraylength, 1) := by decide +kernel
theorem dX8_make_46 : decode cX8_make 46 = .ok (.if_icmp .ge 13, 3) := by decide +kernel
theorem dX8_make_59 : decode cX8_make 59 = .ok (.aload_n 0, 1) := by decide +kernel
theorem dX8_make_60 : decode cX8_make 60 = .ok (.getfield 19, 3) := by decide +kernel
theorem dX8_make_63 : decode cX8_make 63 = .ok (.aload_n 0, 1) := by decide +kernel
theorem dX8_make_64 : decode cX8_make 64 = .ok (.getfield 36, 3) := by decide +kernel
theorem dX8_make_67 : decode cX8_make 67 = .ok (.aload_n 0, 1) := by decide +kernel
theorem dX8_make_68 : decode cX8_make 68 = .ok (.getfield 40, 3) := by decide +kernel
theorem dX8_make_71 : decode cX8_make 71 = .ok (.invokestatic 66, 3) := by decide +kernel
theorem dX8_make_74 : decode cX8_make 74 = .ok (.aload_n 0, 1) := by decide +kernel
theorem dX8_make_75 : decode cX8_make 75 = .ok (.getfield 22, 3) := by decide +kernel
theorem dX8_make_78 : decode cX8_make 78 = .ok (.aload_n 0, 1) := by decide +kernel
theorem dX8_make_79 : decode cX8_make 79 = .ok (.getfield 36, 3) := by decide +kernel
theorem dX8_make_82 : decode cX8_make 82 = .ok (.iload 4, 2) := by decide +kernel
theorem dX8_make_84 : decode cX8_make 84 = .ok (.invokestatic 66, 3) := by decide +kernel
theorem dX8_make_87 : decode cX8_make 87 = .ok (.aload_n 0, 1) := by decide +kernel
theorem dX8_make_88 : decode cX8_make 88 = .ok (.getfield 25, 3) := by decide +kernel
theorem dX8_make_91 : decode cX8_make 91 = .ok (.aload_n 0, 1) := by decide +kernel
theorem dX8_make_92 : decode cX8_make 92 = .ok (.getfield 36, 3) := by decide +kernel
theorem dX8_make_95 : decode cX8_make 95 = .ok (.iconst 0, 1) := by decide +kernel
theorem dX8_make_96 : decode cX8_make 96 = .ok (.invokestatic 66, 3) := by decide +kernel
theorem dX8_make_99 : decode cX8_make 99 = .ok (.aload_n 0, 1) := by decide +kernel
theorem dX8_make_100 : decode cX8_make 100 = .ok (.dup, 1) := by decide +kernel
theorem dX8_make_101 : decode cX8_make 101 = .ok (.getfield 36, 3) := by decide +kernel
theorem dX8_make_104 : decode cX8_make 104 = .ok (.iconst 1, 1) := by decide +kernel
theorem dX8_make_105 : decode cX8_make 105 = .ok (.iadd, 1) := by decide +kernel
theorem dX8_make_106 : decode cX8_make 106 = .ok (.putfield 36, 3) := by decide +kernel
theorem dX8_make_109 : decode cX8_make 109 = .ok (.aload_n 0, 1) := by decide +kernel
theorem dX8_make_110 : decode cX8_make 110 = .ok (.getfield 36, 3) := by decide +kernel
theorem dX8_make_113 : decode cX8_make 113 = .ok (.iconst 1, 1) := by decide +kernel
theorem dX8_make_114 : decode cX8_make 114 = .ok (.isub, 1) := by decide +kernel
theorem dX8_make_115 : decode cX8_make 115 = .ok (.ireturn, 1) := by decide +kernel
theorem dX8_make_49 : decode cX8_make 49 = .ok (.aload_n 0, 1) := by decide +kernel
theorem dX8_make_50 : decode cX8_make 50 = .ok (.getfield 15, 3) := by decide +kernel
theorem dX8_make_53 : decode cX8_make 53 = .ok (.aload_n 0, 1) := by decide +kernel
theorem dX8_make_54 : decode cX8_make 54 = .ok (.getfield 36, 3) := by decide +kernel
theorem dX8_make_57 : decode cX8_make 57 = .ok (.lload_n 2, 1) := by decide +kernel
theorem dX8_make_58 : decode cX8_make 58 = .ok (.lastore, 1) := by decide +kernel
theorem dX8_takeBytes_0 : decode cX8_takeBytes 0 = .ok (.iconst 0, 1) := by decide +kernel
theorem dX8_takeBytes_1 : decode cX8_takeBytes 1 = .ok (.istore_n 3, 1) := by decide +kernel
theorem dX8_takeBytes_2 : decode cX8_takeBytes 2 = .ok (.iload_n 3, 1) := by decide +kernel
theorem dX8_takeBytes_3 : decode cX8_takeBytes 3 = .ok (.iload_n 2, 1) := by decide +kernel
theorem dX8_takeBytes_4 : decode cX8_takeBytes 4 = .ok (.if_icmp .ge 27, 3) := by decide +kernel
theorem dX8_takeBytes_31 : decode cX8_takeBytes 31 = .ok (.aload_n 0, 1) := by decide +kernel
theorem dX8_takeBytes_32 : decode cX8_takeBytes 32 = .ok (.dup, 1) := by decide +kernel
theorem dX8_takeBytes_33 : decode cX8_takeBytes 33 = .ok (.getfield 40, 3) := by decide +kernel
theorem dX8_takeBytes_36 : decode cX8_takeBytes 36 = .ok (.iload_n 2, 1) := by decide +kernel
theorem dX8_takeBytes_37 : decode cX8_takeBytes 37 = .ok (.iadd, 1) := by decide +kernel
theorem dX8_takeBytes_38 : decode cX8_takeBytes 38 = .ok (.putfield 40, 3) := by decide +kernel
theorem dX8_takeBytes_41 : decode cX8_takeBytes 41 = .ok (.return_, 1) := by decide +kernel
theorem dX8_takeBytes_7 : decode cX8_takeBytes 7 = .ok (.aload_n 0, 1) := by decide +kernel
theorem dX8_takeBytes_8 : decode cX8_takeBytes 8 = .ok (.getfield 32, 3) := by decide +kernel
theorem dX8_takeBytes_11 : decode cX8_takeBytes 11 = .ok (.aload_n 0, 1) := by decide +kernel
theorem dX8_takeBytes_12 : decode cX8_takeBytes 12 = .ok (.getfield 40, 3) := by decide +kernel
theorem dX8_takeBytes_15 : decode cX8_takeBytes 15 = .ok (.iload_n 3, 1) := by decide +kernel
theorem dX8_takeBytes_16 : decode cX8_takeBytes 16 = .ok (.iadd, 1) := by decide +kernel
theorem dX8_takeBytes_17 : decode cX8_takeBytes 17 = .ok (.aload_n 1, 1) := by decide +kernel
theorem dX8_takeBytes_18 : decode cX8_takeBytes 18 = .ok (.iload_n 3, 1) := by decide +kernel
theorem dX8_takeBytes_19 : decode cX8_takeBytes 19 = .ok (.invokestatic 58, 3) := by decide +kernel
theorem dX8_takeBytes_22 : decode cX8_takeBytes 22 = .ok (.invokestatic 62, 3) := by decide +kernel
theorem dX8_takeBytes_25 : decode cX8_takeBytes 25 = .ok (.iinc 3 1, 3) := by decide +kernel
theorem dX8_takeBytes_28 : decode cX8_takeBytes 28 = .ok (.goto (-26), 3) := by decide +kernel
theorem dX8_is_0 : decode cX8_is 0 = .ok (.iload_n 1, 1) := by decide +kernel
theorem dX8_is_1 : decode cX8_is 1 = .ok (.ifCond .lt 27, 3) := by decide +kernel
theorem dX8_is_29 : decode cX8_is 29 = .ok (.ireturn, 1) := by decide +kernel
theorem dX8_is_28 : decode cX8_is 28 = .ok (.iconst 0, 1) := by decide +kernel
theorem dX8_is_4 : decode cX8_is 4 = .ok (.iload_n 1, 1) := by decide +kernel
theorem dX8_is_5 : decode cX8_is 5 = .ok (.aload_n 0, 1) := by decide +kernel
theorem dX8_is_6 : decode cX8_is 6 = .ok (.getfield 36, 3) := by decide +kernel
theorem dX8_is_9 : decode cX8_is 9 = .ok (.if_icmp .ge 19, 3) := by decide +kernel
theorem dX8_is_12 : decode cX8_is 12 = .ok (.aload_n 0, 1) := by decide +kernel
theorem dX8_is_13 : decode cX8_is 13 = .ok (.getfield 9, 3) := by decide +kernel
theorem dX8_is_16 : decode cX8_is 16 = .ok (.iload_n 1, 1) := by decide +kernel
theorem dX8_is_17 : decode cX8_is 17 = .ok (.invokestatic 70, 3) := by decide +kernel
theorem dX8_is_20 : decode cX8_is 20 = .ok (.iload_n 2, 1) := by decide +kernel
theorem dX8_is_21 : decode cX8_is 21 = .ok (.if_icmp .ne 7, 3) := by decide +kernel
theorem dX8_is_24 : decode cX8_is 24 = .ok (.iconst 1, 1) := by decide +kernel
theorem dX8_is_25 : decode cX8_is 25 = .ok (.goto 4, 3) := by decide +kernel
theorem dX8_mayHave_0 : decode cX8_mayHave 0 = .ok (.iload_n 2, 1) := by decide +kernel
theorem dX8_mayHave_1 : decode cX8_mayHave 1 = .ok (.iconst (-1), 1) := by decide +kernel
theorem dX8_mayHave_2 : decode cX8_mayHave 2 = .ok (.if_icmp .lt 11, 3) := by decide +kernel
theorem dX8_mayHave_13 : decode cX8_mayHave 13 = .ok (.iconst 0, 1) := by decide +kernel
theorem dX8_mayHave_14 : decode cX8_mayHave 14 = .ok (.ireturn, 1) := by decide +kernel
theorem dX8_mayHave_5 : decode cX8_mayHave 5 = .ok (.iload_n 2, 1) := by decide +kernel
theorem dX8_mayHave_6 : decode cX8_mayHave 6 = .ok (.aload_n 0, 1) := by decide +kernel
theorem dX8_mayHave_7 : decode cX8_mayHave 7 = .ok (.getfield 36, 3) := by decide +kernel
theorem dX8_mayHave_10 : decode cX8_mayHave 10 = .ok (.if_icmp .lt 5, 3) := by decide +kernel
theorem dX8_mayHave_15 : decode cX8_mayHave 15 = .ok (.iload_n 2, 1) := by decide +kernel
theorem dX8_mayHave_16 : decode cX8_mayHave 16 = .ok (.iload_n 1, 1) := by decide +kernel
theorem dX8_mayHave_17 : decode cX8_mayHave 17 = .ok (.if_icmp .lt 12, 3) := by decide +kernel
theorem dX8_mayHave_34 : decode cX8_mayHave 34 = .ok (.ireturn, 1) := by decide +kernel
theorem dX8_mayHave_29 : decode cX8_mayHave 29 = .ok (.iconst 1, 1) := by decide +kernel
theorem dX8_mayHave_30 : decode cX8_mayHave 30 = .ok (.goto 4, 3) := by decide +kernel
theorem dX8_mayHave_20 : decode cX8_mayHave 20 = .ok (.aload_n 0, 1) := by decide +kernel
theorem dX8_mayHave_21 : decode cX8_mayHave 21 = .ok (.iload_n 2, 1) := by decide +kernel
theorem dX8_mayHave_22 : decode cX8_mayHave 22 = .ok (.iconst 5, 1) := by decide +kernel
theorem dX8_mayHave_23 : decode cX8_mayHave 23 = .ok (.invokevirtual 82, 3) := by decide +kernel
theorem dX8_mayHave_26 : decode cX8_mayHave 26 = .ok (.ifCond .eq 7, 3) := by decide +kernel
theorem dX8_mayHave_33 : decode cX8_mayHave 33 = .ok (.iconst 0, 1) := by decide +kernel
theorem dX8_append_0 : decode cX8_append 0 = .ok (.aload_n 0, 1) := by decide +kernel
theorem dX8_append_1 : decode cX8_append 1 = .ok (.getfield 25, 3) := by decide +kernel
theorem dX8_append_4 : decode cX8_append 4 = .ok (.iload_n 1, 1) := by decide +kernel
theorem dX8_append_5 : decode cX8_append 5 = .ok (.invokestatic 70, 3) := by decide +kernel
theorem dX8_append_8 : decode cX8_append 8 = .ok (.istore_n 3, 1) := by decide +kernel
theorem dX8_append_9 : decode cX8_append 9 = .ok (.aload_n 0, 1) := by decide +kernel
theorem dX8_append_10 : decode cX8_append 10 = .ok (.iload_n 1, 1) := by decide +kernel
theorem dX8_append_11 : decode cX8_append 11 = .ok (.iconst 3, 1) := by decide +kernel
theorem dX8_append_12 : decode cX8_append 12 = .ok (.invokevirtual 82, 3) := by decide +kernel
theorem dX8_append_15 : decode cX8_append 15 = .ok (.ifCond .eq 28, 3) := by decide +kernel
theorem dX8_append_43 : decode cX8_append 43 = .ok (.iconst 0, 1) := by decide +kernel
theorem dX8_append_44 : decode cX8_append 44 = .ok (.ireturn, 1) := by decide +kernel
theorem dX8_append_18 : decode cX8_append 18 = .ok (.aload_n 0, 1) := by decide +kernel
theorem dX8_append_19 : decode cX8_append 19 = .ok (.iload_n 1, 1) := by decide +kernel
theorem dX8_append_20 : decode cX8_append 20 = .ok (.iload_n 2, 1) := by decide +kernel
theorem dX8_append_21 : decode cX8_append 21 = .ok (.invokevirtual 85, 3) := by decide +kernel
theorem dX8_append_24 : decode cX8_append 24 = .ok (.ifCond .eq 19, 3) := by decide +kernel
theorem dX8_append_27 : decode cX8_append 27 = .ok (.iload_n 3, 1) := by decide +kernel
theorem dX8_append_28 : decode cX8_append 28 = .ok (.bipush 100, 2) := by decide +kernel
theorem dX8_append_30 : decode cX8_append 30 = .ok (.if_icmp .ge 13, 3) := by decide +kernel
theorem dX8_append_33 : decode cX8_append 33 = .ok (.aload_n 0, 1) := by decide +kernel
theorem dX8_append_34 : decode cX8_append 34 = .ok (.getfield 43, 3) := by decide +kernel
theorem dX8_append_37 : decode cX8_append 37 = .ok (.sipush 4000, 3) := by decide +kernel
theorem dX8_append_40 : decode cX8_append 40 = .ok (.if_icmp .lt 5, 3) := by decide +kernel
theorem dX8_append_45 : decode cX8_append 45 = .ok (.aload_n 0, 1) := by decide +kernel
theorem dX8_append_46 : decode cX8_append 46 = .ok (.getfield 29, 3) := by decide +kernel
theorem dX8_append_49 : decode cX8_append 49 = .ok (.iload_n 1, 1) := by decide +kernel
theorem dX8_append_50 : decode cX8_append 50 = .ok (.bipush 100, 2) := by decide +kernel
theorem dX8_append_52 : decode cX8_append 52 = .ok (.imul, 1) := by decide +kernel
theorem dX8_append_53 : decode cX8_append 53 = .ok (.iload_n 3, 1) := by decide +kernel
theorem dX8_append_54 : decode cX8_append 54 = .ok (.iadd, 1) := by decide +kernel
theorem dX8_append_55 : decode cX8_append 55 = .ok (.iload_n 2, 1) := by decide +kernel
theorem dX8_append_56 : decode cX8_append 56 = .ok (.invokestatic 66, 3) := by decide +kernel
theorem dX8_append_59 : decode cX8_append 59 = .ok (.aload_n 0, 1) := by decide +kernel
theorem dX8_append_60 : decode cX8_append 60 = .ok (.getfield 25, 3) := by decide +kernel
theorem dX8_append_63 : decode cX8_append 63 = .ok (.iload_n 1, 1) := by decide +kernel
theorem dX8_append_64 : decode cX8_append 64 = .ok (.iload_n 3, 1) := by decide +kernel
theorem dX8_append_65 : decode cX8_append 65 = .ok (.iconst 1, 1) := by decide +kernel
theorem dX8_append_66 : decode cX8_append 66 = .ok (.iadd, 1) := by decide +kernel
theorem dX8_append_67 : decode cX8_append 67 = .ok (.invokestatic 66, 3) := by decide +kernel
theorem dX8_append_70 : decode cX8_append 70 = .ok (.aload_n 0, 1) := by decide +kernel
theorem dX8_append_71 : decode cX8_append 71 = .ok (.dup, 1) := by decide +kernel
theorem dX8_append_72 : decode cX8_append 72 = .ok (.getfield 43, 3) := by decide +kernel
theorem dX8_append_75 : decode cX8_append 75 = .ok (.iconst 1, 1) := by decide +kernel
theorem dX8_append_76 : decode cX8_append 76 = .ok (.iadd, 1) := by decide +kernel
theorem dX8_append_77 : decode cX8_append 77 = .ok (.putfield 43, 3) := by decide +kernel
theorem dX8_append_80 : decode cX8_append 80 = .ok (.iconst 1, 1) := by decide +kernel
theorem dX8_append_81 : decode cX8_append 81 = .ok (.ireturn, 1) := by decide +kernel
theorem dX12_add_0 : decode cX12_add 0 = .ok (.aload_n 0, 1) := by decide +kernel
theorem dX12_add_1 : decode cX12_add 1 = .ok (.getfield 35, 3) := by decide +kernel
theorem dX12_add_4 : decode cX12_add 4 = .ok (.iconst 1, 1) := by decide +kernel
theorem dX12_add_5 : decode cX12_add 5 = .ok (.if_icmp .eq 19, 3) := by decide +kernel
theorem dX12_add_25 : decode cX12_add 25 = .ok (.ireturn, 1) := by decide +kernel
theorem dX12_add_24 : decode cX12_add 24 = .ok (.iconst 0, 1) := by decide +kernel
theorem dX12_add_8 : decode cX12_add 8 = .ok (.aload_n 0, 1) := by decide +kernel
theorem dX12_add_9 : decode cX12_add 9 = .ok (.getfield 59, 3) := by decide +kernel
theorem dX12_add_12 : decode cX12_add 12 = .ok (.iload_n 1, 1) := by decide +kernel
theorem dX12_add_13 : decode cX12_add 13 = .ok (.iload_n 2, 1) := by decide +kernel
theorem dX12_add_14 : decode cX12_add 14 = .ok (.invokevirtual 177, 3) := by decide +kernel
theorem dX12_add_17 : decode cX12_add 17 = .ok (.ifCond .eq 7, 3) := by decide +kernel
theorem dX12_add_20 : decode cX12_add 20 = .ok (.iconst 1, 1) := by decide +kernel
theorem dX12_add_21 : decode cX12_add 21 = .ok (.goto 4, 3) := by decide +kernel
theorem dX8_addAttribute_0 : decode cX8_addAttribute 0 = .ok (.iload_n 3, 1) := by decide +kernel
theorem dX8_addAttribute_1 : decode cX8_addAttribute 1 = .ok (.iconst (-1), 1) := by decide +kernel
theorem dX8_addAttribute_2 : decode cX8_addAttribute 2 = .ok (.if_icmp .lt 11, 3) := by decide +kernel
theorem dX8_addAttribute_13 : decode cX8_addAttribute 13 = .ok (.iconst (-1), 1) := by decide +kernel
theorem dX8_addAttribute_14 : decode cX8_addAttribute 14 = .ok (.ireturn, 1) := by decide +kernel
theorem dX8_addAttribute_5 : decode cX8_addAttribute 5 = .ok (.iload_n 3, 1) := by decide +kernel
theorem dX8_addAttribute_6 : decode cX8_addAttribute 6 = .ok (.aload_n 0, 1) := by decide +kernel
theorem dX8_addAttribute_7 : decode cX8_addAttribute 7 = .ok (.getfield 36, 3) := by decide +kernel
theorem dX8_addAttribute_10 : decode cX8_addAttribute 10 = .ok (.if_icmp .lt 5, 3) := by decide +kernel
theorem dX8_addAttribute_15 : decode cX8_addAttribute 15 = .ok (.iload_n 2, 1) := by decide +kernel
theorem dX8_addAttribute_16 : decode cX8_addAttribute 16 = .ok (.iconst 1, 1) := by decide +kernel
theorem dX8_addAttribute_17 : decode cX8_addAttribute 17 = .ok (.if_icmp .lt 18, 3) := by decide +kernel
theorem dX8_addAttribute_35 : decode cX8_addAttribute 35 = .ok (.iconst (-1), 1) := by decide +kernel
theorem dX8_addAttribute_36 : decode cX8_addAttribute 36 = .ok (.ireturn, 1) := by decide +kernel
theorem dX8_addAttribute_20 : decode cX8_addAttribute 20 = .ok (.iload_n 2, 1) := by decide +kernel
theorem dX8_addAttribute_21 : decode cX8_addAttribute 21 = .ok (.bipush 16, 2) := by decide +kernel
theorem dX8_addAttribute_23 : decode cX8_addAttribute 23 = .ok (.if_icmp .gt 12, 3) := by decide +kernel
theorem dX8_addAttribute_26 : decode cX8_addAttribute 26 = .ok (.aload_n 0, 1) := by decide +kernel
theorem dX8_addAttribute_27 : decode cX8_addAttribute 27 = .ok (.getfield 55, 3) := by decide +kernel
theorem dX8_addAttribute_30 : decode cX8_addAttribute 30 = .ok (.bipush 40, 2) := by decide +kernel
theorem dX8_addAttribute_32 : decode cX8_addAttribute 32 = .ok (.if_icmp .lt 5, 3) := by decide +kernel
theorem dX8_addAttribute_37 : decode cX8_addAttribute 37 = .ok (.iconst 0, 1) := by decide +kernel
theorem dX8_addAttribute_38 : decode cX8_addAttribute 38 = .ok (.istore 4, 2) := by decide +kernel
theorem dX8_addAttribute_40 : decode cX8_addAttribute 40 = .ok (.iload 4, 2) := by decide +kernel
theorem dX8_addAttribute_42 : decode cX8_addAttribute 42 = .ok (.iload_n 2, 1) := by decide +kernel
theorem dX8_addAttribute_43 : decode cX8_addAttribute 43 = .ok (.if_icmp .ge 32, 3) := by decide +kernel
theorem dX8_addAttribute_75 : decode cX8_addAttribute 75 = .ok (.aload_n 0, 1) := by decide +kernel
theorem dX8_addAttribute_76 : decode cX8_addAttribute 76 = .ok (.getfield 49, 3) := by decide +kernel
theorem dX8_addAttribute_79 : decode cX8_addAttribute 79 = .ok (.aload_n 0, 1) := by decide +kernel
theorem dX8_addAttribute_80 : decode cX8_addAttribute 80 = .ok (.getfield 55, 3) := by decide +kernel
theorem dX8_addAttribute_83 : decode cX8_addAttribute 83 = .ok (.iload_n 2, 1) := by decide +kernel
theorem dX8_addAttribute_84 : decode cX8_addAttribute 84 = .ok (.invokestatic 66, 3) := by decide +kernel
theorem dX8_addAttribute_87 : decode cX8_addAttribute 87 = .ok (.aload_n 0, 1) := by decide +kernel
theorem dX8_addAttribute_88 : decode cX8_addAttribute 88 = .ok (.getfield 52, 3) := by decide +kernel
theorem dX8_addAttribute_91 : decode cX8_addAttribute 91 = .ok (.aload_n 0, 1) := by decide +kernel
theorem dX8_addAttribute_92 : decode cX8_addAttribute 92 = .ok (.getfield 55, 3) := by decide +kernel
theorem dX8_addAttribute_95 : decode cX8_addAttribute 95 = .ok (.iload_n 3, 1) := by decide +kernel
theorem dX8_addAttribute_96 : decode cX8_addAttribute 96 = .ok (.invokestatic 66, 3) := by decide +kernel
theorem dX8_addAttribute_99 : decode cX8_addAttribute 99 = .ok (.aload_n 0, 1) := by decide +kernel
theorem dX8_addAttribute_100 : decode cX8_addAttribute 100 = .ok (.dup, 1) := by decide +kernel
theorem dX8_addAttribute_101 : decode cX8_addAttribute 101 = .ok (.getfield 55, 3) := by decide +kernel
theorem dX8_addAttribute_104 : decode cX8_addAttribute 104 = .ok (.iconst 1, 1) := by decide +kernel
theorem dX8_addAttribute_105 : decode cX8_addAttribute 105 = .ok (.iadd, 1) := by decide +kernel
theorem dX8_addAttribute_106 : decode cX8_addAttribute 106 = .ok (.putfield 55, 3) := by decide +kernel
theorem dX8_addAttribute_109 : decode cX8_addAttribute 109 = .ok (.aload_n 0, 1) := by decide +kernel
theorem dX8_addAttribute_110 : decode cX8_addAttribute 110 = .ok (.getfield 55, 3) := by decide +kernel
theorem dX8_addAttribute_113 : decode cX8_addAttribute 113 = .ok (.ireturn, 1) := by decide +kernel
theorem dX8_addAttribute_46 : decode cX8_addAttribute 46 = .ok (.aload_n 0, 1) := by decide +kernel
theorem dX8_addAttribute_47 : decode cX8_addAttribute 47 = .ok (.getfield 46, 3) := by decide +kernel
theorem dX8_addAttribute_50 : decode cX8_addAttribute 50 = .ok (.aload_n 0, 1) := by decide +kernel
theorem dX8_addAttribute_51 : decode cX8_addAttribute 51 = .ok (.getfield 55, 3) := by decide +kernel
theorem dX8_addAttribute_54 : decode cX8_addAttribute 54 = .ok (.bipush 16, 2) := by decide +kernel
theorem dX8_addAttribute_56 : decode cX8_addAttribute 56 = .ok (.imul, 1) := by decide +kernel
theorem dX8_addAttribute_57 : decode cX8_addAttribute 57 = .ok (.iload 4, 2) := by decide +kernel
theorem dX8_addAttribute_59 : decode cX8_addAttribute 59 = .ok (.iadd, 1) := by decide +kernel
theorem dX8_addAttribute_60 : decode cX8_addAttribute 60 = .ok (.aload_n 1, 1) := by decide +kernel
theorem dX8_addAttribute_61 : decode cX8_addAttribute 61 = .ok (.iload 4, 2) := by decide +kernel
theorem dX8_addAttribute_63 : decode cX8_addAttribute 63 = .ok (.invokestatic 58, 3) := by decide +kernel
theorem dX8_addAttribute_66 : decode cX8_addAttribute 66 = .ok (.invokestatic 62, 3) := by decide +kernel
theorem dX8_addAttribute_69 : decode cX8_addAttribute 69 = .ok (.iinc 4 1, 3) := by decide +kernel
theorem dX8_addAttribute_72 : decode cX8_addAttribute 72 = .ok (.goto (-32), 3) := by decide +kernel
theorem dX12_attribute_0 : decode cX12_attribute 0 = .ok (.aload_n 0, 1) := by decide +kernel
theorem dX12_attribute_1 : decode cX12_attribute 1 = .ok (.getfield 16, 3) := by decide +kernel
theorem dX12_attribute_4 : decode cX12_attribute 4 = .ok (.istore_n 2, 1) := by decide +kernel
theorem dX12_attribute_5 : decode cX12_attribute 5 = .ok (.aload_n 0, 1) := by decide +kernel
theorem dX12_attribute_6 : decode cX12_attribute 6 = .ok (.iconst 0, 1) := by decide +kernel
theorem dX12_attribute_7 : decode cX12_attribute 7 = .ok (.putfield 16, 3) := by decide +kernel
theorem dX12_attribute_10 : decode cX12_attribute 10 = .ok (.aload_n 0, 1) := by decide +kernel
theorem dX12_attribute_11 : decode cX12_attribute 11 = .ok (.getfield 35, 3) := by decide +kernel
theorem dX12_attribute_14 : decode cX12_attribute 14 = .ok (.iconst 1, 1) := by decide +kernel
theorem dX12_attribute_15 : decode cX12_attribute 15 = .ok (.if_icmp .ne 7, 3) := by decide +kernel
theorem dX12_attribute_35 : decode cX12_attribute 35 = .ok (.ireturn, 1) := by decide +kernel
theorem dX12_attribute_22 : decode cX12_attribute 22 = .ok (.aload_n 0, 1) := by decide +kernel
theorem dX12_attribute_23 : decode cX12_attribute 23 = .ok (.getfield 59, 3) := by decide +kernel
theorem dX12_attribute_26 : decode cX12_attribute 26 = .ok (.aload_n 0, 1) := by decide +kernel
theorem dX12_attribute_27 : decode cX12_attribute 27 = .ok (.getfield 13, 3) := by decide +kernel
theorem dX12_attribute_30 : decode cX12_attribute 30 = .ok (.iload_n 2, 1) := by decide +kernel
theorem dX12_attribute_31 : decode cX12_attribute 31 = .ok (.iload_n 1, 1) := by decide +kernel
theorem dX12_attribute_32 : decode cX12_attribute 32 = .ok (.invokevirtual 189, 3) := by decide +kernel
theorem dX12_attribute_18 : decode cX12_attribute 18 = .ok (.iconst (-1), 1) := by decide +kernel
theorem dX12_attribute_19 : decode cX12_attribute 19 = .ok (.goto 16, 3) := by decide +kernel
theorem dX12_clear_0 : decode cX12_clear 0 = .ok (.aload_n 0, 1) := by decide +kernel
theorem dX12_clear_1 : decode cX12_clear 1 = .ok (.getfield 35, 3) := by decide +kernel
theorem dX12_clear_4 : decode cX12_clear 4 = .ok (.iconst 1, 1) := by decide +kernel
theorem dX12_clear_5 : decode cX12_clear 5 = .ok (.if_icmp .ne 5, 3) := by decide +kernel
theorem dX12_clear_10 : decode cX12_clear 10 = .ok (.aload_n 0, 1) := by decide +kernel
theorem dX12_clear_11 : decode cX12_clear 11 = .ok (.getfield 59, 3) := by decide +kernel
theorem dX12_clear_14 : decode cX12_clear 14 = .ok (.iconst 0, 1) := by decide +kernel
theorem dX12_clear_15 : decode cX12_clear 15 = .ok (.putfield 193, 3) := by decide +kernel
theorem dX12_clear_18 : decode cX12_clear 18 = .ok (.iconst 1, 1) := by decide +kernel
theorem dX12_clear_19 : decode cX12_clear 19 = .ok (.ireturn, 1) := by decide +kernel
theorem dX12_clear_8 : decode cX12_clear 8 = .ok (.iconst 0, 1) := by decide +kernel
theorem dX12_clear_9 : decode cX12_clear 9 = .ok (.ireturn, 1) := by decide +kernel
theorem dX12_width_0 : decode cX12_width 0 = .ok (.iload_n 1, 1) := by decide +kernel
theorem dX12_width_1 : decode cX12_width 1 = .ok (.ifCond .lt 10, 3) := by decide +kernel
theorem dX12_width_11 : decode cX12_width 11 = .ok (.iconst 0, 1) := by decide +kernel
theorem dX12_width_12 : decode cX12_width 12 = .ok (.ireturn, 1) := by decide +kernel
theorem dX12_width_4 : decode cX12_width 4 = .ok (.iload_n 1, 1) := by decide +kernel
theorem dX12_width_5 : decode cX12_width 5 = .ok (.sipush 1000, 3) := by decide +kernel
theorem dX12_width_8 : decode cX12_width 8 = .ok (.if_icmp .le 5, 3) := by decide +kernel
theorem dX12_width_13 : decode cX12_width 13 = .ok (.aload_n 0, 1) := by decide +kernel
theorem dX12_width_14 : decode cX12_width 14 = .ok (.iload_n 1, 1) := by decide +kernel
theorem dX12_width_15 : decode cX12_width 15 = .ok (.putfield 32, 3) := by decide +kernel
theorem dX12_width_18 : decode cX12_width 18 = .ok (.iconst 1, 1) := by decide +kernel
theorem dX12_width_19 : decode cX12_width 19 = .ok (.ireturn, 1) := by decide +kernel
theorem dX9_forget_0 : decode cX9_forget 0 = .ok (.aload_n 0, 1) := by decide +kernel
theorem dX9_forget_1 : decode cX9_forget 1 = .ok (.getfield 16, 3) := by decide +kernel
theorem dX9_forget_4 : decode cX9_forget 4 = .ok (.iconst 0, 1) := by decide +kernel
theorem dX9_forget_5 : decode cX9_forget 5 = .ok (.invokestatic 19, 3) := by decide +kernel
theorem dX9_forget_8 : decode cX9_forget 8 = .ok (.return_, 1) := by decide +kernel
theorem dX3_forget_0 : decode cX3_forget 0 = .ok (.aload_n 0, 1) := by decide +kernel
theorem dX3_forget_1 : decode cX3_forget 1 = .ok (.aload_n 1, 1) := by decide +kernel
theorem dX3_forget_2 : decode cX3_forget 2 = .ok (.putfield 75, 3) := by decide +kernel
theorem dX3_forget_5 : decode cX3_forget 5 = .ok (.aload_n 0, 1) := by decide +kernel
theorem dX3_forget_6 : decode cX3_forget 6 = .ok (.iconst 0, 1) := by decide +kernel
theorem dX3_forget_7 : decode cX3_forget 7 = .ok (.putfield 24, 3) := by decide +kernel
theorem dX3_forget_10 : decode cX3_forget 10 = .ok (.aload_n 0, 1) := by decide +kernel
theorem dX3_forget_11 : decode cX3_forget 11 = .ok (.iconst 1, 1) := by decide +kernel
theorem dX3_forget_12 : decode cX3_forget 12 = .ok (.putfield 32, 3) := by decide +kernel
theorem dX3_forget_15 : decode cX3_forget 15 = .ok (.aload_n 0, 1) := by decide +kernel
theorem dX3_forget_16 : decode cX3_forget 16 = .ok (.iconst 0, 1) := by decide +kernel
theorem dX3_forget_17 : decode cX3_forget 17 = .ok (.putfield 35, 3) := by decide +kernel
theorem dX3_forget_20 : decode cX3_forget 20 = .ok (.aload_n 0, 1) := by decide +kernel
theorem dX3_forget_21 : decode cX3_forget 21 = .ok (.iconst 0, 1) := by decide +kernel
theorem dX3_forget_22 : decode cX3_forget 22 = .ok (.putfield 43, 3) := by decide +kernel
theorem dX3_forget_25 : decode cX3_forget 25 = .ok (.aload_n 0, 1) := by decide +kernel
theorem dX3_forget_26 : decode cX3_forget 26 = .ok (.iconst 0, 1) := by decide +kernel
theorem dX3_forget_27 : decode cX3_forget 27 = .ok (.putfield 52, 3) := by decide +kernel
theorem dX3_forget_30 : decode cX3_forget 30 = .ok (.return_, 1) := by decide +kernel
theorem dX11_freshLine_0 : decode cX11_freshLine 0 = .ok (.aload_n 0, 1) := by decide +kernel
theorem dX11_freshLine_1 : decode cX11_freshLine 1 = .ok (.iconst 0, 1) := by decide +kernel
theorem dX11_freshLine_2 : decode cX11_freshLine 2 = .ok (.putfield 25, 3) := by decide +kernel
theorem dX11_freshLine_5 : decode cX11_freshLine 5 = .ok (.aload_n 0, 1) := by decide +kernel
theorem dX11_freshLine_6 : decode cX11_freshLine 6 = .ok (.iconst 1, 1) := by decide +kernel
theorem dX11_freshLine_7 : decode cX11_freshLine 7 = .ok (.putfield 28, 3) := by decide +kernel
theorem dX11_freshLine_10 : decode cX11_freshLine 10 = .ok (.aload_n 0, 1) := by decide +kernel
theorem dX11_freshLine_11 : decode cX11_freshLine 11 = .ok (.iconst 0, 1) := by decide +kernel
theorem dX11_freshLine_12 : decode cX11_freshLine 12 = .ok (.putfield 32, 3) := by decide +kernel
theorem dX11_freshLine_15 : decode cX11_freshLine 15 = .ok (.aload_n 0, 1) := by decide +kernel
theorem dX11_freshLine_16 : decode cX11_freshLine 16 = .ok (.iconst 0, 1) := by decide +kernel
theorem dX11_freshLine_17 : decode cX11_freshLine 17 = .ok (.putfield 42, 3) := by decide +kernel
theorem dX11_freshLine_20 : decode cX11_freshLine 20 = .ok (.aload_n 0, 1) := by decide +kernel
theorem dX11_freshLine_21 : decode cX11_freshLine 21 = .ok (.aload_n 0, 1) := by decide +kernel
theorem dX11_freshLine_22 : decode cX11_freshLine 22 = .ok (.getfield 51, 3) := by decide +kernel
theorem dX11_freshLine_25 : decode cX11_freshLine 25 = .ok (.putfield 48, 3) := by decide +kernel
theorem dX11_freshLine_28 : decode cX11_freshLine 28 = .ok (.aload_n 0, 1) := by decide +kernel
theorem dX11_freshLine_29 : decode cX11_freshLine 29 = .ok (.iconst 0, 1) := by decide +kernel
theorem dX11_freshLine_30 : decode cX11_freshLine 30 = .ok (.putfield 54, 3) := by decide +kernel
theorem dX11_freshLine_33 : decode cX11_freshLine 33 = .ok (.return_, 1) := by decide +kernel
theorem dX11_forget_0 : decode cX11_forget 0 = .ok (.aload_n 0, 1) := by decide +kernel
theorem dX11_forget_1 : decode cX11_forget 1 = .ok (.aload_n 1, 1) := by decide +kernel
theorem dX11_forget_2 : decode cX11_forget 2 = .ok (.getfield 61, 3) := by decide +kernel
theorem dX11_forget_5 : decode cX11_forget 5 = .ok (.putfield 66, 3) := by decide +kernel
theorem dX11_forget_8 : decode cX11_forget 8 = .ok (.aload_n 0, 1) := by decide +kernel
theorem dX11_forget_9 : decode cX11_forget 9 = .ok (.iconst 0, 1) := by decide +kernel
theorem dX11_forget_10 : decode cX11_forget 10 = .ok (.putfield 18, 3) := by decide +kernel
theorem dX11_forget_13 : decode cX11_forget 13 = .ok (.aload_n 0, 1) := by decide +kernel
theorem dX11_forget_14 : decode cX11_forget 14 = .ok (.iload_n 2, 1) := by decide +kernel
theorem dX11_forget_15 : decode cX11_forget 15 = .ok (.putfield 22, 3) := by decide +kernel
theorem dX11_forget_18 : decode cX11_forget 18 = .ok (.aload_n 0, 1) := by decide +kernel
theorem dX11_forget_19 : decode cX11_forget 19 = .ok (.iconst 0, 1) := by decide +kernel
theorem dX11_forget_20 : decode cX11_forget 20 = .ok (.putfield 35, 3) := by decide +kernel
theorem dX11_forget_23 : decode cX11_forget 23 = .ok (.aload_n 0, 1) := by decide +kernel
theorem dX11_forget_24 : decode cX11_forget 24 = .ok (.iconst 0, 1) := by decide +kernel
theorem dX11_forget_25 : decode cX11_forget 25 = .ok (.putfield 51, 3) := by decide +kernel
theorem dX11_forget_28 : decode cX11_forget 28 = .ok (.aload_n 0, 1) := by decide +kernel
theorem dX11_forget_29 : decode cX11_forget 29 = .ok (.invokevirtual 67, 3) := by decide +kernel
theorem dX11_forget_32 : decode cX11_forget 32 = .ok (.return_, 1) := by decide +kernel
theorem dX5_plain_0 : decode cX5_plain 0 = .ok (.aload_n 0, 1) := by decide +kernel
theorem dX5_plain_1 : decode cX5_plain 1 = .ok (.iconst (-1), 1) := by decide +kernel
theorem dX5_plain_2 : decode cX5_plain 2 = .ok (.putfield 48, 3) := by decide +kernel
theorem dX5_plain_5 : decode cX5_plain 5 = .ok (.aload_n 0, 1) := by decide +kernel
theorem dX5_plain_6 : decode cX5_plain 6 = .ok (.iconst (-1), 1) := by decide +kernel
theorem dX5_plain_7 : decode cX5_plain 7 = .ok (.putfield 51, 3) := by decide +kernel
theorem dX5_plain_10 : decode cX5_plain 10 = .ok (.aload_n 0, 1) := by decide +kernel
theorem dX5_plain_11 : decode cX5_plain 11 = .ok (.iconst 0, 1) := by decide +kernel
theorem dX5_plain_12 : decode cX5_plain 12 = .ok (.putfield 54, 3) := by decide +kernel
theorem dX5_plain_15 : decode cX5_plain 15 = .ok (.aload_n 0, 1) := by decide +kernel
theorem dX5_plain_16 : decode cX5_plain 16 = .ok (.iconst (-1), 1) := by decide +kernel
theorem dX5_plain_17 : decode cX5_plain 17 = .ok (.putfield 57, 3) := by decide +kernel
theorem dX5_plain_20 : decode cX5_plain 20 = .ok (.return_, 1) := by decide +kernel
theorem dX3_make_0 : decode cX3_make 0 = .ok (.aload_n 0, 1) := by decide +kernel
theorem dX3_make_1 : decode cX3_make 1 = .ok (.getfield 24, 3) := by decide +kernel
theorem dX3_make_4 : decode cX3_make 4 = .ok (.ifCond .lt 39, 3) := by decide +kernel
theorem dX3_make_43 : decode cX3_make 43 = .ok (.new 79, 3) := by decide +kernel
theorem dX3_make_46 : decode cX3_make 46 = .ok (.dup, 1) := by decide +kernel
theorem dX3_make_47 : decode cX3_make 47 = .ok (.invokespecial 81, 3) := by decide +kernel
theorem dX3_make_50 : decode cX3_make 50 = .ok (.athrow, 1) := by decide +kernel
theorem dX3_make_7 : decode cX3_make 7 = .ok (.aload_n 0, 1) := by decide +kernel
theorem dX3_make_8 : decode cX3_make 8 = .ok (.getfield 24, 3) := by decide +kernel
theorem dX3_make_11 : decode cX3_make 11 = .ok (.aload_n 0, 1) := by decide +kernel
theorem dX3_make_12 : decode cX3_make 12 = .ok (.getfield 9, 3) := by decide +kernel
theorem dX3_make_15 : decode cX3_make 15 = .ok (.arraylength, 1) := by decide +kernel
theorem dX3_make_16 : decode cX3_make 16 = .ok (.if_icmp .ge 27, 3) := by decide +kernel
theorem dX3_make_19 : decode cX3_make 19 = .ok (.aload_n 0, 1) := by decide +kernel
theorem dX3_make_20 : decode cX3_make 20 = .ok (.getfield 24, 3) := by decide +kernel
theorem dX3_make_23 : decode cX3_make 23 = .ok (.aload_n 0, 1) := by decide +kernel
theorem dX3_make_24 : decode cX3_make 24 = .ok (.getfield 15, 3) := by decide +kernel
theorem dX3_make_27 : decode cX3_make 27 = .ok (.arraylength, 1) := by decide +kernel
theorem dX3_make_28 : decode cX3_make 28 = .ok (.if_icmp .ge 15, 3) := by decide +kernel
theorem dX3_make_31 : decode cX3_make 31 = .ok (.aload_n 0, 1) := by decide +kernel
theorem dX3_make_32 : decode cX3_make 32 = .ok (.getfield 24, 3) := by decide +kernel
theorem dX3_make_35 : decode cX3_make 35 = .ok (.aload_n 0, 1) := by decide +kernel
theorem dX3_make_36 : decode cX3_make 36 = .ok (.getfield 18, 3) := by decide +kernel
theorem dX3_make_39 : decode cX3_make 39 = .ok (.arraylength, 1) := by decide +kernel
theorem dX3_make_40 : decode cX3_make 40 = .ok (.if_icmp .lt 11, 3) := by decide +kernel
theorem dX3_make_51 : decode cX3_make 51 = .ok (.aload_n 0, 1) := by decide +kernel
theorem dX3_make_52 : decode cX3_make 52 = .ok (.getfield 9, 3) := by decide +kernel
theorem dX3_make_55 : decode cX3_make 55 = .ok (.aload_n 0, 1) := by decide +kernel
theorem dX3_make_56 : decode cX3_make 56 = .ok (.getfield 24, 3) := by decide +kernel
theorem dX3_make_59 : decode cX3_make 59 = .ok (.iload_n 1, 1) := by decide +kernel
theorem dX3_make_60 : decode cX3_make 60 = .ok (.iastore, 1) := by decide +kernel
theorem dX3_make_61 : decode cX3_make 61 = .ok (.aload_n 0, 1) := by decide +kernel
theorem dX3_make_62 : decode cX3_make 62 = .ok (.getfield 15, 3) := by decide +kernel
theorem dX3_make_65 : decode cX3_make 65 = .ok (.aload_n 0, 1) := by decide +kernel
theorem dX3_make_66 : decode cX3_make 66 = .ok (.getfield 24, 3) := by decide +kernel
theorem dX3_make_69 : decode cX3_make 69 = .ok (.iload_n 2, 1) := by decide +kernel
theorem dX3_make_70 : decode cX3_make 70 = .ok (.iastore, 1) := by decide +kernel
theorem dX3_make_71 : decode cX3_make 71 = .ok (.aload_n 0, 1) := by decide +kernel
theorem dX3_make_72 : decode cX3_make 72 = .ok (.getfield 18, 3) := by decide +kernel
theorem dX3_make_75 : decode cX3_make 75 = .ok (.aload_n 0, 1) := by decide +kernel
theorem dX3_make_76 : decode cX3_make 76 = .ok (.getfield 24, 3) := by decide +kernel
theorem dX3_make_79 : decode cX3_make 79 = .ok (.iconst 0, 1) := by decide +kernel
theorem dX3_make_80 : decode cX3_make 80 = .ok (.iastore, 1) := by decide +kernel
theorem dX3_make_81 : decode cX3_make 81 = .ok (.aload_n 0, 1) := by decide +kernel
theorem dX3_make_82 : decode cX3_make 82 = .ok (.getfield 24, 3) := by decide +kernel
theorem dX3_make_85 : decode cX3_make 85 = .ok (.bipush 12, 2) := by decide +kernel
theorem dX3_make_87 : decode cX3_make 87 = .ok (.imul, 1) := by decide +kernel
theorem dX3_make_88 : decode cX3_make 88 = .ok (.istore 4, 2) := by decide +kernel
theorem dX3_make_90 : decode cX3_make 90 = .ok (.iconst 0, 1) := by decide +kernel
theorem dX3_make_91 : decode cX3_make 91 = .ok (.istore 5, 2) := by decide +kernel
theorem dX3_make_93 : decode cX3_make 93 = .ok (.iload 5, 2) := by decide +kernel
theorem dX3_make_95 : decode cX3_make 95 = .ok (.bipush 12, 2) := by decide +kernel
theorem dX3_make_97 : decode cX3_make 97 = .ok (.if_icmp .ge 33, 3) := by decide +kernel
theorem dX3_make_130 : decode cX3_make 130 = .ok (.aload_n 0, 1) := by decide +kernel
theorem dX3_make_131 : decode cX3_make 131 = .ok (.dup, 1) := by decide +kernel
theorem dX3_make_132 : decode cX3_make 132 = .ok (.getfield 24, 3) := by decide +kernel
theorem dX3_make_135 : decode cX3_make 135 = .ok (.iconst 1, 1) := by decide +kernel
theorem dX3_make_136 : decode cX3_make 136 = .ok (.iadd, 1) := by decide +kernel
theorem dX3_make_137 : decode cX3_make 137 = .ok (.putfield 24, 3) := by decide +kernel
theorem dX3_make_140 : decode cX3_make 140 = .ok (.aload_n 0, 1) := by decide +kernel
theorem dX3_make_141 : decode cX3_make 141 = .ok (.getfield 71, 3) := by decide +kernel
theorem dX3_make_144 : decode cX3_make 144 = .ok (.getfield 82, 3) := by decide +kernel
theorem dX3_make_147 : decode cX3_make 147 = .ok (.iconst 2, 1) := by decide +kernel
theorem dX3_make_148 : decode cX3_make 148 = .ok (.aload_n 0, 1) := by decide +kernel
theorem dX3_make_149 : decode cX3_make 149 = .ok (.getfield 24, 3) := by decide +kernel
theorem dX3_make_152 : decode cX3_make 152 = .ok (.iastore, 1) := by decide +kernel
theorem dX3_isHouse_0 : decode cX3_isHouse 0 = .ok (.iload_n 1, 1) := by decide +kernel
theorem dX3_isHouse_1 : decode cX3_isHouse 1 = .ok (.ifCond .lt 43, 3) := by decide +kernel
theorem dX3_isHouse_45 : decode cX3_isHouse 45 = .ok (.ireturn, 1) := by decide +kernel
theorem dX3_isHouse_44 : decode cX3_isHouse 44 = .ok (.iconst 0, 1) := by decide +kernel
theorem dX3_isHouse_4 : decode cX3_isHouse 4 = .ok (.iload_n 1, 1) := by decide +kernel
theorem dX3_isHouse_5 : decode cX3_isHouse 5 = .ok (.aload_n 0, 1) := by decide +kernel
theorem dX3_isHouse_6 : decode cX3_isHouse 6 = .ok (.getfield 67, 3) := by decide +kernel
theorem dX3_isHouse_9 : decode cX3_isHouse 9 = .ok (.getfield 111, 3) := by decide +kernel
theorem dX3_isHouse_12 : decode cX3_isHouse 12 = .ok (.if_icmp .ge 32, 3) := by decide +kernel
theorem dX3_isHouse_15 : decode cX3_isHouse 15 = .ok (.iload_n 1, 1) := by decide +kernel
theorem dX3_isHouse_16 : decode cX3_isHouse 16 = .ok (.aload_n 0, 1) := by decide +kernel
theorem dX3_isHouse_17 : decode cX3_isHouse 17 = .ok (.getfield 67, 3) := by decide +kernel
theorem dX3_isHouse_20 : decode cX3_isHouse 20 = .ok (.getfield 116, 3) := by decide +kernel
theorem dX3_isHouse_23 : decode cX3_isHouse 23 = .ok (.arraylength, 1) := by decide +kernel
theorem dX3_isHouse_24 : decode cX3_isHouse 24 = .ok (.if_icmp .ge 20, 3) := by decide +kernel
theorem dX3_isHouse_27 : decode cX3_isHouse 27 = .ok (.aload_n 0, 1) := by decide +kernel
theorem dX3_isHouse_28 : decode cX3_isHouse 28 = .ok (.getfield 67, 3) := by decide +kernel
theorem dX3_isHouse_31 : decode cX3_isHouse 31 = .ok (.getfield 116, 3) := by decide +kernel
theorem dX3_isHouse_34 : decode cX3_isHouse 34 = .ok (.iload_n 1, 1) := by decide +kernel
theorem dX3_isHouse_35 : decode cX3_isHouse 35 = .ok (.iaload, 1) := by decide +kernel
theorem dX3_isHouse_36 : decode cX3_isHouse 36 = .ok (.iload_n 2, 1) := by decide +kernel
theorem dX3_isHouse_37 : decode cX3_isHouse 37 = .ok (.if_icmp .ne 7, 3) := by decide +kernel
theorem dX3_isHouse_40 : decode cX3_isHouse 40 = .ok (.iconst 1, 1) := by decide +kernel
theorem dX3_isHouse_41 : decode cX3_isHouse 41 = .ok (.goto 4, 3) := by decide +kernel
theorem dX3_sortOf_0 : decode cX3_sortOf 0 = .ok (.iload_n 0, 1) := by decide +kernel
theorem dX3_sortOf_1 : decode cX3_sortOf 1 = .ok (.ifCond .ge 7, 3) := by decide +kernel
theorem dX3_sortOf_12 : decode cX3_sortOf 12 = .ok (.ireturn, 1) := by decide +kernel
theorem dX3_sortOf_8 : decode cX3_sortOf 8 = .ok (.iload_n 0, 1) := by decide +kernel
theorem dX3_sortOf_9 : decode cX3_sortOf 9 = .ok (.ldc 110, 2) := by decide +kernel
theorem dX3_sortOf_11 : decode cX3_sortOf 11 = .ok (.iand, 1) := by decide +kernel
theorem dX3_sortOf_4 : decode cX3_sortOf 4 = .ok (.iload_n 0, 1) := by decide +kernel
theorem dX3_sortOf_5 : decode cX3_sortOf 5 = .ok (.goto 7, 3) := by decide +kernel
theorem dX3_isMany_0 : decode cX3_isMany 0 = .ok (.iload_n 1, 1) := by decide +kernel
theorem dX3_isMany_1 : decode cX3_isMany 1 = .ok (.ifCond .lt 26, 3) := by decide +kernel
theorem dX3_isMany_27 : decode cX3_isMany 27 = .ok (.iload_n 1, 1) := by decide +kernel
theorem dX3_isMany_28 : decode cX3_isMany 28 = .ok (.ifCond .lt 16, 3) := by decide +kernel
theorem dX3_isMany_45 : decode cX3_isMany 45 = .ok (.ireturn, 1) := by decide +kernel
theorem dX3_isMany_44 : decode cX3_isMany 44 = .ok (.iconst 0, 1) := by decide +kernel
theorem dX3_isMany_31 : decode cX3_isMany 31 = .ok (.iload_n 1, 1) := by decide +kernel
theorem dX3_isMany_32 : decode cX3_isMany 32 = .ok (.ldc 110, 2) := by decide +kernel
theorem dX3_isMany_34 : decode cX3_isMany 34 = .ok (.iand, 1) := by decide +kernel
theorem dX3_isMany_35 : decode cX3_isMany 35 = .ok (.ldc 91, 2) := by decide +kernel
theorem dX3_isMany_37 : decode cX3_isMany 37 = .ok (.if_icmp .ne 7, 3) := by decide +kernel
theorem dX3_isMany_40 : decode cX3_isMany 40 = .ok (.iconst 1, 1) := by decide +kernel
theorem dX3_isMany_41 : decode cX3_isMany 41 = .ok (.goto 4, 3) := by decide +kernel
theorem dX3_isMany_4 : decode cX3_isMany 4 = .ok (.iload_n 1, 1) := by decide +kernel
theorem dX3_isMany_5 : decode cX3_isMany 5 = .ok (.aload_n 0, 1) := by decide +kernel
theorem dX3_isMany_6 : decode cX3_isMany 6 = .ok (.getfield 67, 3) := by decide +kernel
theorem dX3_isMany_9 : decode cX3_isMany 9 = .ok (.getfield 111, 3) := by decide +kernel
theorem dX3_isMany_12 : decode cX3_isMany 12 = .ok (.if_icmp .ge 15, 3) := by decide +kernel
theorem dX3_isMany_15 : decode cX3_isMany 15 = .ok (.iload_n 1, 1) := by decide +kernel
theorem dX3_isMany_16 : decode cX3_isMany 16 = .ok (.aload_n 0, 1) := by decide +kernel
theorem dX3_isMany_17 : decode cX3_isMany 17 = .ok (.getfield 67, 3) := by decide +kernel
theorem dX3_isMany_20 : decode cX3_isMany 20 = .ok (.getfield 116, 3) := by decide +kernel
theorem dX3_isMany_23 : decode cX3_isMany 23 = .ok (.arraylength, 1) := by decide +kernel
theorem dX3_isMany_24 : decode cX3_isMany 24 = .ok (.if_icmp .lt 22, 3) := by decide +kernel
theorem dX3_isMany_46 : decode cX3_isMany 46 = .ok (.aload_n 0, 1) := by decide +kernel
theorem dX3_isMany_47 : decode cX3_isMany 47 = .ok (.getfield 67, 3) := by decide +kernel
theorem dX3_isMany_50 : decode cX3_isMany 50 = .ok (.getfield 116, 3) := by decide +kernel
theorem dX3_isMany_53 : decode cX3_isMany 53 = .ok (.iload_n 1, 1) := by decide +kernel
theorem dX3_isMany_54 : decode cX3_isMany 54 = .ok (.iaload, 1) := by decide +kernel
theorem dX3_isMany_55 : decode cX3_isMany 55 = .ok (.iconst 3, 1) := by decide +kernel
theorem dX3_isMany_56 : decode cX3_isMany 56 = .ok (.if_icmp .eq 16, 3) := by decide +kernel
theorem dX3_isMany_77 : decode cX3_isMany 77 = .ok (.ireturn, 1) := by decide +kernel
theorem dX3_isMany_72 : decode cX3_isMany 72 = .ok (.iconst 1, 1) := by decide +kernel
theorem dX3_isMany_73 : decode cX3_isMany 73 = .ok (.goto 4, 3) := by decide +kernel
theorem dX3_isMany_59 : decode cX3_isMany 59 = .ok (.aload_n 0, 1) := by decide +kernel
theorem dX3_isMany_60 : decode cX3_isMany 60 = .ok (.getfield 67, 3) := by decide +kernel
theorem dX3_isMany_63 : decode cX3_isMany 63 = .ok (.getfield 116, 3) := by decide +kernel
theorem dX3_isMany_66 : decode cX3_isMany 66 = .ok (.iload_n 1, 1) := by decide +kernel
theorem dX3_isMany_67 : decode cX3_isMany 67 = .ok (.iaload, 1) := by decide +kernel
theorem dX3_isMany_68 : decode cX3_isMany 68 = .ok (.iconst 4, 1) := by decide +kernel
theorem dX3_isMany_69 : decode cX3_isMany 69 = .ok (.if_icmp .ne 7, 3) := by decide +kernel
theorem dX3_isMany_76 : decode cX3_isMany 76 = .ok (.iconst 0, 1) := by decide +kernel
theorem dX3_countOf_0 : decode cX3_countOf 0 = .ok (.iload_n 1, 1) := by decide +kernel
theorem dX3_countOf_1 : decode cX3_countOf 1 = .ok (.ifCond .ge 5, 3) := by decide +kernel
theorem dX3_countOf_6 : decode cX3_countOf 6 = .ok (.iload_n 1, 1) := by decide +kernel
theorem dX3_countOf_7 : decode cX3_countOf 7 = .ok (.invokestatic 119, 3) := by decide +kernel
theorem dX3_countOf_10 : decode cX3_countOf 10 = .ok (.ldc 91, 2) := by decide +kernel
theorem dX3_countOf_12 : decode cX3_countOf 12 = .ok (.if_icmp .ne 25, 3) := by decide +kernel
theorem dX3_countOf_37 : decode cX3_countOf 37 = .ok (.aload_n 0, 1) := by decide +kernel
theorem dX3_countOf_38 : decode cX3_countOf 38 = .ok (.iload_n 1, 1) := by decide +kernel
theorem dX3_countOf_39 : decode cX3_countOf 39 = .ok (.invokevirtual 126, 3) := by decide +kernel
theorem dX3_countOf_42 : decode cX3_countOf 42 = .ok (.ifCond .eq 17, 3) := by decide +kernel
theorem dX3_countOf_60 : decode cX3_countOf 60 = .ok (.ireturn, 1) := by decide +kernel
theorem dX3_countOf_59 : decode cX3_countOf 59 = .ok (.iconst 1, 1) := by decide +kernel
theorem dX3_countOf_45 : decode cX3_countOf 45 = .ok (.aload_n 0, 1) := by decide +kernel
theorem dX3_countOf_46 : decode cX3_countOf 46 = .ok (.getfield 67, 3) := by decide +kernel
theorem dX3_countOf_49 : decode cX3_countOf 49 = .ok (.getfield 130, 3) := by decide +kernel
theorem dX3_countOf_52 : decode cX3_countOf 52 = .ok (.iload_n 1, 1) := by decide +kernel
theorem dX3_countOf_53 : decode cX3_countOf 53 = .ok (.invokestatic 122, 3) := by decide +kernel
theorem dX3_countOf_56 : decode cX3_countOf 56 = .ok (.goto 4, 3) := by decide +kernel
theorem dX3_countOf_15 : decode cX3_countOf 15 = .ok (.iload_n 1, 1) := by decide +kernel
theorem dX3_countOf_16 : decode cX3_countOf 16 = .ok (.ldc 91, 2) := by decide +kernel
theorem dX3_countOf_18 : decode cX3_countOf 18 = .ok (.if_icmp .ne 7, 3) := by decide +kernel
theorem dX3_countOf_36 : decode cX3_countOf 36 = .ok (.ireturn, 1) := by decide +kernel
theorem dX3_countOf_25 : decode cX3_countOf 25 = .ok (.aload_n 0, 1) := by decide +kernel
theorem dX3_countOf_26 : decode cX3_countOf 26 = .ok (.getfield 29, 3) := by decide +kernel
theorem dX3_countOf_29 : decode cX3_countOf 29 = .ok (.iload_n 1, 1) := by decide +kernel
theorem dX3_countOf_30 : decode cX3_countOf 30 = .ok (.ldc 100, 2) := by decide +kernel
theorem dX3_countOf_32 : decode cX3_countOf 32 = .ok (.iand, 1) := by decide +kernel
theorem dX3_countOf_33 : decode cX3_countOf 33 = .ok (.invokestatic 122, 3) := by decide +kernel
theorem dX3_countOf_21 : decode cX3_countOf 21 = .ok (.iconst 0, 1) := by decide +kernel
theorem dX3_countOf_22 : decode cX3_countOf 22 = .ok (.goto 14, 3) := by decide +kernel
theorem dX3_countOf_4 : decode cX3_countOf 4 = .ok (.iconst 0, 1) := by decide +kernel
theorem dX3_countOf_5 : decode cX3_countOf 5 = .ok (.ireturn, 1) := by decide +kernel
theorem dX3_counted_0 : decode cX3_counted 0 = .ok (.aload_n 0, 1) := by decide +kernel
theorem dX3_counted_1 : decode cX3_counted 1 = .ok (.getfield 35, 3) := by decide +kernel
theorem dX3_counted_4 : decode cX3_counted 4 = .ok (.iload_n 1, 1) := by decide +kernel
theorem dX3_counted_5 : decode cX3_counted 5 = .ok (.iadd, 1) := by decide +kernel
theorem dX3_counted_6 : decode cX3_counted 6 = .ok (.sipush 20000, 3) := by decide +kernel
theorem dX3_counted_9 : decode cX3_counted 9 = .ok (.if_icmp .le 11, 3) := by decide +kernel
theorem dX3_counted_20 : decode cX3_counted 20 = .ok (.aload_n 0, 1) := by decide +kernel
theorem dX3_counted_21 : decode cX3_counted 21 = .ok (.dup, 1) := by decide +kernel
theorem dX3_counted_22 : decode cX3_counted 22 = .ok (.getfield 35, 3) := by decide +kernel
theorem dX3_counted_25 : decode cX3_counted 25 = .ok (.iload_n 1, 1) := by decide +kernel
theorem dX3_counted_26 : decode cX3_counted 26 = .ok (.iadd, 1) := by decide +kernel
theorem dX3_counted_27 : decode cX3_counted 27 = .ok (.putfield 35, 3) := by decide +kernel
theorem dX3_counted_30 : decode cX3_counted 30 = .ok (.return_, 1) := by decide +kernel
theorem dX3_counted_12 : decode cX3_counted 12 = .ok (.new 79, 3) := by decide +kernel
theorem dX3_counted_15 : decode cX3_counted 15 = .ok (.dup, 1) := by decide +kernel
theorem dX3_counted_16 : decode cX3_counted 16 = .ok (.invokespecial 81, 3) := by decide +kernel
theorem dX3_counted_19 : decode cX3_counted 19 = .ok (.athrow, 1) := by decide +kernel
theorem dX3_room_0 : decode cX3_room 0 = .ok (.iload_n 1, 1) := by decide +kernel
theorem dX3_room_1 : decode cX3_room 1 = .ok (.ifCond .gt 6, 3) := by decide +kernel
theorem dX3_room_7 : decode cX3_room 7 = .ok (.aload_n 0, 1) := by decide +kernel
theorem dX3_room_8 : decode cX3_room 8 = .ok (.getfield 32, 3) := by decide +kernel
theorem dX3_room_11 : decode cX3_room 11 = .ok (.istore_n 2, 1) := by decide +kernel
theorem dX3_room_12 : decode cX3_room 12 = .ok (.iload_n 2, 1) := by decide +kernel
theorem dX3_room_13 : decode cX3_room 13 = .ok (.ifCond .lt 14, 3) := by decide +kernel
theorem dX3_room_27 : decode cX3_room 27 = .ok (.new 79, 3) := by decide +kernel
theorem dX3_room_30 : decode cX3_room 30 = .ok (.dup, 1) := by decide +kernel
theorem dX3_room_31 : decode cX3_room 31 = .ok (.invokespecial 81, 3) := by decide +kernel
theorem dX3_room_34 : decode cX3_room 34 = .ok (.athrow, 1) := by decide +kernel
theorem dX3_room_16 : decode cX3_room 16 = .ok (.iload_n 2, 1) := by decide +kernel
theorem dX3_room_17 : decode cX3_room 17 = .ok (.aload_n 0, 1) := by decide +kernel
theorem dX3_room_18 : decode cX3_room 18 = .ok (.getfield 29, 3) := by decide +kernel
theorem dX3_room_21 : decode cX3_room 21 = .ok (.arraylength, 1) := by decide +kernel
theorem dX3_room_22 : decode cX3_room 22 = .ok (.iload_n 1, 1) := by decide +kernel
theorem dX3_room_23 : decode cX3_room 23 = .ok (.isub, 1) := by decide +kernel
theorem dX3_room_24 : decode cX3_room 24 = .ok (.if_icmp .lt 11, 3) := by decide +kernel
theorem dX3_room_35 : decode cX3_room 35 = .ok (.aload_n 0, 1) := by decide +kernel
theorem dX3_room_36 : decode cX3_room 36 = .ok (.getfield 29, 3) := by decide +kernel
theorem dX3_room_39 : decode cX3_room 39 = .ok (.iload_n 2, 1) := by decide +kernel
theorem dX3_room_40 : decode cX3_room 40 = .ok (.iload_n 1, 1) := by decide +kernel
theorem dX3_room_41 : decode cX3_room 41 = .ok (.iastore, 1) := by decide +kernel
theorem dX3_valueOf_0 : decode cX3_valueOf 0 = .ok (.iload_n 1, 1) := by decide +kernel
theorem dX3_valueOf_1 : decode cX3_valueOf 1 = .ok (.invokestatic 119, 3) := by decide +kernel
theorem dX3_valueOf_4 : decode cX3_valueOf 4 = .ok (.ldc 91, 2) := by decide +kernel
theorem dX3_valueOf_6 : decode cX3_valueOf 6 = .ok (.if_icmp .ne 19, 3) := by decide +kernel
theorem dX3_valueOf_25 : decode cX3_valueOf 25 = .ok (.aload_n 0, 1) := by decide +kernel
theorem dX3_valueOf_26 : decode cX3_valueOf 26 = .ok (.iload_n 1, 1) := by decide +kernel
theorem dX3_valueOf_27 : decode cX3_valueOf 27 = .ok (.invokevirtual 126, 3) := by decide +kernel
theorem dX3_valueOf_30 : decode cX3_valueOf 30 = .ok (.ifCond .eq 22, 3) := by decide +kernel
theorem dX3_valueOf_53 : decode cX3_valueOf 53 = .ok (.ireturn, 1) := by decide +kernel
theorem dX3_valueOf_52 : decode cX3_valueOf 52 = .ok (.iload_n 1, 1) := by decide +kernel
theorem dX3_valueOf_33 : decode cX3_valueOf 33 = .ok (.aload_n 0, 1) := by decide +kernel
theorem dX3_valueOf_34 : decode cX3_valueOf 34 = .ok (.getfield 67, 3) := by decide +kernel
theorem dX3_valueOf_37 : decode cX3_valueOf 37 = .ok (.getfield 133, 3) := by decide +kernel
theorem dX3_valueOf_40 : decode cX3_valueOf 40 = .ok (.iload_n 1, 1) := by decide +kernel
theorem dX3_valueOf_41 : decode cX3_valueOf 41 = .ok (.bipush 100, 2) := by decide +kernel
theorem dX3_valueOf_43 : decode cX3_valueOf 43 = .ok (.imul, 1) := by decide +kernel
theorem dX3_valueOf_44 : decode cX3_valueOf 44 = .ok (.iload_n 2, 1) := by decide +kernel
theorem dX3_valueOf_45 : decode cX3_valueOf 45 = .ok (.iadd, 1) := by decide +kernel
theorem dX3_valueOf_46 : decode cX3_valueOf 46 = .ok (.invokestatic 122, 3) := by decide +kernel
theorem dX3_valueOf_49 : decode cX3_valueOf 49 = .ok (.goto 4, 3) := by decide +kernel
theorem dX3_valueOf_9 : decode cX3_valueOf 9 = .ok (.aload_n 0, 1) := by decide +kernel
theorem dX3_valueOf_10 : decode cX3_valueOf 10 = .ok (.getfield 29, 3) := by decide +kernel
theorem dX3_valueOf_13 : decode cX3_valueOf 13 = .ok (.iload_n 1, 1) := by decide +kernel
theorem dX3_valueOf_14 : decode cX3_valueOf 14 = .ok (.ldc 100, 2) := by decide +kernel
theorem dX3_valueOf_16 : decode cX3_valueOf 16 = .ok (.iand, 1) := by decide +kernel
theorem dX3_valueOf_17 : decode cX3_valueOf 17 = .ok (.iconst 1, 1) := by decide +kernel
theorem dX3_valueOf_18 : decode cX3_valueOf 18 = .ok (.iadd, 1) := by decide +kernel
theorem dX3_valueOf_19 : decode cX3_valueOf 19 = .ok (.iload_n 2, 1) := by decide +kernel
theorem dX3_valueOf_20 : decode cX3_valueOf 20 = .ok (.iadd, 1) := by decide +kernel
theorem dX3_valueOf_21 : decode cX3_valueOf 21 = .ok (.invokestatic 122, 3) := by decide +kernel
theorem dX3_valueOf_24 : decode cX3_valueOf 24 = .ok (.ireturn, 1) := by decide +kernel
theorem dX3_put_0 : decode cX3_put 0 = .ok (.aload_n 0, 1) := by decide +kernel
theorem dX3_put_1 : decode cX3_put 1 = .ok (.getfield 29, 3) := by decide +kernel
theorem dX3_put_4 : decode cX3_put 4 = .ok (.iload_n 1, 1) := by decide +kernel
theorem dX3_put_5 : decode cX3_put 5 = .ok (.ldc 100, 2) := by decide +kernel
theorem dX3_put_7 : decode cX3_put 7 = .ok (.iand, 1) := by decide +kernel
theorem dX3_put_8 : decode cX3_put 8 = .ok (.iconst 1, 1) := by decide +kernel
theorem dX3_put_9 : decode cX3_put 9 = .ok (.iadd, 1) := by decide +kernel
theorem dX3_put_10 : decode cX3_put 10 = .ok (.iload_n 2, 1) := by decide +kernel
theorem dX3_put_11 : decode cX3_put 11 = .ok (.iadd, 1) := by decide +kernel
theorem dX3_put_12 : decode cX3_put 12 = .ok (.iload_n 3, 1) := by decide +kernel
theorem dX3_put_13 : decode cX3_put 13 = .ok (.invokestatic 87, 3) := by decide +kernel
theorem dX3_put_16 : decode cX3_put 16 = .ok (.return_, 1) := by decide +kernel
theorem dX5_spread_0 : decode cX5_spread 0 = .ok (.iload_n 2, 1) := by decide +kernel
theorem dX5_spread_1 : decode cX5_spread 1 = .ok (.istore 6, 2) := by decide +kernel
theorem dX5_spread_3 : decode cX5_spread 3 = .ok (.iload 4, 2) := by decide +kernel
theorem dX5_spread_5 : decode cX5_spread 5 = .ok (.ifCond .eq 14, 3) := by decide +kernel
theorem dX5_spread_20 : decode cX5_spread 20 = .ok (.istore 7, 2) := by decide +kernel
theorem dX5_spread_22 : decode cX5_spread 22 = .ok (.iconst 0, 1) := by decide +kernel
theorem dX5_spread_23 : decode cX5_spread 23 = .ok (.istore 8, 2) := by decide +kernel
theorem dX5_spread_25 : decode cX5_spread 25 = .ok (.iload 8, 2) := by decide +kernel
theorem dX5_spread_27 : decode cX5_spread 27 = .ok (.iload 7, 2) := by decide +kernel
theorem dX5_spread_29 : decode cX5_spread 29 = .ok (.if_icmp .ge 48, 3) := by decide +kernel
theorem dX5_spread_77 : decode cX5_spread 77 = .ok (.iload 6, 2) := by decide +kernel
theorem dX5_spread_79 : decode cX5_spread 79 = .ok (.ireturn, 1) := by decide +kernel
theorem dX5_spread_32 : decode cX5_spread 32 = .ok (.iload 6, 2) := by decide +kernel
theorem dX5_spread_34 : decode cX5_spread 34 = .ok (.iload 5, 2) := by decide +kernel
theorem dX5_spread_36 : decode cX5_spread 36 = .ok (.if_icmp .ge 41, 3) := by decide +kernel
theorem dX5_spread_39 : decode cX5_spread 39 = .ok (.aload_n 0, 1) := by decide +kernel
theorem dX5_spread_40 : decode cX5_spread 40 = .ok (.getfield 83, 3) := by decide +kernel
theorem dX5_spread_43 : decode cX5_spread 43 = .ok (.iload_n 1, 1) := by decide +kernel
theorem dX5_spread_44 : decode cX5_spread 44 = .ok (.iload 6, 2) := by decide +kernel
theorem dX5_spread_46 : decode cX5_spread 46 = .ok (.iload 4, 2) := by decide +kernel
theorem dX5_spread_48 : decode cX5_spread 48 = .ok (.ifCond .eq 16, 3) := by decide +kernel
theorem dX5_spread_65 : decode cX5_spread 65 = .ok (.invokevirtual 233, 3) := by decide +kernel
theorem dX5_spread_68 : decode cX5_spread 68 = .ok (.iinc 6 1, 3) := by decide +kernel
theorem dX5_spread_71 : decode cX5_spread 71 = .ok (.iinc 8 1, 3) := by decide +kernel
theorem dX5_spread_74 : decode cX5_spread 74 = .ok (.goto (-49), 3) := by decide +kernel
theorem dX5_spread_64 : decode cX5_spread 64 = .ok (.iload_n 3, 1) := by decide +kernel
theorem dX5_spread_51 : decode cX5_spread 51 = .ok (.aload_n 0, 1) := by decide +kernel
theorem dX5_spread_52 : decode cX5_spread 52 = .ok (.getfield 83, 3) := by decide +kernel
theorem dX5_spread_55 : decode cX5_spread 55 = .ok (.iload_n 3, 1) := by decide +kernel
theorem dX5_spread_56 : decode cX5_spread 56 = .ok (.iload 8, 2) := by decide +kernel
theorem dX5_spread_58 : decode cX5_spread 58 = .ok (.invokevirtual 230, 3) := by decide +kernel
theorem dX5_spread_61 : decode cX5_spread 61 = .ok (.goto 4, 3) := by decide +kernel
theorem dX5_spread_19 : decode cX5_spread 19 = .ok (.iconst 1, 1) := by decide +kernel
theorem dX5_spread_8 : decode cX5_spread 8 = .ok (.aload_n 0, 1) := by decide +kernel
theorem dX5_spread_9 : decode cX5_spread 9 = .ok (.getfield 83, 3) := by decide +kernel
theorem dX5_spread_12 : decode cX5_spread 12 = .ok (.iload_n 3, 1) := by decide +kernel
theorem dX5_spread_13 : decode cX5_spread 13 = .ok (.invokevirtual 220, 3) := by decide +kernel
theorem dX5_spread_16 : decode cX5_spread 16 = .ok (.goto 4, 3) := by decide +kernel
theorem dX3_addToRoot_0 : decode cX3_addToRoot 0 = .ok (.aload_n 0, 1) := by decide +kernel
theorem dX3_addToRoot_1 : decode cX3_addToRoot 1 = .ok (.getfield 46, 3) := by decide +kernel
theorem dX3_addToRoot_4 : decode cX3_addToRoot 4 = .ok (.aload_n 0, 1) := by decide +kernel
theorem dX3_addToRoot_5 : decode cX3_addToRoot 5 = .ok (.getfield 52, 3) := by decide +kernel
theorem dX3_addToRoot_8 : decode cX3_addToRoot 8 = .ok (.iload_n 1, 1) := by decide +kernel
theorem dX3_addToRoot_9 : decode cX3_addToRoot 9 = .ok (.invokestatic 87, 3) := by decide +kernel
theorem dX3_addToRoot_12 : decode cX3_addToRoot 12 = .ok (.aload_n 0, 1) := by decide +kernel
theorem dX3_addToRoot_13 : decode cX3_addToRoot 13 = .ok (.getfield 49, 3) := by decide +kernel
theorem dX3_addToRoot_16 : decode cX3_addToRoot 16 = .ok (.aload_n 0, 1) := by decide +kernel
theorem dX3_addToRoot_17 : decode cX3_addToRoot 17 = .ok (.getfield 52, 3) := by decide +kernel
theorem dX3_addToRoot_20 : decode cX3_addToRoot 20 = .ok (.iload_n 2, 1) := by decide +kernel
theorem dX3_addToRoot_21 : decode cX3_addToRoot 21 = .ok (.invokestatic 87, 3) := by decide +kernel
theorem dX3_addToRoot_24 : decode cX3_addToRoot 24 = .ok (.aload_n 0, 1) := by decide +kernel
theorem dX3_addToRoot_25 : decode cX3_addToRoot 25 = .ok (.dup, 1) := by decide +kernel
theorem dX3_addToRoot_26 : decode cX3_addToRoot 26 = .ok (.getfield 52, 3) := by decide +kernel
theorem dX3_addToRoot_29 : decode cX3_addToRoot 29 = .ok (.iconst 1, 1) := by decide +kernel
theorem dX3_addToRoot_30 : decode cX3_addToRoot 30 = .ok (.iadd, 1) := by decide +kernel
theorem dX3_addToRoot_31 : decode cX3_addToRoot 31 = .ok (.putfield 52, 3) := by decide +kernel
theorem dX3_addToRoot_34 : decode cX3_addToRoot 34 = .ok (.return_, 1) := by decide +kernel
theorem dX5_counted_0 : decode cX5_counted 0 = .ok (.aload_n 0, 1) := by decide +kernel
theorem dX5_counted_1 : decode cX5_counted 1 = .ok (.getfield 45, 3) := by decide +kernel
theorem dX5_counted_4 : decode cX5_counted 4 = .ok (.ldc_w 308, 3) := by decide +kernel
theorem dX5_counted_7 : decode cX5_counted 7 = .ok (.if_icmp .lt 11, 3) := by decide +kernel
theorem dX5_counted_18 : decode cX5_counted 18 = .ok (.aload_n 0, 1) := by decide +kernel
theorem dX5_counted_19 : decode cX5_counted 19 = .ok (.dup, 1) := by decide +kernel
theorem dX5_counted_20 : decode cX5_counted 20 = .ok (.getfield 45, 3) := by decide +kernel
theorem dX5_counted_23 : decode cX5_counted 23 = .ok (.iconst 1, 1) := by decide +kernel
theorem dX5_counted_24 : decode cX5_counted 24 = .ok (.iadd, 1) := by decide +kernel
theorem dX5_counted_25 : decode cX5_counted 25 = .ok (.putfield 45, 3) := by decide +kernel
theorem dX5_counted_28 : decode cX5_counted 28 = .ok (.return_, 1) := by decide +kernel
theorem dX5_counted_10 : decode cX5_counted 10 = .ok (.new 134, 3) := by decide +kernel
theorem dX5_counted_13 : decode cX5_counted 13 = .ok (.dup, 1) := by decide +kernel
theorem dX5_counted_14 : decode cX5_counted 14 = .ok (.invokespecial 236, 3) := by decide +kernel
theorem dX5_counted_17 : decode cX5_counted 17 = .ok (.athrow, 1) := by decide +kernel
theorem dX5_start_0 : decode cX5_start 0 = .ok (.aload_n 0, 1) := by decide +kernel
theorem dX5_start_1 : decode cX5_start 1 = .ok (.getfield 24, 3) := by decide +kernel
theorem dX5_start_4 : decode cX5_start 4 = .ok (.ifCond .lt 15, 3) := by decide +kernel
theorem dX5_start_19 : decode cX5_start 19 = .ok (.new 134, 3) := by decide +kernel
theorem dX5_start_22 : decode cX5_start 22 = .ok (.dup, 1) := by decide +kernel
theorem dX5_start_23 : decode cX5_start 23 = .ok (.invokespecial 236, 3) := by decide +kernel
theorem dX5_start_26 : decode cX5_start 26 = .ok (.athrow, 1) := by decide +kernel
theorem dX5_start_7 : decode cX5_start 7 = .ok (.aload_n 0, 1) := by decide +kernel
theorem dX5_start_8 : decode cX5_start 8 = .ok (.getfield 24, 3) := by decide +kernel
theorem dX5_start_11 : decode cX5_start 11 = .ok (.aload_n 0, 1) := by decide +kernel
theorem dX5_start_12 : decode cX5_start 12 = .ok (.getfield 21, 3) := by decide +kernel
theorem dX5_start_15 : decode cX5_start 15 = .ok (.arraylength, 1) := by decide +kernel
theorem dX5_start_16 : decode cX5_start 16 = .ok (.if_icmp .lt 11, 3) := by decide +kernel
theorem dX5_start_27 : decode cX5_start 27 = .ok (.aload_n 0, 1) := by decide +kernel
theorem dX5_start_28 : decode cX5_start 28 = .ok (.getfield 21, 3) := by decide +kernel
theorem dX5_start_31 : decode cX5_start 31 = .ok (.aload_n 0, 1) := by decide +kernel
theorem dX5_start_32 : decode cX5_start 32 = .ok (.getfield 24, 3) := by decide +kernel
theorem dX5_start_35 : decode cX5_start 35 = .ok (.iload_n 1, 1) := by decide +kernel
theorem dX5_start_36 : decode cX5_start 36 = .ok (.iastore, 1) := by decide +kernel
theorem dX5_start_37 : decode cX5_start 37 = .ok (.aload_n 0, 1) := by decide +kernel
theorem dX5_start_38 : decode cX5_start 38 = .ok (.dup, 1) := by decide +kernel
theorem dX5_start_39 : decode cX5_start 39 = .ok (.getfield 24, 3) := by decide +kernel
theorem dX5_start_42 : decode cX5_start 42 = .ok (.iconst 1, 1) := by decide +kernel
theorem dX5_start_43 : decode cX5_start 43 = .ok (.iadd, 1) := by decide +kernel
theorem dX5_start_44 : decode cX5_start 44 = .ok (.putfield 24, 3) := by decide +kernel
theorem dX5_start_47 : decode cX5_start 47 = .ok (.return_, 1) := by decide +kernel
theorem dX5_options_0 : decode cX5_options 0 = .ok (.aload_n 0, 1) := by decide +kernel
theorem dX5_options_1 : decode cX5_options 1 = .ok (.aload_n 0, 1) := by decide +kernel
theorem dX5_options_2 : decode cX5_options 2 = .ok (.getfield 48, 3) := by decide +kernel
theorem dX5_options_5 : decode cX5_options 5 = .ok (.invokevirtual 299, 3) := by decide +kernel
theorem dX5_options_8 : decode cX5_options 8 = .ok (.aload_n 0, 1) := by decide +kernel
theorem dX5_options_9 : decode cX5_options 9 = .ok (.aload_n 0, 1) := by decide +kernel
theorem dX5_options_10 : decode cX5_options 10 = .ok (.getfield 51, 3) := by decide +kernel
theorem dX5_options_13 : decode cX5_options 13 = .ok (.invokevirtual 299, 3) := by decide +kernel
theorem dX5_options_16 : decode cX5_options 16 = .ok (.aload_n 0, 1) := by decide +kernel
theorem dX5_options_17 : decode cX5_options 17 = .ok (.aload_n 0, 1) := by decide +kernel
theorem dX5_options_18 : decode cX5_options 18 = .ok (.getfield 54, 3) := by decide +kernel
theorem dX5_options_21 : decode cX5_options 21 = .ok (.invokevirtual 299, 3) := by decide +kernel
theorem dX5_options_24 : decode cX5_options 24 = .ok (.aload_n 0, 1) := by decide +kernel
theorem dX5_options_25 : decode cX5_options 25 = .ok (.aload_n 0, 1) := by decide +kernel
theorem dX5_options_26 : decode cX5_options 26 = .ok (.getfield 57, 3) := by decide +kernel
theorem dX5_options_29 : decode cX5_options 29 = .ok (.invokevirtual 299, 3) := by decide +kernel
theorem dX5_options_32 : decode cX5_options 32 = .ok (.aload_n 0, 1) := by decide +kernel
theorem dX5_options_33 : decode cX5_options 33 = .ok (.aload_n 0, 1) := by decide +kernel
theorem dX5_options_34 : decode cX5_options 34 = .ok (.getfield 92, 3) := by decide +kernel
theorem dX5_options_37 : decode cX5_options 37 = .ok (.getfield 302, 3) := by decide +kernel
theorem dX5_options_40 : decode cX5_options 40 = .ok (.invokevirtual 299, 3) := by decide +kernel
theorem dX5_options_43 : decode cX5_options 43 = .ok (.aload_n 0, 1) := by decide +kernel
theorem dX5_options_44 : decode cX5_options 44 = .ok (.aload_n 0, 1) := by decide +kernel
theorem dX5_options_45 : decode cX5_options 45 = .ok (.getfield 92, 3) := by decide +kernel
theorem dX5_options_48 : decode cX5_options 48 = .ok (.getfield 296, 3) := by decide +kernel
theorem dX5_options_51 : decode cX5_options 51 = .ok (.invokevirtual 299, 3) := by decide +kernel
theorem dX5_options_54 : decode cX5_options 54 = .ok (.aload_n 0, 1) := by decide +kernel
theorem dX5_options_55 : decode cX5_options 55 = .ok (.iconst 2, 1) := by decide +kernel
theorem dX5_options_56 : decode cX5_options 56 = .ok (.invokevirtual 299, 3) := by decide +kernel
theorem dX5_options_59 : decode cX5_options 59 = .ok (.return_, 1) := by decide +kernel
theorem dX9_noteError_0 : decode cX9_noteError 0 = .ok (.iconst 3, 1) := by decide +kernel
theorem dX9_noteError_1 : decode cX9_noteError 1 = .ok (.aload_n 0, 1) := by decide +kernel
theorem dX9_noteError_2 : decode cX9_noteError 2 = .ok (.getfield 16, 3) := by decide +kernel
theorem dX9_noteError_5 : decode cX9_noteError 5 = .ok (.iconst 0, 1) := by decide +kernel
theorem dX9_noteError_6 : decode cX9_noteError 6 = .ok (.iaload, 1) := by decide +kernel
theorem dX5_done_0 : decode cX5_done 0 = .ok (.aload_n 0, 1) := by decide +kernel
theorem dX5_done_1 : decode cX5_done 1 = .ok (.getfield 24, 3) := by decide +kernel
theorem dX5_done_4 : decode cX5_done 4 = .ok (.ifCond .le 15, 3) := by decide +kernel
theorem dX5_done_19 : decode cX5_done 19 = .ok (.iconst (-1), 1) := by decide +kernel
theorem dX5_done_20 : decode cX5_done 20 = .ok (.ireturn, 1) := by decide +kernel
theorem dX5_done_7 : decode cX5_done 7 = .ok (.aload_n 0, 1) := by decide +kernel
theorem dX5_done_8 : decode cX5_done 8 = .ok (.getfield 24, 3) := by decide +kernel
theorem dX5_done_11 : decode cX5_done 11 = .ok (.aload_n 0, 1) := by decide +kernel
theorem dX5_done_12 : decode cX5_done 12 = .ok (.getfield 21, 3) := by decide +kernel
theorem dX5_done_15 : decode cX5_done 15 = .ok (.arraylength, 1) := by decide +kernel
theorem dX5_done_16 : decode cX5_done 16 = .ok (.if_icmp .le 5, 3) := by decide +kernel
theorem dX5_done_21 : decode cX5_done 21 = .ok (.aload_n 0, 1) := by decide +kernel
theorem dX5_done_22 : decode cX5_done 22 = .ok (.dup, 1) := by decide +kernel
theorem dX5_done_23 : decode cX5_done 23 = .ok (.getfield 24, 3) := by decide +kernel
theorem dX5_done_26 : decode cX5_done 26 = .ok (.iconst 1, 1) := by decide +kernel
theorem dX5_done_27 : decode cX5_done 27 = .ok (.isub, 1) := by decide +kernel
theorem dX5_done_28 : decode cX5_done 28 = .ok (.putfield 24, 3) := by decide +kernel
theorem dX5_done_31 : decode cX5_done 31 = .ok (.aload_n 0, 1) := by decide +kernel
theorem dX5_done_32 : decode cX5_done 32 = .ok (.getfield 21, 3) := by decide +kernel
theorem dX5_done_35 : decode cX5_done 35 = .ok (.aload_n 0, 1) := by decide +kernel
theorem dX5_done_36 : decode cX5_done 36 = .ok (.getfield 24, 3) := by decide +kernel
theorem dX5_done_39 : decode cX5_done 39 = .ok (.iaload, 1) := by decide +kernel
theorem dX11_wordAt_0 : decode cX11_wordAt 0 = .ok (.aload_n 0, 1) := by decide +kernel
theorem dX11_wordAt_1 : decode cX11_wordAt 1 = .ok (.getfield 35, 3) := by decide +kernel
theorem dX11_wordAt_4 : decode cX11_wordAt 4 = .ok (.iconst 1, 1) := by decide +kernel
theorem dX11_wordAt_5 : decode cX11_wordAt 5 = .ok (.isub, 1) := by decide +kernel
theorem dX11_wordAt_6 : decode cX11_wordAt 6 = .ok (.sipush 1000, 3) := by decide +kernel
theorem dX11_wordAt_9 : decode cX11_wordAt 9 = .ok (.imul, 1) := by decide +kernel
theorem dX11_wordAt_10 : decode cX11_wordAt 10 = .ok (.ireturn, 1) := by decide +kernel
theorem dX3_newWord_0 : decode cX3_newWord 0 = .ok (.aload_n 0, 1) := by decide +kernel
theorem dX3_newWord_1 : decode cX3_newWord 1 = .ok (.getfield 43, 3) := by decide +kernel
theorem dX3_newWord_4 : decode cX3_newWord 4 = .ok (.iload_n 3, 1) := by decide +kernel
theorem dX3_newWord_5 : decode cX3_newWord 5 = .ok (.iadd, 1) := by decide +kernel
theorem dX3_newWord_6 : decode cX3_newWord 6 = .ok (.aload_n 0, 1) := by decide +kernel
theorem dX3_newWord_7 : decode cX3_newWord 7 = .ok (.getfield 39, 3) := by decide +kernel
theorem dX3_newWord_10 : decode cX3_newWord 10 = .ok (.arraylength, 1) := by decide +kernel
theorem dX3_newWord_11 : decode cX3_newWord 11 = .ok (.if_icmp .le 11, 3) := by decide +kernel
theorem dX3_newWord_22 : decode cX3_newWord 22 = .ok (.aload_n 0, 1) := by decide +kernel
theorem dX3_newWord_23 : decode cX3_newWord 23 = .ok (.getfield 43, 3) := by decide +kernel
theorem dX3_newWord_26 : decode cX3_newWord 26 = .ok (.istore 4, 2) := by decide +kernel
theorem dX3_newWord_28 : decode cX3_newWord 28 = .ok (.iconst 0, 1) := by decide +kernel
theorem dX3_newWord_29 : decode cX3_newWord 29 = .ok (.istore 5, 2) := by decide +kernel
theorem dX3_newWord_31 : decode cX3_newWord 31 = .ok (.iload 5, 2) := by decide +kernel
theorem dX3_newWord_33 : decode cX3_newWord 33 = .ok (.iload_n 3, 1) := by decide +kernel
theorem dX3_newWord_34 : decode cX3_newWord 34 = .ok (.if_icmp .ge 29, 3) := by decide +kernel
theorem dX3_newWord_63 : decode cX3_newWord 63 = .ok (.aload_n 0, 1) := by decide +kernel
theorem dX3_newWord_64 : decode cX3_newWord 64 = .ok (.dup, 1) := by decide +kernel
theorem dX3_newWord_65 : decode cX3_newWord 65 = .ok (.getfield 43, 3) := by decide +kernel
theorem dX3_newWord_68 : decode cX3_newWord 68 = .ok (.iload_n 3, 1) := by decide +kernel
theorem dX3_newWord_69 : decode cX3_newWord 69 = .ok (.iadd, 1) := by decide +kernel
theorem dX3_newWord_70 : decode cX3_newWord 70 = .ok (.putfield 43, 3) := by decide +kernel
theorem dX3_newWord_73 : decode cX3_newWord 73 = .ok (.ldc 109, 2) := by decide +kernel
theorem dX3_newWord_75 : decode cX3_newWord 75 = .ok (.iload 4, 2) := by decide +kernel
theorem dX3_newWord_77 : decode cX3_newWord 77 = .ok (.bipush 10, 2) := by decide +kernel
theorem dX3_newWord_79 : decode cX3_newWord 79 = .ok (.ishl, 1) := by decide +kernel
theorem dX3_newWord_80 : decode cX3_newWord 80 = .ok (.ior, 1) := by decide +kernel
theorem dX3_newWord_81 : decode cX3_newWord 81 = .ok (.iload_n 3, 1) := by decide +kernel
theorem dX3_newWord_82 : decode cX3_newWord 82 = .ok (.ior, 1) := by decide +kernel
theorem dX3_newWord_83 : decode cX3_newWord 83 = .ok (.ireturn, 1) := by decide +kernel
theorem dX3_newWord_37 : decode cX3_newWord 37 = .ok (.aload_n 0, 1) := by decide +kernel
theorem dX3_newWord_38 : decode cX3_newWord 38 = .ok (.getfield 39, 3) := by decide +kernel
theorem dX3_newWord_41 : decode cX3_newWord 41 = .ok (.iload 4, 2) := by decide +kernel
theorem dX3_newWord_43 : decode cX3_newWord 43 = .ok (.iload 5, 2) := by decide +kernel
theorem dX3_newWord_45 : decode cX3_newWord 45 = .ok (.iadd, 1) := by decide +kernel
theorem dX3_newWord_46 : decode cX3_newWord 46 = .ok (.aload_n 1, 1) := by decide +kernel
theorem dX3_newWord_47 : decode cX3_newWord 47 = .ok (.iload_n 2, 1) := by decide +kernel
theorem dX3_newWord_48 : decode cX3_newWord 48 = .ok (.iload 5, 2) := by decide +kernel
theorem dX3_newWord_50 : decode cX3_newWord 50 = .ok (.iadd, 1) := by decide +kernel
theorem dX3_newWord_51 : decode cX3_newWord 51 = .ok (.invokestatic 101, 3) := by decide +kernel
theorem dX3_newWord_54 : decode cX3_newWord 54 = .ok (.invokestatic 105, 3) := by decide +kernel
theorem dX3_newWord_57 : decode cX3_newWord 57 = .ok (.iinc 5 1, 3) := by decide +kernel
theorem dX3_newWord_60 : decode cX3_newWord 60 = .ok (.goto (-29), 3) := by decide +kernel
theorem dX3_newWord_14 : decode cX3_newWord 14 = .ok (.new 79, 3) := by decide +kernel
theorem dX3_newWord_17 : decode cX3_newWord 17 = .ok (.dup, 1) := by decide +kernel
theorem dX3_newWord_18 : decode cX3_newWord 18 = .ok (.invokespecial 81, 3) := by decide +kernel
theorem dX3_newWord_21 : decode cX3_newWord 21 = .ok (.athrow, 1) := by decide +kernel
theorem atg_X3_81 : ∀ w ∈ (vx_at0 "TemplateHouse$Heap" 81 "java/lang/IllegalStateException" exn).filter goodWord, w ∈ zT := fun w hw => List.mem_filter.mpr ⟨(show ∀ w ∈ (vx_at0 "TemplateHouse$Heap" 81 "java/lang/IllegalStateException" exn).filter goodWord, w ∈ lw_tbl by decide +kernel) w hw, (List.mem_filter.mp hw).2⟩
theorem atb_X3_81 : ∀ w ∈ (vx_at0 "TemplateHouse$Heap" 81 "java/lang/IllegalStateException" exn).filter (fun w => !goodWord w), w ∈ zNest := by decide +kernel
theorem ato_X3_81 : ∀ w ∈ vx_at0 "TemplateHouse$Heap" 81 "java/lang/IllegalStateException" exn, vx_ot w = true := by decide +kernel
theorem atg_X5_236 : ∀ w ∈ (vx_at0 "TemplateHouse$Maker" 236 "java/lang/IllegalStateException" exn).filter goodWord, w ∈ zT := fun w hw => List.mem_filter.mpr ⟨(show ∀ w ∈ (vx_at0 "TemplateHouse$Maker" 236 "java/lang/IllegalStateException" exn).filter goodWord, w ∈ lw_tbl by decide +kernel) w hw, (List.mem_filter.mp hw).2⟩
theorem atb_X5_236 : ∀ w ∈ (vx_at0 "TemplateHouse$Maker" 236 "java/lang/IllegalStateException" exn).filter (fun w => !goodWord w), w ∈ zNest := by decide +kernel
theorem ato_X5_236 : ∀ w ∈ vx_at0 "TemplateHouse$Maker" 236 "java/lang/IllegalStateException" exn, vx_ot w = true := by decide +kernel
set_option maxRecDepth 20000 in
theorem kX0_tieParts (l : Launch) (G : zG) (T : tT) (κ : Nat → List Nat) (hst : l.stackTraces = false) (hE : tE G T κ) {a0 : Nat} (h0 : a0 ∈ κ 0) : tMv l G T yX0_tieParts cX0_tieParts 6 [] 3 73 0 0 [.ref a0] uT (uPv 0x0) := by
  refine tMv.intro hst rfl (Nat.le_of_ble_eq_true rfl) ?_
  intro w0 hw0 _ X hC hR hO hX
  refine z_aload_n hC (pc := 0) 0 dX0_tieParts_0 rfl rfl ?_
  refine u_get hC hw0 (pc := 1) zf0 1 (hE.o0 h0) rfl dX0_tieParts_1 zw449 (kk := fun va3 ta3 fa3 => ?_)
  obtain ⟨a3, ma3, rfl⟩ := ta3
  refine u_get hC hw0 (pc := 4) zf2 1 (hE.o2 ma3) rfl dX0_tieParts_4 zw237 (kk := fun va4 ta4 fa4 => ?_)
  obtain ⟨a4, ma4, rfl⟩ := ta4
  refine u_get hC hw0 (pc := 7) zf4 4 (hE.o4 ma4) rfl dX0_tieParts_7 zw213 (kk := fun va5 ta5 fa5 => ?_)
  obtain ⟨a5, ma5, rfl⟩ := ta5
  refine z_iconst hC (pc := 10) (v := 0) dX0_tieParts_10 (by decide) ?_
  refine t_callSNi hC hw0 (pc := 11) (As := [.ref a5, .int 0]) (kX12_get l G T κ hst hE ma5) trivial dmX12_get dX0_tieParts_11 zw1668 rfl rfl (Nat.le_of_ble_eq_true rfl) (Nat.le_of_ble_eq_true rfl) (Nat.le_of_ble_eq_true rfl) (Nat.le_of_ble_eq_true rfl) (Nat.le_of_ble_eq_true rfl) (fun _ _ _ h => nomatch h) (fun x7 cw6 nw6 w6 hw6 pw6 => ?_)
  obtain ⟨rfl, rfl, kw6⟩ := pw6
  refine z_istore_n hC (pc := 14) (lv' := [(1, .int x7), (0, .ref a0)]) dX0_tieParts_14 rfl (by decide) rfl ?_
  refine z_iconst hC (pc := 15) (v := 0) dX0_tieParts_15 (by decide) ?_
  refine z_istore_n hC (pc := 16) (lv' := [(2, .int 0), (1, .int x7), (0, .ref a0)]) dX0_tieParts_16 rfl (by decide) rfl ?_
  have j17 : ∀ (d17 : Nat), ∀ (w8 : va_W), tW T w8 → tKeep 0x0 w6 w8 → ∀ (x9 : Int32), ¬ x9 < 0 → (2 ^ 31 - (x9 : Int32).toInt).toNat ≤ d17 → zS X G 6 w8 [(0, .ref a0), (1, .int x7), (2, .int x9)] 0 0 17 [] := by
    intro d17
    induction d17 with
    | zero => intro w8 hw8 kw8 x9 v10 hd17; exact (t_zero hd17).elim
    | succ d17 ih17 =>
      intro w8 hw8 kw8 x9 v10 hd17
      refine z_iload_n hC (pc := 17) 2 dX0_tieParts_17 rfl rfl ?_
      refine z_aload_n hC (pc := 18) 0 dX0_tieParts_18 rfl rfl ?_
      refine u_getK hC (pc := 19) zf0 1 (tKeep.F kw8 (tKeep.F kw6 fa3 rfl) rfl) dX0_tieParts_19 zw449 (kk := ?_)
      refine u_get hC hw8 (pc := 22) zf2 10 (hE.o2 ma3) rfl dX0_tieParts_22 zw267 (kk := fun vx11 tx11 fx11 => ?_)
      obtain ⟨x11, rfl⟩ := tx11
      refine z_icmp_ge hC (pc := 25) 152 dX0_tieParts_25 (by decide) (fun c12 => ?_) (fun c12 => ?_)
      · exact hR _ _ _ _ _ dX0_tieParts_152 (Nat.le_of_ble_eq_true rfl) (Nat.le_of_ble_eq_true rfl) ⟨hw8, rfl, rfl, (tKeep.tr (tKeep.tr tKeep.rf kw6 rfl) kw8 rfl)⟩
      · refine z_iload_n hC (pc := 28) 2 dX0_tieParts_28 rfl rfl ?_
        refine z_bipush hC (pc := 29) (v := 6) dX0_tieParts_29 (by decide) ?_
        refine z_imul hC (pc := 31) (v := (x9 * 6)) dX0_tieParts_31 rfl ?_
        refine z_istore_n hC (pc := 32) (lv' := [(3, .int (x9 * 6)), (0, .ref a0), (1, .int x7), (2, .int x9)]) dX0_tieParts_32 rfl (by decide) rfl ?_
        refine z_aload_n hC (pc := 33) 1 dX0_tieParts_33 rfl rfl ?_
        refine u_getK hC (pc := 34) zf0 1 (tKeep.F kw8 (tKeep.F kw6 fa3 rfl) rfl) dX0_tieParts_34 zw449 (kk := ?_)
        refine u_get hC hw8 (pc := 37) zf2 9 (hE.o2 ma3) rfl dX0_tieParts_37 zw263 (kk := fun va13 ta13 fa13 => ?_)
        obtain ⟨a13, ma13, rfl⟩ := ta13
        refine z_iload_n hC (pc := 40) 0 dX0_tieParts_40 rfl rfl ?_
        refine z_iconst hC (pc := 41) (v := 4) dX0_tieParts_41 (by decide) ?_
        refine z_iadd hC (pc := 42) (v := ((x9 * 6) + 4)) dX0_tieParts_42 rfl ?_
        refine t_callSNi hC hw8 (pc := 43) (As := [.ref a13, .int ((x9 * 6) + 4)]) (kX12_get l G T κ hst hE ma13) trivial dmX12_get dX0_tieParts_43 zw1668 rfl rfl (Nat.le_of_ble_eq_true rfl) (Nat.le_of_ble_eq_true rfl) (Nat.le_of_ble_eq_true rfl) (Nat.le_of_ble_eq_true rfl) (Nat.le_of_ble_eq_true rfl) (fun _ _ _ h => nomatch h) (fun x15 cw14 nw14 w14 hw14 pw14 => ?_)
        obtain ⟨rfl, rfl, kw14⟩ := pw14
        refine z_iconst hC (pc := 46) (v := 1) dX0_tieParts_46 (by decide) ?_
        have j55 : ∀ (x16 : Int32), tZ (.int x16) → zS X G 6 w14 [(0, .ref a0), (1, .int x7), (2, .int x9), (3, .int (x9 * 6))] 0 0 55 [.int x16] := by
          intro x16 zx16
          refine z_istore hC (pc := 55) (lv' := [(4, .int x16), (0, .ref a0), (1, .int x7), (2, .int x9), (3, .int (x9 * 6))]) dX0_tieParts_55 (by decide) rfl ?_
          refine z_aload_n hC (pc := 57) 1 dX0_tieParts_57 rfl rfl ?_
          refine z_iload hC (pc := 58) 0 dX0_tieParts_58 rfl ?_
          have j78 : ∀ (w17 : va_W), tW T w17 → tKeep 0x0 w14 w17 → ∀ (x18 : Int32), zS X G 6 w17 [(0, .ref a0), (1, .int x7), (2, .int x9), (3, .int (x9 * 6)), (4, .int x16)] 0 0 78 [.int x18, .ref a0] := by
            intro w17 hw17 kw17 x18
            refine z_iload hC (pc := 78) 4 dX0_tieParts_78 rfl ?_
            have j88 : ∀ (x19 : Int32), tZ (.int x19) → zS X G 6 w17 [(0, .ref a0), (1, .int x7), (2, .int x9), (3, .int (x9 * 6))] 0 0 88 [.int x19, .int x18, .ref a0] := by
              intro x19 zx19
              refine z_aload_n hC (pc := 88) 0 dX0_tieParts_88 rfl rfl ?_
              refine u_getK hC (pc := 89) zf0 1 (tKeep.F kw17 (tKeep.F kw14 (tKeep.F kw8 (tKeep.F kw6 fa3 rfl) rfl) rfl) rfl) dX0_tieParts_89 zw449 (kk := ?_)
              refine u_getK hC (pc := 92) zf2 9 (tKeep.F kw17 (tKeep.F kw14 fa13 rfl) rfl) dX0_tieParts_92 zw263 (kk := ?_)
              refine z_iload_n hC (pc := 95) 3 dX0_tieParts_95 rfl rfl ?_
              refine z_iconst hC (pc := 96) (v := 1) dX0_tieParts_96 (by decide) ?_
              refine z_iadd hC (pc := 97) (v := ((x9 * 6) + 1)) dX0_tieParts_97 rfl ?_
              refine t_callSNi hC hw17 (pc := 98) (As := [.ref a13, .int ((x9 * 6) + 1)]) (kX12_get l G T κ hst hE ma13) trivial dmX12_get dX0_tieParts_98 zw1668 rfl rfl (Nat.le_of_ble_eq_true rfl) (Nat.le_of_ble_eq_true rfl) (Nat.le_of_ble_eq_true rfl) (Nat.le_of_ble_eq_true rfl) (Nat.le_of_ble_eq_true rfl) (fun _ _ _ h => nomatch h) (fun x21 cw20 nw20 w20 hw20 pw20 => ?_)
              obtain ⟨rfl, rfl, kw20⟩ := pw20
              refine z_aload_n hC (pc := 101) 0 dX0_tieParts_101 rfl rfl ?_
              refine u_getK hC (pc := 102) zf0 1 (tKeep.F kw20 (tKeep.F kw17 (tKeep.F kw14 (tKeep.F kw8 (tKeep.F kw6 fa3 rfl) rfl) rfl) rfl) rfl) dX0_tieParts_102 zw449 (kk := ?_)
              refine u_getK hC (pc := 105) zf2 9 (tKeep.F kw20 (tKeep.F kw17 (tKeep.F kw14 fa13 rfl) rfl) rfl) dX0_tieParts_105 zw263 (kk := ?_)
              refine z_iload_n hC (pc := 108) 3 dX0_tieParts_108 rfl rfl ?_
              refine z_iconst hC (pc := 109) (v := 2) dX0_tieParts_109 (by decide) ?_
              refine z_iadd hC (pc := 110) (v := ((x9 * 6) + 2)) dX0_tieParts_110 rfl ?_
              refine t_callSNi hC hw20 (pc := 111) (As := [.ref a13, .int ((x9 * 6) + 2)]) (kX12_get l G T κ hst hE ma13) trivial dmX12_get dX0_tieParts_111 zw1668 rfl rfl (Nat.le_of_ble_eq_true rfl) (Nat.le_of_ble_eq_true rfl) (Nat.le_of_ble_eq_true rfl) (Nat.le_of_ble_eq_true rfl) (Nat.le_of_ble_eq_true rfl) (fun _ _ _ h => nomatch h) (fun x23 cw22 nw22 w22 hw22 pw22 => ?_)
              obtain ⟨rfl, rfl, kw22⟩ := pw22
              obtain ⟨q24, hqq24⟩ := hE.o0 h0
              refine t_callVi hC hw22 (pc := 114) (As := [.int x18, .int x19, .int x21, .int x23]) (kX0_partFrom l G T κ hst hE h0) trivial dmX0_partFrom zf0 hqq24 dX0_tieParts_114 zw1727 rfl rfl (Nat.le_of_ble_eq_true rfl) (Nat.le_of_ble_eq_true rfl) (Nat.le_of_ble_eq_true rfl) (Nat.le_of_ble_eq_true rfl) (Nat.le_of_ble_eq_true rfl) (fun _ _ _ h => nomatch h) (fun x26 cw25 nw25 w25 hw25 pw25 => ?_)
              obtain ⟨rfl, rfl, kw25⟩ := pw25
              refine z_istore hC (pc := 117) (lv' := [(5, .int x26), (0, .ref a0), (1, .int x7), (2, .int x9), (3, .int (x9 * 6))]) dX0_tieParts_117 (by decide) rfl ?_
              refine z_aload_n hC (pc := 119) 1 dX0_tieParts_119 rfl rfl ?_
              refine u_getK hC (pc := 120) zf0 1 (tKeep.F kw25 (tKeep.F kw22 (tKeep.F kw20 (tKeep.F kw17 (tKeep.F kw14 (tKeep.F kw8 (tKeep.F kw6 fa3 rfl) rfl) rfl) rfl) rfl) rfl) rfl) dX0_tieParts_120 zw449 (kk := ?_)
              refine u_get hC hw25 (pc := 123) zf2 2 (hE.o2 ma3) rfl dX0_tieParts_123 zw241 (kk := fun va27 ta27 fa27 => ?_)
              obtain ⟨a27, ma27, rfl⟩ := ta27
              refine z_aload_n hC (pc := 126) 1 dX0_tieParts_126 rfl rfl ?_
              refine u_getK hC (pc := 127) zf0 1 (tKeep.F kw25 (tKeep.F kw22 (tKeep.F kw20 (tKeep.F kw17 (tKeep.F kw14 (tKeep.F kw8 (tKeep.F kw6 fa3 rfl) rfl) rfl) rfl) rfl) rfl) rfl) dX0_tieParts_127 zw449 (kk := ?_)
              refine u_getK hC (pc := 130) zf2 9 (tKeep.F kw25 (tKeep.F kw22 (tKeep.F kw20 (tKeep.F kw17 (tKeep.F kw14 fa13 rfl) rfl) rfl) rfl) rfl) dX0_tieParts_130 zw263 (kk := ?_)
              refine z_iload_n hC (pc := 133) 4 dX0_tieParts_133 rfl rfl ?_
              refine z_iconst hC (pc := 134) (v := 3) dX0_tieParts_134 (by decide) ?_
              refine z_iadd hC (pc := 135) (v := ((x9 * 6) + 3)) dX0_tieParts_135 rfl ?_
              refine t_callSNi hC hw25 (pc := 136) (As := [.ref a13, .int ((x9 * 6) + 3)]) (kX12_get l G T κ hst hE ma13) trivial dmX12_get dX0_tieParts_136 zw1668 rfl rfl (Nat.le_of_ble_eq_true rfl) (Nat.le_of_ble_eq_true rfl) (Nat.le_of_ble_eq_true rfl) (Nat.le_of_ble_eq_true rfl) (Nat.le_of_ble_eq_true rfl) (fun _ _ _ h => nomatch h) (fun x29 cw28 nw28 w28 hw28 pw28 => ?_)
              obtain ⟨rfl, rfl, kw28⟩ := pw28
              refine z_iconst hC (pc := 139) (v := 5) dX0_tieParts_139 (by decide) ?_
              refine z_iadd hC (pc := 140) (v := (x29 + 5)) dX0_tieParts_140 rfl ?_
              refine z_iload hC (pc := 141) 0 dX0_tieParts_141 rfl ?_
              refine t_callSNv hC hw28 (pc := 143) (As := [.ref a27, .int (x29 + 5), .int x26]) (kX12_set l G T κ hst hE ma27) trivial dmX12_set dX0_tieParts_143 zw1667 rfl rfl (Nat.le_of_ble_eq_true rfl) (Nat.le_of_ble_eq_true rfl) (Nat.le_of_ble_eq_true rfl) (Nat.le_of_ble_eq_true rfl) (Nat.le_of_ble_eq_true rfl) (fun _ _ _ h => nomatch h) (fun cw30 nw30 w30 hw30 pw30 => ?_)
              obtain ⟨rfl, rfl, kw30⟩ := pw30
              refine z_iinc hC (pc := 146) (v := (x9 + 1)) (lv' := [(2, .int (x9 + 1)), (5, .int x26), (0, .ref a0), (1, .int x7), (3, .int (x9 * 6))]) 3 dX0_tieParts_146 rfl (congrArg _ (by decide)) (by decide) rfl ?_
              refine z_goto hC (pc := 149) 17 dX0_tieParts_149 (by decide) ?_
              refine z_lvs [2, 3, 0] rfl ?_
              exact ih17 w30 hw30 (tKeep.tr (tKeep.tr (tKeep.tr (tKeep.tr (tKeep.tr (tKeep.tr (tKeep.tr (tKeep.tr tKeep.rf kw8 rfl) kw14 rfl) kw17 rfl) kw20 rfl) kw22 rfl) kw25 rfl) kw28 rfl) kw30 rfl) (x9 + 1) (t_nnI v10 (Int32.not_le.mp c12)) (t_up (Int32.not_le.mp c12) hd17)
            refine z_if_eq hC (pc := 80) 87 dX0_tieParts_80 (by decide) (fun c32 => ?_) (fun c32 => ?_)
            · refine z_iconst hC (pc := 87) (v := 0) dX0_tieParts_87 (by decide) ?_
              refine z_lvs [0, 1, 2, 3] rfl ?_
              exact j88 0 (Or.inl rfl)
            · refine z_iconst hC (pc := 83) (v := 1) dX0_tieParts_83 (by decide) ?_
              refine z_goto hC (pc := 84) 88 dX0_tieParts_84 (by decide) ?_
              refine z_lvs [0, 1, 2, 3] rfl ?_
              exact j88 1 (Or.inr rfl)
          refine z_if_eq hC (pc := 60) 77 dX0_tieParts_60 (by decide) (fun c33 => ?_) (fun c33 => ?_)
          · refine z_iload_n hC (pc := 77) 2 dX0_tieParts_77 rfl rfl ?_
            refine z_lvs [1, 2, 3, 4, 0] rfl ?_
            exact j78 w14 hw14 tKeep.rf x7
          · refine z_aload_n hC (pc := 63) 1 dX0_tieParts_63 rfl rfl ?_
            refine u_getK hC (pc := 64) zf0 1 (tKeep.F kw14 (tKeep.F kw8 (tKeep.F kw6 fa3 rfl) rfl) rfl) dX0_tieParts_64 zw449 (kk := ?_)
            refine u_getK hC (pc := 67) zf2 9 (tKeep.F kw14 fa13 rfl) dX0_tieParts_67 zw263 (kk := ?_)
            refine z_iload_n hC (pc := 70) 4 dX0_tieParts_70 rfl rfl ?_
            refine t_callSNi hC hw14 (pc := 71) (As := [.ref a13, .int (x9 * 6)]) (kX12_get l G T κ hst hE ma13) trivial dmX12_get dX0_tieParts_71 zw1668 rfl rfl (Nat.le_of_ble_eq_true rfl) (Nat.le_of_ble_eq_true rfl) (Nat.le_of_ble_eq_true rfl) (Nat.le_of_ble_eq_true rfl) (Nat.le_of_ble_eq_true rfl) (fun _ _ _ h => nomatch h) (fun x35 cw34 nw34 w34 hw34 pw34 => ?_)
            obtain ⟨rfl, rfl, kw34⟩ := pw34
            refine z_goto hC (pc := 74) 78 dX0_tieParts_74 (by decide) ?_
            refine z_lvs [1, 2, 3, 4, 0] rfl ?_
            exact j78 w34 hw34 (tKeep.tr tKeep.rf kw34 rfl) x35
        refine z_icmp_ne hC (pc := 47) 54 dX0_tieParts_47 (by decide) (fun c36 => ?_) (fun c36 => ?_)
        · refine z_iconst hC (pc := 54) (v := 0) dX0_tieParts_54 (by decide) ?_
          refine z_lvs [1, 2, 3, 0] rfl ?_
          exact j55 0 (Or.inl rfl)
        · refine z_iconst hC (pc := 50) (v := 1) dX0_tieParts_50 (by decide) ?_
          refine z_goto hC (pc := 51) 55 dX0_tieParts_51 (by decide) ?_
          refine z_lvs [1, 2, 3, 0] rfl ?_
          exact j55 1 (Or.inr rfl)
  refine z_lvs [2, 1, 0] rfl ?_
  exact j17 _ w6 hw6 tKeep.rf 0 (by decide) (Nat.le_refl _)
set_option maxRecDepth 20000 in
theorem kX12_fault (l : Launch) (G : zG) (T : tT) (κ : Nat → List Nat) (hst : l.stackTraces = false) (hE : tE G T κ) {a0 : Nat} (h0 : a0 ∈ κ 12) {x1 : Int32} : tMi l G T yX12_fault cX12_fault 2 .int [] 0 0 0 0 [.ref a0, .int x1] uT (uPi 0x0) := by
  refine tMi.intro hst rfl (Nat.le_of_ble_eq_true rfl) ?_
  intro w0 hw0 _ X hC hR hO hX
  refine z_iload_n hC (pc := 0) 1 dX12_fault_0 rfl rfl ?_
  refine z_if_ne hC (pc := 1) 9 dX12_fault_1 (by decide) (fun c4 => ?_) (fun c4 => ?_)
  · refine z_iload_n hC (pc := 9) 1 dX12_fault_9 rfl rfl ?_
    refine z_iconst hC (pc := 10) (v := 1) dX12_fault_10 (by decide) ?_
    have j34 : ∀ (x5 : Int32), zS X G 2 w0 [] 0 0 34 [.int x5] := by
      intro x5
      exact hR _ _ _ _ _ _ dX12_fault_34 rfl (Nat.le_of_ble_eq_true rfl) (Nat.le_of_ble_eq_true rfl) ⟨hw0, rfl, rfl, tKeep.rf⟩
    refine z_icmp_ne hC (pc := 11) 21 dX12_fault_11 (by decide) (fun c6 => ?_) (fun c6 => ?_)
    · refine z_iload_n hC (pc := 21) 1 dX12_fault_21 rfl rfl ?_
      refine z_iconst hC (pc := 22) (v := 2) dX12_fault_22 (by decide) ?_
      refine z_icmp_ne hC (pc := 23) 33 dX12_fault_23 (by decide) (fun c7 => ?_) (fun c7 => ?_)
      · refine z_iconst hC (pc := 33) (v := (-1)) dX12_fault_33 (by decide) ?_
        refine z_lvs [] rfl ?_
        exact j34 (-1)
      · refine z_aload_n hC (pc := 26) 0 dX12_fault_26 rfl rfl ?_
        refine u_get hC hw0 (pc := 27) zf12 15 (hE.o12 h0) rfl dX12_fault_27 zw723 (kk := fun vx8 tx8 fx8 => ?_)
        obtain ⟨x8, rfl⟩ := tx8
        refine z_goto hC (pc := 30) 34 dX12_fault_30 (by decide) ?_
        refine z_lvs [] rfl ?_
        exact j34 x8
    · refine z_aload_n hC (pc := 14) 0 dX12_fault_14 rfl rfl ?_
      refine u_get hC hw0 (pc := 15) zf12 14 (hE.o12 h0) rfl dX12_fault_15 zw722 (kk := fun vx9 tx9 fx9 => ?_)
      obtain ⟨x9, rfl⟩ := tx9
      refine z_goto hC (pc := 18) 34 dX12_fault_18 (by decide) ?_
      refine z_lvs [] rfl ?_
      exact j34 x9
  · refine z_aload_n hC (pc := 4) 0 dX12_fault_4 rfl rfl ?_
    refine u_get hC hw0 (pc := 5) zf12 13 (hE.o12 h0) rfl dX12_fault_5 zw721 (kk := fun vx10 tx10 fx10 => ?_)
    obtain ⟨x10, rfl⟩ := tx10
    exact hR _ _ _ _ _ _ dX12_fault_8 rfl (Nat.le_of_ble_eq_true rfl) (Nat.le_of_ble_eq_true rfl) ⟨hw0, rfl, rfl, tKeep.rf⟩
set_option maxRecDepth 20000 in
theorem kX8_takeBytes (l : Launch) (G : zG) (T : tT) (κ : Nat → List Nat) (hst : l.stackTraces = false) (hE : tE G T κ) {a0 : Nat} (h0 : a0 ∈ κ 8) {a1 : Nat} (h1 : tRd G κ a1) {x2 : Int32} : tMv l G T yX8_takeBytes cX8_takeBytes 4 [] 1 22 0 0 [.ref a0, .ref a1, .int x2] uT (uPv 0x10000000000000000000000000000000000000000000000000000000000000000000000000000000000000000000000000000000000000000000000000000000000) := by
  refine tMv.intro hst rfl (Nat.le_of_ble_eq_true rfl) ?_
  intro w0 hw0 _ X hC hR hO hX
  refine z_iconst hC (pc := 0) (v := 0) dX8_takeBytes_0 (by decide) ?_
  refine z_istore_n hC (pc := 1) (lv' := [(3, .int 0), (0, .ref a0), (1, .ref a1), (2, .int x2)]) dX8_takeBytes_1 rfl (by decide) rfl ?_
  have j2 : ∀ (d2 : Nat), ∀ (w5 : va_W), tW T w5 → tKeep 0x0 w0 w5 → ∀ (x6 : Int32), ¬ x6 < 0 → (2 ^ 31 - (x6 : Int32).toInt).toNat ≤ d2 → zS X G 4 w5 [(0, .ref a0), (1, .ref a1), (2, .int x2), (3, .int x6)] 0 0 2 [] := by
    intro d2
    induction d2 with
    | zero => intro w5 hw5 kw5 x6 v7 hd2; exact (t_zero hd2).elim
    | succ d2 ih2 =>
      intro w5 hw5 kw5 x6 v7 hd2
      refine z_iload_n hC (pc := 2) 3 dX8_takeBytes_2 rfl rfl ?_
      refine z_iload_n hC (pc := 3) 2 dX8_takeBytes_3 rfl rfl ?_
      refine z_icmp_ge hC (pc := 4) 31 dX8_takeBytes_4 (by decide) (fun c8 => ?_) (fun c8 => ?_)
      · refine z_aload_n hC (pc := 31) 0 dX8_takeBytes_31 rfl rfl ?_
        refine z_dup hC (pc := 32) dX8_takeBytes_32 rfl ?_
        refine u_get hC hw5 (pc := 33) zf8 8 (hE.o8 h0) rfl dX8_takeBytes_33 zw65 (kk := fun vx9 tx9 fx9 => ?_)
        obtain ⟨x9, rfl⟩ := tx9
        refine z_iload_n hC (pc := 36) 2 dX8_takeBytes_36 rfl rfl ?_
        refine z_iadd hC (pc := 37) (v := (x9 + x2)) dX8_takeBytes_37 rfl ?_
        refine u_put hC hw5 (pc := 38) zf8 8 (hE.o8 h0) rfl ⟨_, rfl⟩ dX8_takeBytes_38 zw65 rfl rfl rfl (kk := fun w10 hw10 fw10 kw10 => ?_)
        exact hR _ _ _ _ _ dX8_takeBytes_41 (Nat.le_of_ble_eq_true rfl) (Nat.le_of_ble_eq_true rfl) ⟨hw10, rfl, rfl, (tKeep.tr (tKeep.tr tKeep.rf kw5 rfl) kw10 rfl)⟩
      · refine z_aload_n hC (pc := 7) 0 dX8_takeBytes_7 rfl rfl ?_
        refine u_get hC hw5 (pc := 8) zf8 6 (hE.o8 h0) rfl dX8_takeBytes_8 zw60 (kk := fun va11 ta11 fa11 => ?_)
        obtain ⟨a11, ma11, rfl⟩ := ta11
        refine z_aload_n hC (pc := 11) 0 dX8_takeBytes_11 rfl rfl ?_
        refine u_get hC hw5 (pc := 12) zf8 8 (hE.o8 h0) rfl dX8_takeBytes_12 zw65 (kk := fun vx12 tx12 fx12 => ?_)
        obtain ⟨x12, rfl⟩ := tx12
        refine z_iload_n hC (pc := 15) 3 dX8_takeBytes_15 rfl rfl ?_
        refine z_iadd hC (pc := 16) (v := (x12 + x6)) dX8_takeBytes_16 rfl ?_
        refine z_aload_n hC (pc := 17) 1 dX8_takeBytes_17 rfl rfl ?_
        refine z_iload_n hC (pc := 18) 3 dX8_takeBytes_18 rfl rfl ?_
        refine t_callSNi hC hw5 (pc := 19) (As := [.ref a1, .int x6]) (kX12_getByte l G T κ hst hE h1) trivial dmX12_getByte dX8_takeBytes_19 zw822 rfl rfl (Nat.le_of_ble_eq_true rfl) (Nat.le_of_ble_eq_true rfl) (Nat.le_of_ble_eq_true rfl) (Nat.le_of_ble_eq_true rfl) (Nat.le_of_ble_eq_true rfl) (fun _ _ _ h => nomatch h) (fun x14 cw13 nw13 w13 hw13 pw13 => ?_)
        obtain ⟨rfl, rfl, kw13⟩ := pw13
        refine t_callSNv hC hw13 (pc := 22) (As := [.ref a11, .int (x12 + x6), .int x14]) (kX12_setByte l G T κ hst hE ma11) trivial dmX12_setByte dX8_takeBytes_22 zw823 rfl rfl (Nat.le_of_ble_eq_true rfl) (Nat.le_of_ble_eq_true rfl) (Nat.le_of_ble_eq_true rfl) (Nat.le_of_ble_eq_true rfl) (Nat.le_of_ble_eq_true rfl) (fun _ _ _ h => nomatch h) (fun cw15 nw15 w15 hw15 pw15 => ?_)
        obtain ⟨rfl, rfl, kw15⟩ := pw15
        refine z_iinc hC (pc := 25) (v := (x6 + 1)) (lv' := [(3, .int (x6 + 1)), (0, .ref a0), (1, .ref a1), (2, .int x2)]) 3 dX8_takeBytes_25 rfl (congrArg _ (by decide)) (by decide) rfl ?_
        refine z_goto hC (pc := 28) 2 dX8_takeBytes_28 (by decide) ?_
        refine z_lvs [1, 2, 3, 0] rfl ?_
        exact ih2 w15 hw15 (tKeep.tr (tKeep.tr (tKeep.tr tKeep.rf kw5 rfl) kw13 rfl) kw15 rfl) (x6 + 1) (t_nnI v7 (Int32.not_le.mp c8)) (t_up (Int32.not_le.mp c8) hd2)
  refine z_lvs [1, 2, 3, 0] rfl ?_
  exact j2 _ w0 hw0 tKeep.rf 0 (by decide) (Nat.le_refl _)
set_option maxRecDepth 20000 in
theorem kX8_is (l : Launch) (G : zG) (T : tT) (κ : Nat → List Nat) (hst : l.stackTraces = false) (hE : tE G T κ) {a0 : Nat} (h0 : a0 ∈ κ 8) {x1 : Int32} {x2 : Int32} : tMi l G T yX8_is cX8_is 3 .boolean [] 1 21 0 0 [.ref a0, .int x1, .int x2] uT (uPz 0x0) := by
  refine tMi.intro hst rfl (Nat.le_of_ble_eq_true rfl) ?_
  intro w0 hw0 _ X hC hR hO hX
  refine z_iload_n hC (pc := 0) 1 dX8_is_0 rfl rfl ?_
  have j29 : ∀ (w5 : va_W), tW T w5 → tKeep 0x0 w0 w5 → ∀ (x6 : Int32), tZ (.int x6) → zS X G 3 w5 [] 0 0 29 [.int x6] := by
    intro w5 hw5 kw5 x6 zx6
    exact hR _ _ _ _ _ _ dX8_is_29 (t_nZ zx6) (Nat.le_of_ble_eq_true rfl) (Nat.le_of_ble_eq_true rfl) ⟨hw5, rfl, rfl, (tKeep.tr tKeep.rf kw5 rfl), zx6⟩
  have j28 : ∀ (w7 : va_W), tW T w7 → tKeep 0x0 w0 w7 → zS X G 3 w7 [] 0 0 28 [] := by
    intro w7 hw7 kw7
    refine z_iconst hC (pc := 28) (v := 0) dX8_is_28 (by decide) ?_
    exact j29 w7 hw7 (tKeep.tr tKeep.rf kw7 rfl) 0 (Or.inl rfl)
  refine z_if_lt hC (pc := 1) 28 dX8_is_1 (by decide) (fun c8 => ?_) (fun c8 => ?_)
  · refine z_lvs [] rfl ?_
    exact j28 w0 hw0 tKeep.rf
  · refine z_iload_n hC (pc := 4) 1 dX8_is_4 rfl rfl ?_
    refine z_aload_n hC (pc := 5) 0 dX8_is_5 rfl rfl ?_
    refine u_get hC hw0 (pc := 6) zf8 7 (hE.o8 h0) rfl dX8_is_6 zw62 (kk := fun vx9 tx9 fx9 => ?_)
    obtain ⟨x9, rfl⟩ := tx9
    refine z_icmp_ge hC (pc := 9) 28 dX8_is_9 (by decide) (fun c10 => ?_) (fun c10 => ?_)
    · refine z_lvs [] rfl ?_
      exact j28 w0 hw0 tKeep.rf
    · refine z_aload_n hC (pc := 12) 0 dX8_is_12 rfl rfl ?_
      refine u_get hC hw0 (pc := 13) zf8 0 (hE.o8 h0) rfl dX8_is_13 zw47 (kk := fun va11 ta11 fa11 => ?_)
      obtain ⟨a11, ma11, rfl⟩ := ta11
      refine z_iload_n hC (pc := 16) 1 dX8_is_16 rfl rfl ?_
      refine t_callSNi hC hw0 (pc := 17) (As := [.ref a11, .int x1]) (kX12_get l G T κ hst hE ma11) trivial dmX12_get dX8_is_17 zw844 rfl rfl (Nat.le_of_ble_eq_true rfl) (Nat.le_of_ble_eq_true rfl) (Nat.le_of_ble_eq_true rfl) (Nat.le_of_ble_eq_true rfl) (Nat.le_of_ble_eq_true rfl) (fun _ _ _ h => nomatch h) (fun x13 cw12 nw12 w12 hw12 pw12 => ?_)
      obtain ⟨rfl, rfl, kw12⟩ := pw12
      refine z_iload_n hC (pc := 20) 2 dX8_is_20 rfl rfl ?_
      refine z_icmp_ne hC (pc := 21) 28 dX8_is_21 (by decide) (fun c14 => ?_) (fun c14 => ?_)
      · refine z_lvs [] rfl ?_
        exact j28 w12 hw12 (tKeep.tr tKeep.rf kw12 rfl)
      · refine z_iconst hC (pc := 24) (v := 1) dX8_is_24 (by decide) ?_
        refine z_goto hC (pc := 25) 29 dX8_is_25 (by decide) ?_
        refine z_lvs [] rfl ?_
        exact j29 w12 hw12 (tKeep.tr tKeep.rf kw12 rfl) 1 (Or.inr rfl)
set_option maxRecDepth 20000 in
theorem kX8_mayHave (l : Launch) (G : zG) (T : tT) (κ : Nat → List Nat) (hst : l.stackTraces = false) (hE : tE G T κ) {a0 : Nat} (h0 : a0 ∈ κ 8) {x1 : Int32} {x2 : Int32} : tMi l G T yX8_mayHave cX8_mayHave 3 .boolean [] 2 43 0 0 [.ref a0, .int x1, .int x2] uT (uPz 0x0) := by
  refine tMi.intro hst rfl (Nat.le_of_ble_eq_true rfl) ?_
  intro w0 hw0 _ X hC hR hO hX
  refine z_iload_n hC (pc := 0) 2 dX8_mayHave_0 rfl rfl ?_
  refine z_iconst hC (pc := 1) (v := (-1)) dX8_mayHave_1 (by decide) ?_
  have j13 : zS X G 3 w0 [] 0 0 13 [] := by
    refine z_iconst hC (pc := 13) (v := 0) dX8_mayHave_13 (by decide) ?_
    exact hR _ _ _ _ _ _ dX8_mayHave_14 rfl (Nat.le_of_ble_eq_true rfl) (Nat.le_of_ble_eq_true rfl) ⟨hw0, rfl, rfl, tKeep.rf, (Or.inl rfl)⟩
  refine z_icmp_lt hC (pc := 2) 13 dX8_mayHave_2 (by decide) (fun c5 => ?_) (fun c5 => ?_)
  · refine z_lvs [] rfl ?_
    exact j13
  · refine z_iload_n hC (pc := 5) 2 dX8_mayHave_5 rfl rfl ?_
    refine z_aload_n hC (pc := 6) 0 dX8_mayHave_6 rfl rfl ?_
    refine u_get hC hw0 (pc := 7) zf8 7 (hE.o8 h0) rfl dX8_mayHave_7 zw62 (kk := fun vx6 tx6 fx6 => ?_)
    obtain ⟨x6, rfl⟩ := tx6
    refine z_icmp_lt hC (pc := 10) 15 dX8_mayHave_10 (by decide) (fun c7 => ?_) (fun c7 => ?_)
    · refine z_iload_n hC (pc := 15) 2 dX8_mayHave_15 rfl rfl ?_
      refine z_iload_n hC (pc := 16) 1 dX8_mayHave_16 rfl rfl ?_
      have j34 : ∀ (w8 : va_W), tW T w8 → tKeep 0x0 w0 w8 → ∀ (x9 : Int32), tZ (.int x9) → zS X G 3 w8 [] 0 0 34 [.int x9] := by
        intro w8 hw8 kw8 x9 zx9
        exact hR _ _ _ _ _ _ dX8_mayHave_34 (t_nZ zx9) (Nat.le_of_ble_eq_true rfl) (Nat.le_of_ble_eq_true rfl) ⟨hw8, rfl, rfl, (tKeep.tr tKeep.rf kw8 rfl), zx9⟩
      have j29 : ∀ (w10 : va_W), tW T w10 → tKeep 0x0 w0 w10 → zS X G 3 w10 [] 0 0 29 [] := by
        intro w10 hw10 kw10
        refine z_iconst hC (pc := 29) (v := 1) dX8_mayHave_29 (by decide) ?_
        refine z_goto hC (pc := 30) 34 dX8_mayHave_30 (by decide) ?_
        exact j34 w10 hw10 (tKeep.tr tKeep.rf kw10 rfl) 1 (Or.inr rfl)
      refine z_icmp_lt hC (pc := 17) 29 dX8_mayHave_17 (by decide) (fun c11 => ?_) (fun c11 => ?_)
      · refine z_lvs [] rfl ?_
        exact j29 w0 hw0 tKeep.rf
      · refine z_aload_n hC (pc := 20) 0 dX8_mayHave_20 rfl rfl ?_
        refine z_iload_n hC (pc := 21) 2 dX8_mayHave_21 rfl rfl ?_
        refine z_iconst hC (pc := 22) (v := 5) dX8_mayHave_22 (by decide) ?_
        obtain ⟨q12, hqq12⟩ := hE.o8 h0
        refine t_callVi hC hw0 (pc := 23) (As := [.int x2, .int 5]) (kX8_is l G T κ hst hE h0) trivial dmX8_is zf8 hqq12 dX8_mayHave_23 zw847 rfl rfl (Nat.le_of_ble_eq_true rfl) (Nat.le_of_ble_eq_true rfl) (Nat.le_of_ble_eq_true rfl) (Nat.le_of_ble_eq_true rfl) (Nat.le_of_ble_eq_true rfl) (fun _ _ _ h => nomatch h) (fun x14 cw13 nw13 w13 hw13 pw13 => ?_)
        obtain ⟨rfl, rfl, kw13, zx14⟩ := pw13
        refine z_if_eq hC (pc := 26) 33 dX8_mayHave_26 (by decide) (fun c15 => ?_) (fun c15 => ?_)
        · refine z_iconst hC (pc := 33) (v := 0) dX8_mayHave_33 (by decide) ?_
          refine z_lvs [] rfl ?_
          exact j34 w13 hw13 (tKeep.tr tKeep.rf kw13 rfl) 0 (Or.inl rfl)
        · refine z_lvs [] rfl ?_
          exact j29 w13 hw13 (tKeep.tr tKeep.rf kw13 rfl)
    · refine z_lvs [] rfl ?_
      exact j13
set_option maxRecDepth 20000 in
theorem kX8_append (l : Launch) (G : zG) (T : tT) (κ : Nat → List Nat) (hst : l.stackTraces = false) (hE : tE G T κ) {a0 : Nat} (h0 : a0 ∈ κ 8) {x1 : Int32} {x2 : Int32} : tMi l G T yX8_append cX8_append 4 .boolean [] 3 65 0 0 [.ref a0, .int x1, .int x2] uT (uPz 0x20000000000000000000000000000000000000000000000000000000000000000000000000000000000000000000000000000000000000000000000000000000000) := by
  refine tMi.intro hst rfl (Nat.le_of_ble_eq_true rfl) ?_
  intro w0 hw0 _ X hC hR hO hX
  refine z_aload_n hC (pc := 0) 0 dX8_append_0 rfl rfl ?_
  refine u_get hC hw0 (pc := 1) zf8 4 (hE.o8 h0) rfl dX8_append_1 zw55 (kk := fun va5 ta5 fa5 => ?_)
  obtain ⟨a5, ma5, rfl⟩ := ta5
  refine z_iload_n hC (pc := 4) 1 dX8_append_4 rfl rfl ?_
  refine t_callSNi hC hw0 (pc := 5) (As := [.ref a5, .int x1]) (kX12_get l G T κ hst hE ma5) trivial dmX12_get dX8_append_5 zw844 rfl rfl (Nat.le_of_ble_eq_true rfl) (Nat.le_of_ble_eq_true rfl) (Nat.le_of_ble_eq_true rfl) (Nat.le_of_ble_eq_true rfl) (Nat.le_of_ble_eq_true rfl) (fun _ _ _ h => nomatch h) (fun x7 cw6 nw6 w6 hw6 pw6 => ?_)
  obtain ⟨rfl, rfl, kw6⟩ := pw6
  refine z_istore_n hC (pc := 8) (lv' := [(3, .int x7), (0, .ref a0), (1, .int x1), (2, .int x2)]) dX8_append_8 rfl (by decide) rfl ?_
  refine z_aload_n hC (pc := 9) 1 dX8_append_9 rfl rfl ?_
  refine z_iload_n hC (pc := 10) 2 dX8_append_10 rfl rfl ?_
  refine z_iconst hC (pc := 11) (v := 3) dX8_append_11 (by decide) ?_
  obtain ⟨q8, hqq8⟩ := hE.o8 h0
  refine t_callVi hC hw6 (pc := 12) (As := [.int x1, .int 3]) (kX8_is l G T κ hst hE h0) trivial dmX8_is zf8 hqq8 dX8_append_12 zw847 rfl rfl (Nat.le_of_ble_eq_true rfl) (Nat.le_of_ble_eq_true rfl) (Nat.le_of_ble_eq_true rfl) (Nat.le_of_ble_eq_true rfl) (Nat.le_of_ble_eq_true rfl) (fun _ _ _ h => nomatch h) (fun x10 cw9 nw9 w9 hw9 pw9 => ?_)
  obtain ⟨rfl, rfl, kw9, zx10⟩ := pw9
  have j43 : ∀ (w11 : va_W), tW T w11 → tKeep 0x0 w9 w11 → zS X G 4 w11 [] 0 0 43 [] := by
    intro w11 hw11 kw11
    refine z_iconst hC (pc := 43) (v := 0) dX8_append_43 (by decide) ?_
    exact hR _ _ _ _ _ _ dX8_append_44 rfl (Nat.le_of_ble_eq_true rfl) (Nat.le_of_ble_eq_true rfl) ⟨hw11, rfl, rfl, (tKeep.tr (tKeep.tr (tKeep.tr tKeep.rf kw6 rfl) kw9 rfl) kw11 rfl), (Or.inl rfl)⟩
  refine z_if_eq hC (pc := 15) 43 dX8_append_15 (by decide) (fun c12 => ?_) (fun c12 => ?_)
  · refine z_lvs [] rfl ?_
    exact j43 w9 hw9 tKeep.rf
  · refine z_aload_n hC (pc := 18) 1 dX8_append_18 rfl rfl ?_
    refine z_iload_n hC (pc := 19) 2 dX8_append_19 rfl rfl ?_
    refine z_iload_n hC (pc := 20) 3 dX8_append_20 rfl rfl ?_
    refine t_callVi hC hw9 (pc := 21) (As := [.int x1, .int x2]) (kX8_mayHave l G T κ hst hE h0) trivial dmX8_mayHave zf8 hqq8 dX8_append_21 zw851 rfl rfl (Nat.le_of_ble_eq_true rfl) (Nat.le_of_ble_eq_true rfl) (Nat.le_of_ble_eq_true rfl) (Nat.le_of_ble_eq_true rfl) (Nat.le_of_ble_eq_true rfl) (fun _ _ _ h => nomatch h) (fun x14 cw13 nw13 w13 hw13 pw13 => ?_)
    obtain ⟨rfl, rfl, kw13, zx14⟩ := pw13
    refine z_if_eq hC (pc := 24) 43 dX8_append_24 (by decide) (fun c15 => ?_) (fun c15 => ?_)
    · refine z_lvs [] rfl ?_
      exact j43 w13 hw13 (tKeep.tr tKeep.rf kw13 rfl)
    · refine z_iload_n hC (pc := 27) 0 dX8_append_27 rfl rfl ?_
      refine z_bipush hC (pc := 28) (v := 100) dX8_append_28 (by decide) ?_
      refine z_icmp_ge hC (pc := 30) 43 dX8_append_30 (by decide) (fun c16 => ?_) (fun c16 => ?_)
      · refine z_lvs [] rfl ?_
        exact j43 w13 hw13 (tKeep.tr tKeep.rf kw13 rfl)
      · refine z_aload_n hC (pc := 33) 1 dX8_append_33 rfl rfl ?_
        refine u_get hC hw13 (pc := 34) zf8 9 (hE.o8 h0) rfl dX8_append_34 zw67 (kk := fun vx17 tx17 fx17 => ?_)
        obtain ⟨x17, rfl⟩ := tx17
        refine z_sipush hC (pc := 37) (v := 4000) dX8_append_37 (by decide) ?_
        refine z_icmp_lt hC (pc := 40) 45 dX8_append_40 (by decide) (fun c18 => ?_) (fun c18 => ?_)
        · refine z_aload_n hC (pc := 45) 1 dX8_append_45 rfl rfl ?_
          refine u_get hC hw13 (pc := 46) zf8 5 (hE.o8 h0) rfl dX8_append_46 zw57 (kk := fun va19 ta19 fa19 => ?_)
          obtain ⟨a19, ma19, rfl⟩ := ta19
          refine z_iload_n hC (pc := 49) 2 dX8_append_49 rfl rfl ?_
          refine z_bipush hC (pc := 50) (v := 100) dX8_append_50 (by decide) ?_
          refine z_imul hC (pc := 52) (v := (x1 * 100)) dX8_append_52 rfl ?_
          refine z_iload_n hC (pc := 53) 0 dX8_append_53 rfl rfl ?_
          refine z_iadd hC (pc := 54) (v := ((x1 * 100) + x7)) dX8_append_54 rfl ?_
          refine z_iload_n hC (pc := 55) 3 dX8_append_55 rfl rfl ?_
          refine t_callSNv hC hw13 (pc := 56) (As := [.ref a19, .int ((x1 * 100) + x7), .int x2]) (kX12_set l G T κ hst hE ma19) trivial dmX12_set dX8_append_56 zw803 rfl rfl (Nat.le_of_ble_eq_true rfl) (Nat.le_of_ble_eq_true rfl) (Nat.le_of_ble_eq_true rfl) (Nat.le_of_ble_eq_true rfl) (Nat.le_of_ble_eq_true rfl) (fun _ _ _ h => nomatch h) (fun cw20 nw20 w20 hw20 pw20 => ?_)
          obtain ⟨rfl, rfl, kw20⟩ := pw20
          refine z_aload_n hC (pc := 59) 1 dX8_append_59 rfl rfl ?_
          refine u_getK hC (pc := 60) zf8 4 (tKeep.F kw20 (tKeep.F kw13 (tKeep.F kw9 (tKeep.F kw6 fa5 rfl) rfl) rfl) rfl) dX8_append_60 zw55 (kk := ?_)
          refine z_iload_n hC (pc := 63) 2 dX8_append_63 rfl rfl ?_
          refine z_iload_n hC (pc := 64) 0 dX8_append_64 rfl rfl ?_
          refine z_iconst hC (pc := 65) (v := 1) dX8_append_65 (by decide) ?_
          refine z_iadd hC (pc := 66) (v := (x7 + 1)) dX8_append_66 rfl ?_
          refine t_callSNv hC hw20 (pc := 67) (As := [.ref a5, .int x1, .int (x7 + 1)]) (kX12_set l G T κ hst hE ma5) trivial dmX12_set dX8_append_67 zw803 rfl rfl (Nat.le_of_ble_eq_true rfl) (Nat.le_of_ble_eq_true rfl) (Nat.le_of_ble_eq_true rfl) (Nat.le_of_ble_eq_true rfl) (Nat.le_of_ble_eq_true rfl) (fun _ _ _ h => nomatch h) (fun cw22 nw22 w22 hw22 pw22 => ?_)
          obtain ⟨rfl, rfl, kw22⟩ := pw22
          refine z_aload_n hC (pc := 70) 1 dX8_append_70 rfl rfl ?_
          refine z_dup hC (pc := 71) dX8_append_71 rfl ?_
          refine u_getK hC (pc := 72) zf8 9 (tKeep.F kw22 (tKeep.F kw20 fx17 rfl) rfl) dX8_append_72 zw67 (kk := ?_)
          refine z_iconst hC (pc := 75) (v := 1) dX8_append_75 (by decide) ?_
          refine z_iadd hC (pc := 76) (v := (x17 + 1)) dX8_append_76 rfl ?_
          refine u_put hC hw22 (pc := 77) zf8 9 (hE.o8 h0) rfl ⟨_, rfl⟩ dX8_append_77 zw67 rfl rfl rfl (kk := fun w24 hw24 fw24 kw24 => ?_)
          refine z_iconst hC (pc := 80) (v := 1) dX8_append_80 (by decide) ?_
          exact hR _ _ _ _ _ _ dX8_append_81 rfl (Nat.le_of_ble_eq_true rfl) (Nat.le_of_ble_eq_true rfl) ⟨hw24, rfl, rfl, (tKeep.tr (tKeep.tr (tKeep.tr (tKeep.tr (tKeep.tr (tKeep.tr tKeep.rf kw6 rfl) kw9 rfl) kw13 rfl) kw20 rfl) kw22 rfl) kw24 rfl), (Or.inr rfl)⟩
        · refine z_lvs [] rfl ?_
          exact j43 w13 hw13 (tKeep.tr tKeep.rf kw13 rfl)
set_option maxRecDepth 20000 in
theorem kX12_add (l : Launch) (G : zG) (T : tT) (κ : Nat → List Nat) (hst : l.stackTraces = false) (hE : tE G T κ) {a0 : Nat} (h0 : a0 ∈ κ 12) {x1 : Int32} {x2 : Int32} : tMi l G T yX12_add cX12_add 3 .boolean [] 4 88 0 0 [.ref a0, .int x1, .int x2] uT (uPz 0x20000000000000000000000000000000000000000000000000000000000000000000000000000000000000000000000000000000000000000000000000000000000) := by
  refine tMi.intro hst rfl (Nat.le_of_ble_eq_true rfl) ?_
  intro w0 hw0 _ X hC hR hO hX
  refine z_aload_n hC (pc := 0) 0 dX12_add_0 rfl rfl ?_
  refine u_get hC hw0 (pc := 1) zf12 17 (hE.o12 h0) rfl dX12_add_1 zw725 (kk := fun vx5 tx5 fx5 => ?_)
  obtain ⟨x5, rfl⟩ := tx5
  refine z_iconst hC (pc := 4) (v := 1) dX12_add_4 (by decide) ?_
  have j25 : ∀ (w6 : va_W), tW T w6 → tKeep 0x20000000000000000000000000000000000000000000000000000000000000000000000000000000000000000000000000000000000000000000000000000000000 w0 w6 → ∀ (x7 : Int32), tZ (.int x7) → zS X G 3 w6 [] 0 0 25 [.int x7] := by
    intro w6 hw6 kw6 x7 zx7
    exact hR _ _ _ _ _ _ dX12_add_25 (t_nZ zx7) (Nat.le_of_ble_eq_true rfl) (Nat.le_of_ble_eq_true rfl) ⟨hw6, rfl, rfl, (tKeep.tr tKeep.rf kw6 rfl), zx7⟩
  have j24 : ∀ (w8 : va_W), tW T w8 → tKeep 0x20000000000000000000000000000000000000000000000000000000000000000000000000000000000000000000000000000000000000000000000000000000000 w0 w8 → zS X G 3 w8 [] 0 0 24 [] := by
    intro w8 hw8 kw8
    refine z_iconst hC (pc := 24) (v := 0) dX12_add_24 (by decide) ?_
    exact j25 w8 hw8 (tKeep.tr tKeep.rf kw8 rfl) 0 (Or.inl rfl)
  refine z_icmp_eq hC (pc := 5) 24 dX12_add_5 (by decide) (fun c9 => ?_) (fun c9 => ?_)
  · refine z_lvs [] rfl ?_
    exact j24 w0 hw0 tKeep.rf
  · refine z_aload_n hC (pc := 8) 0 dX12_add_8 rfl rfl ?_
    refine u_get hC hw0 (pc := 9) zf12 5 (hE.o12 h0) rfl dX12_add_9 zw713 (kk := fun va10 ta10 fa10 => ?_)
    obtain ⟨a10, ma10, rfl⟩ := ta10
    refine z_iload_n hC (pc := 12) 1 dX12_add_12 rfl rfl ?_
    refine z_iload_n hC (pc := 13) 2 dX12_add_13 rfl rfl ?_
    obtain ⟨q11, hqq11⟩ := hE.o8 ma10
    refine t_callVi hC hw0 (pc := 14) (As := [.int x1, .int x2]) (kX8_append l G T κ hst hE ma10) trivial dmX8_append zf8 hqq11 dX12_add_14 zw840 rfl rfl (Nat.le_of_ble_eq_true rfl) (Nat.le_of_ble_eq_true rfl) (Nat.le_of_ble_eq_true rfl) (Nat.le_of_ble_eq_true rfl) (Nat.le_of_ble_eq_true rfl) (fun _ _ _ h => nomatch h) (fun x13 cw12 nw12 w12 hw12 pw12 => ?_)
    obtain ⟨rfl, rfl, kw12, zx13⟩ := pw12
    refine z_if_eq hC (pc := 17) 24 dX12_add_17 (by decide) (fun c14 => ?_) (fun c14 => ?_)
    · refine z_lvs [] rfl ?_
      exact j24 w12 hw12 (tKeep.tr tKeep.rf kw12 rfl)
    · refine z_iconst hC (pc := 20) (v := 1) dX12_add_20 (by decide) ?_
      refine z_goto hC (pc := 21) 25 dX12_add_21 (by decide) ?_
      refine z_lvs [] rfl ?_
      exact j25 w12 hw12 (tKeep.tr tKeep.rf kw12 rfl) 1 (Or.inr rfl)
set_option maxRecDepth 20000 in
theorem kX8_addAttribute (l : Launch) (G : zG) (T : tT) (κ : Nat → List Nat) (hst : l.stackTraces = false) (hE : tE G T κ) {a0 : Nat} (h0 : a0 ∈ κ 8) {a1 : Nat} (h1 : tRd G κ a1) {x2 : Int32} {x3 : Int32} : tMi l G T yX8_addAttribute cX8_addAttribute 5 .int [] 1 22 0 0 [.ref a0, .ref a1, .int x2, .int x3] uT (uPi 0x200000000000000000000000000000000000000000000000000000000000000000000000000000000000000000000000000000000000000000000000000000000000) := by
  refine tMi.intro hst rfl (Nat.le_of_ble_eq_true rfl) ?_
  intro w0 hw0 _ X hC hR hO hX
  refine z_iload_n hC (pc := 0) 3 dX8_addAttribute_0 rfl rfl ?_
  refine z_iconst hC (pc := 1) (v := (-1)) dX8_addAttribute_1 (by decide) ?_
  have j13 : zS X G 5 w0 [] 0 0 13 [] := by
    refine z_iconst hC (pc := 13) (v := (-1)) dX8_addAttribute_13 (by decide) ?_
    exact hR _ _ _ _ _ _ dX8_addAttribute_14 rfl (Nat.le_of_ble_eq_true rfl) (Nat.le_of_ble_eq_true rfl) ⟨hw0, rfl, rfl, tKeep.rf⟩
  refine z_icmp_lt hC (pc := 2) 13 dX8_addAttribute_2 (by decide) (fun c6 => ?_) (fun c6 => ?_)
  · refine z_lvs [] rfl ?_
    exact j13
  · refine z_iload_n hC (pc := 5) 3 dX8_addAttribute_5 rfl rfl ?_
    refine z_aload_n hC (pc := 6) 0 dX8_addAttribute_6 rfl rfl ?_
    refine u_get hC hw0 (pc := 7) zf8 7 (hE.o8 h0) rfl dX8_addAttribute_7 zw62 (kk := fun vx7 tx7 fx7 => ?_)
    obtain ⟨x7, rfl⟩ := tx7
    refine z_icmp_lt hC (pc := 10) 15 dX8_addAttribute_10 (by decide) (fun c8 => ?_) (fun c8 => ?_)
    · refine z_iload_n hC (pc := 15) 2 dX8_addAttribute_15 rfl rfl ?_
      refine z_iconst hC (pc := 16) (v := 1) dX8_addAttribute_16 (by decide) ?_
      have j35 : zS X G 5 w0 [] 0 0 35 [] := by
        refine z_iconst hC (pc := 35) (v := (-1)) dX8_addAttribute_35 (by decide) ?_
        exact hR _ _ _ _ _ _ dX8_addAttribute_36 rfl (Nat.le_of_ble_eq_true rfl) (Nat.le_of_ble_eq_true rfl) ⟨hw0, rfl, rfl, tKeep.rf⟩
      refine z_icmp_lt hC (pc := 17) 35 dX8_addAttribute_17 (by decide) (fun c9 => ?_) (fun c9 => ?_)
      · refine z_lvs [] rfl ?_
        exact j35
      · refine z_iload_n hC (pc := 20) 2 dX8_addAttribute_20 rfl rfl ?_
        refine z_bipush hC (pc := 21) (v := 16) dX8_addAttribute_21 (by decide) ?_
        refine z_icmp_gt hC (pc := 23) 35 dX8_addAttribute_23 (by decide) (fun c10 => ?_) (fun c10 => ?_)
        · refine z_lvs [] rfl ?_
          exact j35
        · refine z_aload_n hC (pc := 26) 0 dX8_addAttribute_26 rfl rfl ?_
          refine u_get hC hw0 (pc := 27) zf8 13 (hE.o8 h0) rfl dX8_addAttribute_27 zw74 (kk := fun vx11 tx11 fx11 => ?_)
          obtain ⟨x11, rfl⟩ := tx11
          refine z_bipush hC (pc := 30) (v := 40) dX8_addAttribute_30 (by decide) ?_
          refine z_icmp_lt hC (pc := 32) 37 dX8_addAttribute_32 (by decide) (fun c12 => ?_) (fun c12 => ?_)
          · refine z_iconst hC (pc := 37) (v := 0) dX8_addAttribute_37 (by decide) ?_
            refine z_istore hC (pc := 38) (lv' := [(4, .int 0), (0, .ref a0), (1, .ref a1), (2, .int x2), (3, .int x3)]) dX8_addAttribute_38 (by decide) rfl ?_
            have j40 : ∀ (d40 : Nat), ∀ (w13 : va_W), tW T w13 → tKeep 0x0 w0 w13 → ∀ (x14 : Int32), ¬ x14 < 0 → (2 ^ 31 - (x14 : Int32).toInt).toNat ≤ d40 → zS X G 5 w13 [(0, .ref a0), (1, .ref a1), (2, .int x2), (3, .int x3), (4, .int x14)] 0 0 40 [] := by
              intro d40
              induction d40 with
              | zero => intro w13 hw13 kw13 x14 v15 hd40; exact (t_zero hd40).elim
              | succ d40 ih40 =>
                intro w13 hw13 kw13 x14 v15 hd40
                refine z_iload hC (pc := 40) 4 dX8_addAttribute_40 rfl ?_
                refine z_iload_n hC (pc := 42) 2 dX8_addAttribute_42 rfl rfl ?_
                refine z_icmp_ge hC (pc := 43) 75 dX8_addAttribute_43 (by decide) (fun c16 => ?_) (fun c16 => ?_)
                · refine z_aload_n hC (pc := 75) 0 dX8_addAttribute_75 rfl rfl ?_
                  refine u_get hC hw13 (pc := 76) zf8 11 (hE.o8 h0) rfl dX8_addAttribute_76 zw70 (kk := fun va17 ta17 fa17 => ?_)
                  obtain ⟨a17, ma17, rfl⟩ := ta17
                  refine z_aload_n hC (pc := 79) 0 dX8_addAttribute_79 rfl rfl ?_
                  refine u_getK hC (pc := 80) zf8 13 (tKeep.F kw13 fx11 rfl) dX8_addAttribute_80 zw74 (kk := ?_)
                  refine z_iload_n hC (pc := 83) 2 dX8_addAttribute_83 rfl rfl ?_
                  refine t_callSNv hC hw13 (pc := 84) (As := [.ref a17, .int x11, .int x2]) (kX12_set l G T κ hst hE ma17) trivial dmX12_set dX8_addAttribute_84 zw803 rfl rfl (Nat.le_of_ble_eq_true rfl) (Nat.le_of_ble_eq_true rfl) (Nat.le_of_ble_eq_true rfl) (Nat.le_of_ble_eq_true rfl) (Nat.le_of_ble_eq_true rfl) (fun _ _ _ h => nomatch h) (fun cw18 nw18 w18 hw18 pw18 => ?_)
                  obtain ⟨rfl, rfl, kw18⟩ := pw18
                  refine z_aload_n hC (pc := 87) 0 dX8_addAttribute_87 rfl rfl ?_
                  refine u_get hC hw18 (pc := 88) zf8 12 (hE.o8 h0) rfl dX8_addAttribute_88 zw72 (kk := fun va20 ta20 fa20 => ?_)
                  obtain ⟨a20, ma20, rfl⟩ := ta20
                  refine z_aload_n hC (pc := 91) 0 dX8_addAttribute_91 rfl rfl ?_
                  refine u_getK hC (pc := 92) zf8 13 (tKeep.F kw18 (tKeep.F kw13 fx11 rfl) rfl) dX8_addAttribute_92 zw74 (kk := ?_)
                  refine z_iload_n hC (pc := 95) 3 dX8_addAttribute_95 rfl rfl ?_
                  refine t_callSNv hC hw18 (pc := 96) (As := [.ref a20, .int x11, .int x3]) (kX12_set l G T κ hst hE ma20) trivial dmX12_set dX8_addAttribute_96 zw803 rfl rfl (Nat.le_of_ble_eq_true rfl) (Nat.le_of_ble_eq_true rfl) (Nat.le_of_ble_eq_true rfl) (Nat.le_of_ble_eq_true rfl) (Nat.le_of_ble_eq_true rfl) (fun _ _ _ h => nomatch h) (fun cw21 nw21 w21 hw21 pw21 => ?_)
                  obtain ⟨rfl, rfl, kw21⟩ := pw21
                  refine z_aload_n hC (pc := 99) 0 dX8_addAttribute_99 rfl rfl ?_
                  refine z_dup hC (pc := 100) dX8_addAttribute_100 rfl ?_
                  refine u_getK hC (pc := 101) zf8 13 (tKeep.F kw21 (tKeep.F kw18 (tKeep.F kw13 fx11 rfl) rfl) rfl) dX8_addAttribute_101 zw74 (kk := ?_)
                  refine z_iconst hC (pc := 104) (v := 1) dX8_addAttribute_104 (by decide) ?_
                  refine z_iadd hC (pc := 105) (v := (x11 + 1)) dX8_addAttribute_105 rfl ?_
                  refine u_put hC hw21 (pc := 106) zf8 13 (hE.o8 h0) rfl ⟨_, rfl⟩ dX8_addAttribute_106 zw74 rfl rfl rfl (kk := fun w23 hw23 fw23 kw23 => ?_)
                  refine z_aload_n hC (pc := 109) 0 dX8_addAttribute_109 rfl rfl ?_
                  refine u_getK hC (pc := 110) zf8 13 fw23 dX8_addAttribute_110 zw74 (kk := ?_)
                  exact hR _ _ _ _ _ _ dX8_addAttribute_113 rfl (Nat.le_of_ble_eq_true rfl) (Nat.le_of_ble_eq_true rfl) ⟨hw23, rfl, rfl, (tKeep.tr (tKeep.tr (tKeep.tr (tKeep.tr tKeep.rf kw13 rfl) kw18 rfl) kw21 rfl) kw23 rfl)⟩
                · refine z_aload_n hC (pc := 46) 0 dX8_addAttribute_46 rfl rfl ?_
                  refine u_get hC hw13 (pc := 47) zf8 10 (hE.o8 h0) rfl dX8_addAttribute_47 zw68 (kk := fun va24 ta24 fa24 => ?_)
                  obtain ⟨a24, ma24, rfl⟩ := ta24
                  refine z_aload_n hC (pc := 50) 0 dX8_addAttribute_50 rfl rfl ?_
                  refine u_getK hC (pc := 51) zf8 13 (tKeep.F kw13 fx11 rfl) dX8_addAttribute_51 zw74 (kk := ?_)
                  refine z_bipush hC (pc := 54) (v := 16) dX8_addAttribute_54 (by decide) ?_
                  refine z_imul hC (pc := 56) (v := (x11 * 16)) dX8_addAttribute_56 rfl ?_
                  refine z_iload hC (pc := 57) 4 dX8_addAttribute_57 rfl ?_
                  refine z_iadd hC (pc := 59) (v := ((x11 * 16) + x14)) dX8_addAttribute_59 rfl ?_
                  refine z_aload_n hC (pc := 60) 1 dX8_addAttribute_60 rfl rfl ?_
                  refine z_iload hC (pc := 61) 4 dX8_addAttribute_61 rfl ?_
                  refine t_callSNi hC hw13 (pc := 63) (As := [.ref a1, .int x14]) (kX12_getByte l G T κ hst hE h1) trivial dmX12_getByte dX8_addAttribute_63 zw822 rfl rfl (Nat.le_of_ble_eq_true rfl) (Nat.le_of_ble_eq_true rfl) (Nat.le_of_ble_eq_true rfl) (Nat.le_of_ble_eq_true rfl) (Nat.le_of_ble_eq_true rfl) (fun _ _ _ h => nomatch h) (fun x26 cw25 nw25 w25 hw25 pw25 => ?_)
                  obtain ⟨rfl, rfl, kw25⟩ := pw25
                  refine t_callSNv hC hw25 (pc := 66) (As := [.ref a24, .int ((x11 * 16) + x14), .int x26]) (kX12_setByte l G T κ hst hE ma24) trivial dmX12_setByte dX8_addAttribute_66 zw823 rfl rfl (Nat.le_of_ble_eq_true rfl) (Nat.le_of_ble_eq_true rfl) (Nat.le_of_ble_eq_true rfl) (Nat.le_of_ble_eq_true rfl) (Nat.le_of_ble_eq_true rfl) (fun _ _ _ h => nomatch h) (fun cw27 nw27 w27 hw27 pw27 => ?_)
                  obtain ⟨rfl, rfl, kw27⟩ := pw27
                  refine z_iinc hC (pc := 69) (v := (x14 + 1)) (lv' := [(4, .int (x14 + 1)), (0, .ref a0), (1, .ref a1), (2, .int x2), (3, .int x3)]) 4 dX8_addAttribute_69 rfl (congrArg _ (by decide)) (by decide) rfl ?_
                  refine z_goto hC (pc := 72) 40 dX8_addAttribute_72 (by decide) ?_
                  refine z_lvs [1, 2, 3, 4, 0] rfl ?_
                  exact ih40 w27 hw27 (tKeep.tr (tKeep.tr (tKeep.tr tKeep.rf kw13 rfl) kw25 rfl) kw27 rfl) (x14 + 1) (t_nnI v15 (Int32.not_le.mp c16)) (t_up (Int32.not_le.mp c16) hd40)
            refine z_lvs [1, 2, 3, 4, 0] rfl ?_
            exact j40 _ w0 hw0 tKeep.rf 0 (by decide) (Nat.le_refl _)
          · refine z_lvs [] rfl ?_
            exact j35
    · refine z_lvs [] rfl ?_
      exact j13
set_option maxRecDepth 20000 in
theorem kX12_attribute (l : Launch) (G : zG) (T : tT) (κ : Nat → List Nat) (hst : l.stackTraces = false) (hE : tE G T κ) {a0 : Nat} (h0 : a0 ∈ κ 12) {x1 : Int32} : tMi l G T yX12_attribute cX12_attribute 3 .int [] 2 46 0 0 [.ref a0, .int x1] uT (uPi 0x4000000000000000000000000000000000000000000000000000000000000200000000000000000000000000000000000000000000000000000000000000000000000000000000000000000000000000000000000000000000000000000000000) := by
  refine tMi.intro hst rfl (Nat.le_of_ble_eq_true rfl) ?_
  intro w0 hw0 _ X hC hR hO hX
  refine z_aload_n hC (pc := 0) 0 dX12_attribute_0 rfl rfl ?_
  refine u_get hC hw0 (pc := 1) zf12 2 (hE.o12 h0) rfl dX12_attribute_1 zw710 (kk := fun vx4 tx4 fx4 => ?_)
  obtain ⟨x4, rfl⟩ := tx4
  refine z_istore_n hC (pc := 4) (lv' := [(2, .int x4), (0, .ref a0), (1, .int x1)]) dX12_attribute_4 rfl (by decide) rfl ?_
  refine z_aload_n hC (pc := 5) 1 dX12_attribute_5 rfl rfl ?_
  refine z_iconst hC (pc := 6) (v := 0) dX12_attribute_6 (by decide) ?_
  refine u_put hC hw0 (pc := 7) zf12 2 (hE.o12 h0) rfl ⟨_, rfl⟩ dX12_attribute_7 zw710 rfl rfl rfl (kk := fun w5 hw5 fw5 kw5 => ?_)
  refine z_aload_n hC (pc := 10) 1 dX12_attribute_10 rfl rfl ?_
  refine u_get hC hw5 (pc := 11) zf12 17 (hE.o12 h0) rfl dX12_attribute_11 zw725 (kk := fun vx6 tx6 fx6 => ?_)
  obtain ⟨x6, rfl⟩ := tx6
  refine z_iconst hC (pc := 14) (v := 1) dX12_attribute_14 (by decide) ?_
  have j35 : ∀ (w7 : va_W), tW T w7 → tKeep 0x200000000000000000000000000000000000000000000000000000000000000000000000000000000000000000000000000000000000000000000000000000000000 w5 w7 → ∀ (x8 : Int32), zS X G 3 w7 [] 0 0 35 [.int x8] := by
    intro w7 hw7 kw7 x8
    exact hR _ _ _ _ _ _ dX12_attribute_35 rfl (Nat.le_of_ble_eq_true rfl) (Nat.le_of_ble_eq_true rfl) ⟨hw7, rfl, rfl, (tKeep.tr (tKeep.tr tKeep.rf kw5 rfl) kw7 rfl)⟩
  refine z_icmp_ne hC (pc := 15) 22 dX12_attribute_15 (by decide) (fun c9 => ?_) (fun c9 => ?_)
  · refine z_aload_n hC (pc := 22) 1 dX12_attribute_22 rfl rfl ?_
    refine u_get hC hw5 (pc := 23) zf12 5 (hE.o12 h0) rfl dX12_attribute_23 zw713 (kk := fun va10 ta10 fa10 => ?_)
    obtain ⟨a10, ma10, rfl⟩ := ta10
    refine z_aload_n hC (pc := 26) 1 dX12_attribute_26 rfl rfl ?_
    refine u_get hC hw5 (pc := 27) zf12 1 (hE.o12 h0) rfl dX12_attribute_27 zw709 (kk := fun va11 ta11 fa11 => ?_)
    obtain ⟨a11, ma11, rfl⟩ := ta11
    refine z_iload_n hC (pc := 30) 0 dX12_attribute_30 rfl rfl ?_
    refine z_iload_n hC (pc := 31) 2 dX12_attribute_31 rfl rfl ?_
    obtain ⟨q12, hqq12⟩ := hE.o8 ma10
    refine t_callVi hC hw5 (pc := 32) (As := [.ref a11, .int x4, .int x1]) (kX8_addAttribute l G T κ hst hE ma10 (Or.inl ma11)) trivial dmX8_addAttribute zf8 hqq12 dX12_attribute_32 zw887 rfl rfl (Nat.le_of_ble_eq_true rfl) (Nat.le_of_ble_eq_true rfl) (Nat.le_of_ble_eq_true rfl) (Nat.le_of_ble_eq_true rfl) (Nat.le_of_ble_eq_true rfl) (fun _ _ _ h => nomatch h) (fun x14 cw13 nw13 w13 hw13 pw13 => ?_)
    obtain ⟨rfl, rfl, kw13⟩ := pw13
    refine z_lvs [] rfl ?_
    exact j35 w13 hw13 (tKeep.tr tKeep.rf kw13 rfl) x14
  · refine z_iconst hC (pc := 18) (v := (-1)) dX12_attribute_18 (by decide) ?_
    refine z_goto hC (pc := 19) 35 dX12_attribute_19 (by decide) ?_
    refine z_lvs [] rfl ?_
    exact j35 w5 hw5 tKeep.rf (-1)
set_option maxRecDepth 20000 in
theorem kX12_clear (l : Launch) (G : zG) (T : tT) (κ : Nat → List Nat) (hst : l.stackTraces = false) (hE : tE G T κ) {a0 : Nat} (h0 : a0 ∈ κ 12) : tMi l G T yX12_clear cX12_clear 1 .boolean [] 0 0 0 0 [.ref a0] uT (uPz 0x200000000000000000000000000000000000000000000000000000000000000000000000000000000000000000000000000000000000000000000000000000000000) := by
  refine tMi.intro hst rfl (Nat.le_of_ble_eq_true rfl) ?_
  intro w0 hw0 _ X hC hR hO hX
  refine z_aload_n hC (pc := 0) 0 dX12_clear_0 rfl rfl ?_
  refine u_get hC hw0 (pc := 1) zf12 17 (hE.o12 h0) rfl dX12_clear_1 zw725 (kk := fun vx3 tx3 fx3 => ?_)
  obtain ⟨x3, rfl⟩ := tx3
  refine z_iconst hC (pc := 4) (v := 1) dX12_clear_4 (by decide) ?_
  refine z_icmp_ne hC (pc := 5) 10 dX12_clear_5 (by decide) (fun c4 => ?_) (fun c4 => ?_)
  · refine z_aload_n hC (pc := 10) 0 dX12_clear_10 rfl rfl ?_
    refine u_get hC hw0 (pc := 11) zf12 5 (hE.o12 h0) rfl dX12_clear_11 zw713 (kk := fun va5 ta5 fa5 => ?_)
    obtain ⟨a5, ma5, rfl⟩ := ta5
    refine z_iconst hC (pc := 14) (v := 0) dX12_clear_14 (by decide) ?_
    refine u_put hC hw0 (pc := 15) zf8 13 (hE.o8 ma5) rfl ⟨_, rfl⟩ dX12_clear_15 zw76 rfl rfl rfl (kk := fun w6 hw6 fw6 kw6 => ?_)
    refine z_iconst hC (pc := 18) (v := 1) dX12_clear_18 (by decide) ?_
    exact hR _ _ _ _ _ _ dX12_clear_19 rfl (Nat.le_of_ble_eq_true rfl) (Nat.le_of_ble_eq_true rfl) ⟨hw6, rfl, rfl, (tKeep.tr tKeep.rf kw6 rfl), (Or.inr rfl)⟩
  · refine z_iconst hC (pc := 8) (v := 0) dX12_clear_8 (by decide) ?_
    exact hR _ _ _ _ _ _ dX12_clear_9 rfl (Nat.le_of_ble_eq_true rfl) (Nat.le_of_ble_eq_true rfl) ⟨hw0, rfl, rfl, tKeep.rf, (Or.inl rfl)⟩
set_option maxRecDepth 20000 in
theorem kX12_width (l : Launch) (G : zG) (T : tT) (κ : Nat → List Nat) (hst : l.stackTraces = false) (hE : tE G T κ) {a0 : Nat} (h0 : a0 ∈ κ 12) {x1 : Int32} : tMi l G T yX12_width cX12_width 2 .boolean [] 0 0 0 0 [.ref a0, .int x1] uT (uPz 0x10000000000000000000000000000000000000000000000000000000000000000000000000000000000000000000000000000000000000000000000000000000000000000000000000000000000000000000000000000000000000000000000000000) := by
  refine tMi.intro hst rfl (Nat.le_of_ble_eq_true rfl) ?_
  intro w0 hw0 _ X hC hR hO hX
  refine z_iload_n hC (pc := 0) 1 dX12_width_0 rfl rfl ?_
  have j11 : zS X G 2 w0 [] 0 0 11 [] := by
    refine z_iconst hC (pc := 11) (v := 0) dX12_width_11 (by decide) ?_
    exact hR _ _ _ _ _ _ dX12_width_12 rfl (Nat.le_of_ble_eq_true rfl) (Nat.le_of_ble_eq_true rfl) ⟨hw0, rfl, rfl, tKeep.rf, (Or.inl rfl)⟩
  refine z_if_lt hC (pc := 1) 11 dX12_width_1 (by decide) (fun c4 => ?_) (fun c4 => ?_)
  · refine z_lvs [] rfl ?_
    exact j11
  · refine z_iload_n hC (pc := 4) 1 dX12_width_4 rfl rfl ?_
    refine z_sipush hC (pc := 5) (v := 1000) dX12_width_5 (by decide) ?_
    refine z_icmp_le hC (pc := 8) 13 dX12_width_8 (by decide) (fun c5 => ?_) (fun c5 => ?_)
    · refine z_aload_n hC (pc := 13) 0 dX12_width_13 rfl rfl ?_
      refine z_iload_n hC (pc := 14) 1 dX12_width_14 rfl rfl ?_
      refine u_put hC hw0 (pc := 15) zf12 16 (hE.o12 h0) rfl ⟨_, rfl⟩ dX12_width_15 zw724 rfl rfl rfl (kk := fun w6 hw6 fw6 kw6 => ?_)
      refine z_iconst hC (pc := 18) (v := 1) dX12_width_18 (by decide) ?_
      exact hR _ _ _ _ _ _ dX12_width_19 rfl (Nat.le_of_ble_eq_true rfl) (Nat.le_of_ble_eq_true rfl) ⟨hw6, rfl, rfl, (tKeep.tr tKeep.rf kw6 rfl), (Or.inr rfl)⟩
    · refine z_lvs [] rfl ?_
      exact j11
set_option maxRecDepth 20000 in
theorem kX9_forget (l : Launch) (G : zG) (T : tT) (κ : Nat → List Nat) (hst : l.stackTraces = false) (hE : tE G T κ) {a0 : Nat} (h0 : a0 ∈ κ 9) : tMv l G T yX9_forget cX9_forget 1 [] 1 23 0 0 [.ref a0] uT (uPv 0x0) := by
  refine tMv.intro hst rfl (Nat.le_of_ble_eq_true rfl) ?_
  intro w0 hw0 _ X hC hR hO hX
  refine z_aload_n hC (pc := 0) 0 dX9_forget_0 rfl rfl ?_
  refine u_get hC hw0 (pc := 1) zf9 2 (hE.o9 h0) rfl dX9_forget_1 zw482 (kk := fun va3 ta3 fa3 => ?_)
  obtain ⟨a3, ma3, rfl⟩ := ta3
  refine z_iconst hC (pc := 4) (v := 0) dX9_forget_4 (by decide) ?_
  refine t_callSv hC hw0 (pc := 5) (As := [.ref a3, .int 0]) (kJ7_fill_53178 l G T κ hst hE ma3) trivial dmJ7_fill_53178 dX9_forget_5 zw1795 rfl rfl (Nat.le_of_ble_eq_true rfl) (Nat.le_of_ble_eq_true rfl) (Nat.le_of_ble_eq_true rfl) (Nat.le_of_ble_eq_true rfl) (Nat.le_of_ble_eq_true rfl) (fun _ _ _ h => nomatch h) (fun cw4 nw4 w4 hw4 pw4 => ?_)
  obtain ⟨rfl, rfl, kw4⟩ := pw4
  exact hR _ _ _ _ _ dX9_forget_8 (Nat.le_of_ble_eq_true rfl) (Nat.le_of_ble_eq_true rfl) ⟨hw4, rfl, rfl, (tKeep.tr tKeep.rf kw4 rfl)⟩
set_option maxRecDepth 20000 in
theorem kX3_forget (l : Launch) (G : zG) (T : tT) (κ : Nat → List Nat) (hst : l.stackTraces = false) (hE : tE G T κ) {a0 : Nat} (h0 : a0 ∈ κ 3) {a1 : Nat} (h1 : a1 ∈ κ 2) : tMv l G T yX3_forget cX3_forget 2 [] 0 0 0 0 [.ref a0, .ref a1] uT (uPv 0x9684000000000000000000000000000000000000000000000000) := by
  refine tMv.intro hst rfl (Nat.le_of_ble_eq_true rfl) ?_
  intro w0 hw0 _ X hC hR hO hX
  refine z_aload_n hC (pc := 0) 0 dX3_forget_0 rfl rfl ?_
  refine z_aload_n hC (pc := 1) 1 dX3_forget_1 rfl rfl ?_
  refine u_put hC hw0 (pc := 2) zf3 2 (hE.o3 h0) rfl ⟨_, h1, rfl⟩ dX3_forget_2 zw505 rfl rfl rfl (kk := fun w4 hw4 fw4 kw4 => ?_)
  refine z_aload_n hC (pc := 5) 0 dX3_forget_5 rfl rfl ?_
  refine z_iconst hC (pc := 6) (v := 0) dX3_forget_6 (by decide) ?_
  refine u_put hC hw4 (pc := 7) zf3 7 (hE.o3 h0) rfl ⟨_, rfl⟩ dX3_forget_7 zw513 rfl rfl rfl (kk := fun w5 hw5 fw5 kw5 => ?_)
  refine z_aload_n hC (pc := 10) 0 dX3_forget_10 rfl rfl ?_
  refine z_iconst hC (pc := 11) (v := 1) dX3_forget_11 (by decide) ?_
  refine u_put hC hw5 (pc := 12) zf3 9 (hE.o3 h0) rfl ⟨_, rfl⟩ dX3_forget_12 zw515 rfl rfl rfl (kk := fun w6 hw6 fw6 kw6 => ?_)
  refine z_aload_n hC (pc := 15) 0 dX3_forget_15 rfl rfl ?_
  refine z_iconst hC (pc := 16) (v := 0) dX3_forget_16 (by decide) ?_
  refine u_put hC hw6 (pc := 17) zf3 10 (hE.o3 h0) rfl ⟨_, rfl⟩ dX3_forget_17 zw516 rfl rfl rfl (kk := fun w7 hw7 fw7 kw7 => ?_)
  refine z_aload_n hC (pc := 20) 0 dX3_forget_20 rfl rfl ?_
  refine z_iconst hC (pc := 21) (v := 0) dX3_forget_21 (by decide) ?_
  refine u_put hC hw7 (pc := 22) zf3 12 (hE.o3 h0) rfl ⟨_, rfl⟩ dX3_forget_22 zw519 rfl rfl rfl (kk := fun w8 hw8 fw8 kw8 => ?_)
  refine z_aload_n hC (pc := 25) 0 dX3_forget_25 rfl rfl ?_
  refine z_iconst hC (pc := 26) (v := 0) dX3_forget_26 (by decide) ?_
  refine u_put hC hw8 (pc := 27) zf3 15 (hE.o3 h0) rfl ⟨_, rfl⟩ dX3_forget_27 zw522 rfl rfl rfl (kk := fun w9 hw9 fw9 kw9 => ?_)
  exact hR _ _ _ _ _ dX3_forget_30 (Nat.le_of_ble_eq_true rfl) (Nat.le_of_ble_eq_true rfl) ⟨hw9, rfl, rfl, (tKeep.tr (tKeep.tr (tKeep.tr (tKeep.tr (tKeep.tr (tKeep.tr tKeep.rf kw4 rfl) kw5 rfl) kw6 rfl) kw7 rfl) kw8 rfl) kw9 rfl)⟩
set_option maxRecDepth 20000 in
theorem kX11_freshLine (l : Launch) (G : zG) (T : tT) (κ : Nat → List Nat) (hst : l.stackTraces = false) (hE : tE G T κ) {a0 : Nat} (h0 : a0 ∈ κ 11) : tMv l G T yX11_freshLine cX11_freshLine 1 [] 0 0 0 0 [.ref a0] uT (uPv 0xa4e000000000000000000000000000000000000000000000000000000000000000000000000000000000000000000000000000000000000000000000000000000000000000000000000000000000000000000000000000000000) := by
  refine tMv.intro hst rfl (Nat.le_of_ble_eq_true rfl) ?_
  intro w0 hw0 _ X hC hR hO hX
  refine z_aload_n hC (pc := 0) 0 dX11_freshLine_0 rfl rfl ?_
  refine z_iconst hC (pc := 1) (v := 0) dX11_freshLine_1 (by decide) ?_
  refine u_put hC hw0 (pc := 2) zf11 5 (hE.o11 h0) rfl ⟨_, rfl⟩ dX11_freshLine_2 zw587 rfl rfl rfl (kk := fun w3 hw3 fw3 kw3 => ?_)
  refine z_aload_n hC (pc := 5) 0 dX11_freshLine_5 rfl rfl ?_
  refine z_iconst hC (pc := 6) (v := 1) dX11_freshLine_6 (by decide) ?_
  refine u_put hC hw3 (pc := 7) zf11 6 (hE.o11 h0) rfl (Or.inr rfl) dX11_freshLine_7 zw589 rfl rfl rfl (kk := fun w4 hw4 fw4 kw4 => ?_)
  refine z_aload_n hC (pc := 10) 0 dX11_freshLine_10 rfl rfl ?_
  refine z_iconst hC (pc := 11) (v := 0) dX11_freshLine_11 (by decide) ?_
  refine u_put hC hw4 (pc := 12) zf11 7 (hE.o11 h0) rfl ⟨_, rfl⟩ dX11_freshLine_12 zw591 rfl rfl rfl (kk := fun w5 hw5 fw5 kw5 => ?_)
  refine z_aload_n hC (pc := 15) 0 dX11_freshLine_15 rfl rfl ?_
  refine z_iconst hC (pc := 16) (v := 0) dX11_freshLine_16 (by decide) ?_
  refine u_put hC hw5 (pc := 17) zf11 10 (hE.o11 h0) rfl ⟨_, rfl⟩ dX11_freshLine_17 zw597 rfl rfl rfl (kk := fun w6 hw6 fw6 kw6 => ?_)
  refine z_aload_n hC (pc := 20) 0 dX11_freshLine_20 rfl rfl ?_
  refine z_aload_n hC (pc := 21) 0 dX11_freshLine_21 rfl rfl ?_
  refine u_get hC hw6 (pc := 22) zf11 14 (hE.o11 h0) rfl dX11_freshLine_22 zw603 (kk := fun vx7 tx7 fx7 => ?_)
  obtain ⟨x7, rfl⟩ := tx7
  refine u_put hC hw6 (pc := 25) zf11 13 (hE.o11 h0) rfl ⟨_, rfl⟩ dX11_freshLine_25 zw601 rfl rfl rfl (kk := fun w8 hw8 fw8 kw8 => ?_)
  refine z_aload_n hC (pc := 28) 0 dX11_freshLine_28 rfl rfl ?_
  refine z_iconst hC (pc := 29) (v := 0) dX11_freshLine_29 (by decide) ?_
  refine u_put hC hw8 (pc := 30) zf11 15 (hE.o11 h0) rfl ⟨_, rfl⟩ dX11_freshLine_30 zw605 rfl rfl rfl (kk := fun w9 hw9 fw9 kw9 => ?_)
  exact hR _ _ _ _ _ dX11_freshLine_33 (Nat.le_of_ble_eq_true rfl) (Nat.le_of_ble_eq_true rfl) ⟨hw9, rfl, rfl, (tKeep.tr (tKeep.tr (tKeep.tr (tKeep.tr (tKeep.tr (tKeep.tr tKeep.rf kw3 rfl) kw4 rfl) kw5 rfl) kw6 rfl) kw8 rfl) kw9 rfl)⟩
set_option maxRecDepth 20000 in
theorem kX11_forget (l : Launch) (G : zG) (T : tT) (κ : Nat → List Nat) (hst : l.stackTraces = false) (hE : tE G T κ) {a0 : Nat} (h0 : a0 ∈ κ 11) {a1 : Nat} (h1 : a1 ∈ κ 2) {x2 : Int32} : tMv l G T yX11_forget cX11_forget 3 [] 1 20 0 0 [.ref a0, .ref a1, .int x2] uT (uPv 0xedf800000000000000000000000000000000000000000000000000000000000000000000000000000000000000000000000000000000000000000000000000000000000000000000000000000000000000000000000000000000) := by
  refine tMv.intro hst rfl (Nat.le_of_ble_eq_true rfl) ?_
  intro w0 hw0 _ X hC hR hO hX
  refine z_aload_n hC (pc := 0) 0 dX11_forget_0 rfl rfl ?_
  refine z_aload_n hC (pc := 1) 1 dX11_forget_1 rfl rfl ?_
  refine u_get hC hw0 (pc := 2) zf2 4 (hE.o2 h1) rfl dX11_forget_2 zw248 (kk := fun va5 ta5 fa5 => ?_)
  obtain ⟨a5, ma5, rfl⟩ := ta5
  refine u_put hC hw0 (pc := 5) zf11 11 (hE.o11 h0) rfl ⟨_, ma5, rfl⟩ dX11_forget_5 zw599 rfl rfl rfl (kk := fun w6 hw6 fw6 kw6 => ?_)
  refine z_aload_n hC (pc := 8) 0 dX11_forget_8 rfl rfl ?_
  refine z_iconst hC (pc := 9) (v := 0) dX11_forget_9 (by decide) ?_
  refine u_put hC hw6 (pc := 10) zf11 3 (hE.o11 h0) rfl ⟨_, rfl⟩ dX11_forget_10 zw584 rfl rfl rfl (kk := fun w7 hw7 fw7 kw7 => ?_)
  refine z_aload_n hC (pc := 13) 0 dX11_forget_13 rfl rfl ?_
  refine z_iload_n hC (pc := 14) 2 dX11_forget_14 rfl rfl ?_
  refine u_put hC hw7 (pc := 15) zf11 4 (hE.o11 h0) rfl ⟨_, rfl⟩ dX11_forget_15 zw586 rfl rfl rfl (kk := fun w8 hw8 fw8 kw8 => ?_)
  refine z_aload_n hC (pc := 18) 0 dX11_forget_18 rfl rfl ?_
  refine z_iconst hC (pc := 19) (v := 0) dX11_forget_19 (by decide) ?_
  refine u_put hC hw8 (pc := 20) zf11 8 (hE.o11 h0) rfl ⟨_, rfl⟩ dX11_forget_20 zw593 rfl rfl rfl (kk := fun w9 hw9 fw9 kw9 => ?_)
  refine z_aload_n hC (pc := 23) 0 dX11_forget_23 rfl rfl ?_
  refine z_iconst hC (pc := 24) (v := 0) dX11_forget_24 (by decide) ?_
  refine u_put hC hw9 (pc := 25) zf11 14 (hE.o11 h0) rfl ⟨_, rfl⟩ dX11_forget_25 zw603 rfl rfl rfl (kk := fun w10 hw10 fw10 kw10 => ?_)
  refine z_aload_n hC (pc := 28) 0 dX11_forget_28 rfl rfl ?_
  obtain ⟨q11, hqq11⟩ := hE.o11 h0
  refine t_callVv hC hw10 (pc := 29) (As := []) (kX11_freshLine l G T κ hst hE h0) trivial dmX11_freshLine zf11 hqq11 dX11_forget_29 zw1804 rfl rfl (Nat.le_of_ble_eq_true rfl) (Nat.le_of_ble_eq_true rfl) (Nat.le_of_ble_eq_true rfl) (Nat.le_of_ble_eq_true rfl) (Nat.le_of_ble_eq_true rfl) (fun _ _ _ h => nomatch h) (fun cw12 nw12 w12 hw12 pw12 => ?_)
  obtain ⟨rfl, rfl, kw12⟩ := pw12
  exact hR _ _ _ _ _ dX11_forget_32 (Nat.le_of_ble_eq_true rfl) (Nat.le_of_ble_eq_true rfl) ⟨hw12, rfl, rfl, (tKeep.tr (tKeep.tr (tKeep.tr (tKeep.tr (tKeep.tr (tKeep.tr tKeep.rf kw6 rfl) kw7 rfl) kw8 rfl) kw9 rfl) kw10 rfl) kw12 rfl)⟩
set_option maxRecDepth 20000 in
theorem kX5_plain (l : Launch) (G : zG) (T : tT) (κ : Nat → List Nat) (hst : l.stackTraces = false) (hE : tE G T κ) {a0 : Nat} (h0 : a0 ∈ κ 5) : tMv l G T yX5_plain cX5_plain 1 [] 0 0 0 0 [.ref a0] uT (uPv 0x7800000000000000000000000000000000000000000000000000000000000000000000000000000000000) := by
  refine tMv.intro hst rfl (Nat.le_of_ble_eq_true rfl) ?_
  intro w0 hw0 _ X hC hR hO hX
  refine z_aload_n hC (pc := 0) 0 dX5_plain_0 rfl rfl ?_
  refine z_iconst hC (pc := 1) (v := (-1)) dX5_plain_1 (by decide) ?_
  refine u_put hC hw0 (pc := 2) zf5 15 (hE.o5 h0) rfl ⟨_, rfl⟩ dX5_plain_2 zw657 rfl rfl rfl (kk := fun w3 hw3 fw3 kw3 => ?_)
  refine z_aload_n hC (pc := 5) 0 dX5_plain_5 rfl rfl ?_
  refine z_iconst hC (pc := 6) (v := (-1)) dX5_plain_6 (by decide) ?_
  refine u_put hC hw3 (pc := 7) zf5 16 (hE.o5 h0) rfl ⟨_, rfl⟩ dX5_plain_7 zw658 rfl rfl rfl (kk := fun w4 hw4 fw4 kw4 => ?_)
  refine z_aload_n hC (pc := 10) 0 dX5_plain_10 rfl rfl ?_
  refine z_iconst hC (pc := 11) (v := 0) dX5_plain_11 (by decide) ?_
  refine u_put hC hw4 (pc := 12) zf5 17 (hE.o5 h0) rfl ⟨_, rfl⟩ dX5_plain_12 zw659 rfl rfl rfl (kk := fun w5 hw5 fw5 kw5 => ?_)
  refine z_aload_n hC (pc := 15) 0 dX5_plain_15 rfl rfl ?_
  refine z_iconst hC (pc := 16) (v := (-1)) dX5_plain_16 (by decide) ?_
  refine u_put hC hw5 (pc := 17) zf5 18 (hE.o5 h0) rfl ⟨_, rfl⟩ dX5_plain_17 zw660 rfl rfl rfl (kk := fun w6 hw6 fw6 kw6 => ?_)
  exact hR _ _ _ _ _ dX5_plain_20 (Nat.le_of_ble_eq_true rfl) (Nat.le_of_ble_eq_true rfl) ⟨hw6, rfl, rfl, (tKeep.tr (tKeep.tr (tKeep.tr (tKeep.tr tKeep.rf kw3 rfl) kw4 rfl) kw5 rfl) kw6 rfl)⟩
set_option maxRecDepth 20000 in
theorem kX3_isHouse (l : Launch) (G : zG) (T : tT) (κ : Nat → List Nat) (hst : l.stackTraces = false) (hE : tE G T κ) {a0 : Nat} (h0 : a0 ∈ κ 3) {x1 : Int32} {x2 : Int32} : tMi l G T yX3_isHouse cX3_isHouse 3 .boolean [] 0 0 0 0 [.ref a0, .int x1, .int x2] uT (uPz 0x0) := by
  refine tMi.intro hst rfl (Nat.le_of_ble_eq_true rfl) ?_
  intro w0 hw0 _ X hC hR hO hX
  refine z_iload_n hC (pc := 0) 1 dX3_isHouse_0 rfl rfl ?_
  have j45 : ∀ (x5 : Int32), tZ (.int x5) → zS X G 3 w0 [] 0 0 45 [.int x5] := by
    intro x5 zx5
    exact hR _ _ _ _ _ _ dX3_isHouse_45 (t_nZ zx5) (Nat.le_of_ble_eq_true rfl) (Nat.le_of_ble_eq_true rfl) ⟨hw0, rfl, rfl, tKeep.rf, zx5⟩
  have j44 : zS X G 3 w0 [] 0 0 44 [] := by
    refine z_iconst hC (pc := 44) (v := 0) dX3_isHouse_44 (by decide) ?_
    exact j45 0 (Or.inl rfl)
  refine z_if_lt hC (pc := 1) 44 dX3_isHouse_1 (by decide) (fun c6 => ?_) (fun c6 => ?_)
  · refine z_lvs [] rfl ?_
    exact j44
  · refine z_iload_n hC (pc := 4) 1 dX3_isHouse_4 rfl rfl ?_
    refine z_aload_n hC (pc := 5) 0 dX3_isHouse_5 rfl rfl ?_
    refine u_get hC hw0 (pc := 6) zf3 0 (hE.o3 h0) rfl dX3_isHouse_6 zw502 (kk := fun va7 ta7 fa7 => ?_)
    obtain ⟨a7, ma7, rfl⟩ := ta7
    refine u_get hC hw0 (pc := 9) zf8 7 (hE.o8 ma7) rfl dX3_isHouse_9 zw63 (kk := fun vx8 tx8 fx8 => ?_)
    obtain ⟨x8, rfl⟩ := tx8
    refine z_icmp_ge hC (pc := 12) 44 dX3_isHouse_12 (by decide) (fun c9 => ?_) (fun c9 => ?_)
    · refine z_lvs [] rfl ?_
      exact j44
    · refine z_iload_n hC (pc := 15) 1 dX3_isHouse_15 rfl rfl ?_
      refine z_aload_n hC (pc := 16) 0 dX3_isHouse_16 rfl rfl ?_
      refine u_getK hC (pc := 17) zf3 0 fa7 dX3_isHouse_17 zw502 (kk := ?_)
      refine u_get hC hw0 (pc := 20) zf8 0 (hE.o8 ma7) rfl dX3_isHouse_20 zw48 (kk := fun va10 ta10 fa10 => ?_)
      obtain ⟨a10, ma10, rfl⟩ := ta10
      obtain ⟨N11, hN11, AN11⟩ := hE.ints ma10
      refine u_alenI hC hw0 (pc := 23) AN11 dX3_isHouse_23 ?_
      refine z_icmp_ge hC (pc := 24) 44 dX3_isHouse_24 (by decide) (fun c12 => ?_) (fun c12 => ?_)
      · refine z_lvs [] rfl ?_
        exact j44
      · refine z_aload_n hC (pc := 27) 0 dX3_isHouse_27 rfl rfl ?_
        refine u_getK hC (pc := 28) zf3 0 fa7 dX3_isHouse_28 zw502 (kk := ?_)
        refine u_getK hC (pc := 31) zf8 0 fa10 dX3_isHouse_31 zw48 (kk := ?_)
        refine z_iload_n hC (pc := 34) 1 dX3_isHouse_34 rfl rfl ?_
        refine t_iald hC hw0 (pc := 35) AN11 dX3_isHouse_35 (t_inB hN11 c6 c12) (fun x13 _ => ?_)
        refine z_iload_n hC (pc := 36) 2 dX3_isHouse_36 rfl rfl ?_
        refine z_icmp_ne hC (pc := 37) 44 dX3_isHouse_37 (by decide) (fun c14 => ?_) (fun c14 => ?_)
        · refine z_lvs [] rfl ?_
          exact j44
        · refine z_iconst hC (pc := 40) (v := 1) dX3_isHouse_40 (by decide) ?_
          refine z_goto hC (pc := 41) 45 dX3_isHouse_41 (by decide) ?_
          refine z_lvs [] rfl ?_
          exact j45 1 (Or.inr rfl)
set_option maxRecDepth 20000 in
theorem kX3_sortOf (l : Launch) (G : zG) (T : tT) (κ : Nat → List Nat) (hst : l.stackTraces = false) (hE : tE G T κ) {x0 : Int32} : tMi l G T yX3_sortOf cX3_sortOf 1 .int [] 0 0 0 0 [.int x0] uT (uPi 0x0) := by
  refine tMi.intro hst rfl (Nat.le_of_ble_eq_true rfl) ?_
  intro w0 hw0 _ X hC hR hO hX
  refine z_iload_n hC (pc := 0) 0 dX3_sortOf_0 rfl rfl ?_
  have j12 : ∀ (x3 : Int32), zS X G 1 w0 [] 0 0 12 [.int x3] := by
    intro x3
    exact hR _ _ _ _ _ _ dX3_sortOf_12 rfl (Nat.le_of_ble_eq_true rfl) (Nat.le_of_ble_eq_true rfl) ⟨hw0, rfl, rfl, tKeep.rf⟩
  refine z_if_ge hC (pc := 1) 8 dX3_sortOf_1 (by decide) (fun c4 => ?_) (fun c4 => ?_)
  · refine z_iload_n hC (pc := 8) 0 dX3_sortOf_8 rfl rfl ?_
    refine z_ldc hC (pc := 9) (v := (-134217728)) dX3_sortOf_9 zw1847 ?_
    refine z_iand hC (pc := 11) (v := (x0 &&& (-134217728))) dX3_sortOf_11 rfl ?_
    refine z_lvs [] rfl ?_
    exact j12 (x0 &&& (-134217728))
  · refine z_iload_n hC (pc := 4) 0 dX3_sortOf_4 rfl rfl ?_
    refine z_goto hC (pc := 5) 12 dX3_sortOf_5 (by decide) ?_
    refine z_lvs [] rfl ?_
    exact j12 x0
set_option maxRecDepth 20000 in
theorem kX3_isMany (l : Launch) (G : zG) (T : tT) (κ : Nat → List Nat) (hst : l.stackTraces = false) (hE : tE G T κ) {a0 : Nat} (h0 : a0 ∈ κ 3) {x1 : Int32} : tMi l G T yX3_isMany cX3_isMany 2 .boolean [] 0 0 0 0 [.ref a0, .int x1] uT (uPz 0x0) := by
  refine tMi.intro hst rfl (Nat.le_of_ble_eq_true rfl) ?_
  intro w0 hw0 _ X hC hR hO hX
  refine z_iload_n hC (pc := 0) 1 dX3_isMany_0 rfl rfl ?_
  have j27 : zS X G 2 w0 [(1, .int x1)] 0 0 27 [] := by
    refine z_iload_n hC (pc := 27) 0 dX3_isMany_27 rfl rfl ?_
    have j45 : ∀ (x4 : Int32), tZ (.int x4) → zS X G 2 w0 [] 0 0 45 [.int x4] := by
      intro x4 zx4
      exact hR _ _ _ _ _ _ dX3_isMany_45 (t_nZ zx4) (Nat.le_of_ble_eq_true rfl) (Nat.le_of_ble_eq_true rfl) ⟨hw0, rfl, rfl, tKeep.rf, zx4⟩
    have j44 : zS X G 2 w0 [] 0 0 44 [] := by
      refine z_iconst hC (pc := 44) (v := 0) dX3_isMany_44 (by decide) ?_
      exact j45 0 (Or.inl rfl)
    refine z_if_lt hC (pc := 28) 44 dX3_isMany_28 (by decide) (fun c5 => ?_) (fun c5 => ?_)
    · refine z_lvs [] rfl ?_
      exact j44
    · refine z_iload_n hC (pc := 31) 0 dX3_isMany_31 rfl rfl ?_
      refine z_ldc hC (pc := 32) (v := (-134217728)) dX3_isMany_32 zw1847 ?_
      refine z_iand hC (pc := 34) (v := (x1 &&& (-134217728))) dX3_isMany_34 rfl ?_
      refine z_ldc hC (pc := 35) (v := 805306368) dX3_isMany_35 zw1848 ?_
      refine z_icmp_ne hC (pc := 37) 44 dX3_isMany_37 (by decide) (fun c6 => ?_) (fun c6 => ?_)
      · refine z_lvs [] rfl ?_
        exact j44
      · refine z_iconst hC (pc := 40) (v := 1) dX3_isMany_40 (by decide) ?_
        refine z_goto hC (pc := 41) 45 dX3_isMany_41 (by decide) ?_
        refine z_lvs [] rfl ?_
        exact j45 1 (Or.inr rfl)
  refine z_if_lt hC (pc := 1) 27 dX3_isMany_1 (by decide) (fun c7 => ?_) (fun c7 => ?_)
  · refine z_lvs [1] rfl ?_
    exact j27
  · refine z_iload_n hC (pc := 4) 1 dX3_isMany_4 rfl rfl ?_
    refine z_aload_n hC (pc := 5) 0 dX3_isMany_5 rfl rfl ?_
    refine u_get hC hw0 (pc := 6) zf3 0 (hE.o3 h0) rfl dX3_isMany_6 zw502 (kk := fun va8 ta8 fa8 => ?_)
    obtain ⟨a8, ma8, rfl⟩ := ta8
    refine u_get hC hw0 (pc := 9) zf8 7 (hE.o8 ma8) rfl dX3_isMany_9 zw63 (kk := fun vx9 tx9 fx9 => ?_)
    obtain ⟨x9, rfl⟩ := tx9
    refine z_icmp_ge hC (pc := 12) 27 dX3_isMany_12 (by decide) (fun c10 => ?_) (fun c10 => ?_)
    · refine z_lvs [1] rfl ?_
      exact j27
    · refine z_iload_n hC (pc := 15) 1 dX3_isMany_15 rfl rfl ?_
      refine z_aload_n hC (pc := 16) 0 dX3_isMany_16 rfl rfl ?_
      refine u_getK hC (pc := 17) zf3 0 fa8 dX3_isMany_17 zw502 (kk := ?_)
      refine u_get hC hw0 (pc := 20) zf8 0 (hE.o8 ma8) rfl dX3_isMany_20 zw48 (kk := fun va11 ta11 fa11 => ?_)
      obtain ⟨a11, ma11, rfl⟩ := ta11
      obtain ⟨N12, hN12, AN12⟩ := hE.ints ma11
      refine u_alenI hC hw0 (pc := 23) AN12 dX3_isMany_23 ?_
      refine z_icmp_lt hC (pc := 24) 46 dX3_isMany_24 (by decide) (fun c13 => ?_) (fun c13 => ?_)
      · refine z_aload_n hC (pc := 46) 0 dX3_isMany_46 rfl rfl ?_
        refine u_getK hC (pc := 47) zf3 0 fa8 dX3_isMany_47 zw502 (kk := ?_)
        refine u_getK hC (pc := 50) zf8 0 fa11 dX3_isMany_50 zw48 (kk := ?_)
        refine z_iload_n hC (pc := 53) 1 dX3_isMany_53 rfl rfl ?_
        refine t_iald hC hw0 (pc := 54) AN12 dX3_isMany_54 (t_inB hN12 c7 (Int32.not_le.mpr c13)) (fun x14 _ => ?_)
        refine z_iconst hC (pc := 55) (v := 3) dX3_isMany_55 (by decide) ?_
        have j77 : ∀ (x15 : Int32), tZ (.int x15) → zS X G 2 w0 [] 0 0 77 [.int x15] := by
          intro x15 zx15
          exact hR _ _ _ _ _ _ dX3_isMany_77 (t_nZ zx15) (Nat.le_of_ble_eq_true rfl) (Nat.le_of_ble_eq_true rfl) ⟨hw0, rfl, rfl, tKeep.rf, zx15⟩
        have j72 : zS X G 2 w0 [] 0 0 72 [] := by
          refine z_iconst hC (pc := 72) (v := 1) dX3_isMany_72 (by decide) ?_
          refine z_goto hC (pc := 73) 77 dX3_isMany_73 (by decide) ?_
          exact j77 1 (Or.inr rfl)
        refine z_icmp_eq hC (pc := 56) 72 dX3_isMany_56 (by decide) (fun c16 => ?_) (fun c16 => ?_)
        · refine z_lvs [] rfl ?_
          exact j72
        · refine z_aload_n hC (pc := 59) 0 dX3_isMany_59 rfl rfl ?_
          refine u_getK hC (pc := 60) zf3 0 fa8 dX3_isMany_60 zw502 (kk := ?_)
          refine u_getK hC (pc := 63) zf8 0 fa11 dX3_isMany_63 zw48 (kk := ?_)
          refine z_iload_n hC (pc := 66) 1 dX3_isMany_66 rfl rfl ?_
          refine t_iald hC hw0 (pc := 67) AN12 dX3_isMany_67 (t_inB hN12 c7 (Int32.not_le.mpr c13)) (fun x17 _ => ?_)
          refine z_iconst hC (pc := 68) (v := 4) dX3_isMany_68 (by decide) ?_
          refine z_icmp_ne hC (pc := 69) 76 dX3_isMany_69 (by decide) (fun c18 => ?_) (fun c18 => ?_)
          · refine z_iconst hC (pc := 76) (v := 0) dX3_isMany_76 (by decide) ?_
            refine z_lvs [] rfl ?_
            exact j77 0 (Or.inl rfl)
          · refine z_lvs [] rfl ?_
            exact j72
      · refine z_lvs [1] rfl ?_
        exact j27
set_option maxRecDepth 20000 in
theorem kX3_countOf (l : Launch) (G : zG) (T : tT) (κ : Nat → List Nat) (hst : l.stackTraces = false) (hE : tE G T κ) {a0 : Nat} (h0 : a0 ∈ κ 3) {x1 : Int32} : tMi l G T yX3_countOf cX3_countOf 2 .int [] 1 21 0 0 [.ref a0, .int x1] uT (uPi 0x0) := by
  refine tMi.intro hst rfl (Nat.le_of_ble_eq_true rfl) ?_
  intro w0 hw0 _ X hC hR hO hX
  refine z_iload_n hC (pc := 0) 1 dX3_countOf_0 rfl rfl ?_
  refine z_if_ge hC (pc := 1) 6 dX3_countOf_1 (by decide) (fun c4 => ?_) (fun c4 => ?_)
  · refine z_iload_n hC (pc := 6) 1 dX3_countOf_6 rfl rfl ?_
    refine t_callSi hC hw0 (pc := 7) (As := [.int x1]) (kX3_sortOf l G T κ hst hE) trivial dmX3_sortOf dX3_countOf_7 zw1844 rfl rfl (Nat.le_of_ble_eq_true rfl) (Nat.le_of_ble_eq_true rfl) (Nat.le_of_ble_eq_true rfl) (Nat.le_of_ble_eq_true rfl) (Nat.le_of_ble_eq_true rfl) (fun _ _ _ h => nomatch h) (fun x6 cw5 nw5 w5 hw5 pw5 => ?_)
    obtain ⟨rfl, rfl, kw5⟩ := pw5
    refine z_ldc hC (pc := 10) (v := 805306368) dX3_countOf_10 zw1848 ?_
    refine z_icmp_ne hC (pc := 12) 37 dX3_countOf_12 (by decide) (fun c7 => ?_) (fun c7 => ?_)
    · refine z_aload_n hC (pc := 37) 0 dX3_countOf_37 rfl rfl ?_
      refine z_iload_n hC (pc := 38) 1 dX3_countOf_38 rfl rfl ?_
      obtain ⟨q8, hqq8⟩ := hE.o3 h0
      refine t_callVi hC hw5 (pc := 39) (As := [.int x1]) (kX3_isMany l G T κ hst hE h0) trivial dmX3_isMany zf3 hqq8 dX3_countOf_39 zw1851 rfl rfl (Nat.le_of_ble_eq_true rfl) (Nat.le_of_ble_eq_true rfl) (Nat.le_of_ble_eq_true rfl) (Nat.le_of_ble_eq_true rfl) (Nat.le_of_ble_eq_true rfl) (fun _ _ _ h => nomatch h) (fun x10 cw9 nw9 w9 hw9 pw9 => ?_)
      obtain ⟨rfl, rfl, kw9, zx10⟩ := pw9
      have j60 : ∀ (w11 : va_W), tW T w11 → tKeep 0x0 w9 w11 → ∀ (x12 : Int32), zS X G 2 w11 [] 0 0 60 [.int x12] := by
        intro w11 hw11 kw11 x12
        exact hR _ _ _ _ _ _ dX3_countOf_60 rfl (Nat.le_of_ble_eq_true rfl) (Nat.le_of_ble_eq_true rfl) ⟨hw11, rfl, rfl, (tKeep.tr (tKeep.tr (tKeep.tr tKeep.rf kw5 rfl) kw9 rfl) kw11 rfl)⟩
      refine z_if_eq hC (pc := 42) 59 dX3_countOf_42 (by decide) (fun c13 => ?_) (fun c13 => ?_)
      · refine z_iconst hC (pc := 59) (v := 1) dX3_countOf_59 (by decide) ?_
        refine z_lvs [] rfl ?_
        exact j60 w9 hw9 tKeep.rf 1
      · refine z_aload_n hC (pc := 45) 0 dX3_countOf_45 rfl rfl ?_
        refine u_get hC hw9 (pc := 46) zf3 0 (hE.o3 h0) rfl dX3_countOf_46 zw502 (kk := fun va14 ta14 fa14 => ?_)
        obtain ⟨a14, ma14, rfl⟩ := ta14
        refine u_get hC hw9 (pc := 49) zf8 4 (hE.o8 ma14) rfl dX3_countOf_49 zw56 (kk := fun va15 ta15 fa15 => ?_)
        obtain ⟨a15, ma15, rfl⟩ := ta15
        refine z_iload_n hC (pc := 52) 1 dX3_countOf_52 rfl rfl ?_
        refine t_callSNi hC hw9 (pc := 53) (As := [.ref a15, .int x1]) (kX12_get l G T κ hst hE ma15) trivial dmX12_get dX3_countOf_53 zw1850 rfl rfl (Nat.le_of_ble_eq_true rfl) (Nat.le_of_ble_eq_true rfl) (Nat.le_of_ble_eq_true rfl) (Nat.le_of_ble_eq_true rfl) (Nat.le_of_ble_eq_true rfl) (fun _ _ _ h => nomatch h) (fun x17 cw16 nw16 w16 hw16 pw16 => ?_)
        obtain ⟨rfl, rfl, kw16⟩ := pw16
        refine z_goto hC (pc := 56) 60 dX3_countOf_56 (by decide) ?_
        refine z_lvs [] rfl ?_
        exact j60 w16 hw16 (tKeep.tr tKeep.rf kw16 rfl) x17
    · refine z_iload_n hC (pc := 15) 1 dX3_countOf_15 rfl rfl ?_
      refine z_ldc hC (pc := 16) (v := 805306368) dX3_countOf_16 zw1848 ?_
      have j36 : ∀ (w18 : va_W), tW T w18 → tKeep 0x0 w5 w18 → ∀ (x19 : Int32), zS X G 2 w18 [] 0 0 36 [.int x19] := by
        intro w18 hw18 kw18 x19
        exact hR _ _ _ _ _ _ dX3_countOf_36 rfl (Nat.le_of_ble_eq_true rfl) (Nat.le_of_ble_eq_true rfl) ⟨hw18, rfl, rfl, (tKeep.tr (tKeep.tr tKeep.rf kw5 rfl) kw18 rfl)⟩
      refine z_icmp_ne hC (pc := 18) 25 dX3_countOf_18 (by decide) (fun c20 => ?_) (fun c20 => ?_)
      · refine z_aload_n hC (pc := 25) 0 dX3_countOf_25 rfl rfl ?_
        refine u_get hC hw5 (pc := 26) zf3 8 (hE.o3 h0) rfl dX3_countOf_26 zw514 (kk := fun va21 ta21 fa21 => ?_)
        obtain ⟨a21, ma21, rfl⟩ := ta21
        refine z_iload_n hC (pc := 29) 1 dX3_countOf_29 rfl rfl ?_
        refine z_ldc hC (pc := 30) (v := 134217727) dX3_countOf_30 zw1849 ?_
        refine z_iand hC (pc := 32) (v := (x1 &&& 134217727)) dX3_countOf_32 rfl ?_
        refine t_callSNi hC hw5 (pc := 33) (As := [.ref a21, .int (x1 &&& 134217727)]) (kX12_get l G T κ hst hE ma21) trivial dmX12_get dX3_countOf_33 zw1850 rfl rfl (Nat.le_of_ble_eq_true rfl) (Nat.le_of_ble_eq_true rfl) (Nat.le_of_ble_eq_true rfl) (Nat.le_of_ble_eq_true rfl) (Nat.le_of_ble_eq_true rfl) (fun _ _ _ h => nomatch h) (fun x23 cw22 nw22 w22 hw22 pw22 => ?_)
        obtain ⟨rfl, rfl, kw22⟩ := pw22
        refine z_lvs [] rfl ?_
        exact j36 w22 hw22 (tKeep.tr tKeep.rf kw22 rfl) x23
      · refine z_iconst hC (pc := 21) (v := 0) dX3_countOf_21 (by decide) ?_
        refine z_goto hC (pc := 22) 36 dX3_countOf_22 (by decide) ?_
        refine z_lvs [] rfl ?_
        exact j36 w5 hw5 tKeep.rf 0
  · refine z_iconst hC (pc := 4) (v := 0) dX3_countOf_4 (by decide) ?_
    exact hR _ _ _ _ _ _ dX3_countOf_5 rfl (Nat.le_of_ble_eq_true rfl) (Nat.le_of_ble_eq_true rfl) ⟨hw0, rfl, rfl, tKeep.rf⟩
set_option maxRecDepth 20000 in
theorem kX3_counted (l : Launch) (G : zG) (T : tT) (κ : Nat → List Nat) (hst : l.stackTraces = false) (hE : tE G T κ) {a0 : Nat} (h0 : a0 ∈ κ 3) {x1 : Int32} : tMv l G T yX3_counted cX3_counted 2 ["java/lang/IllegalStateException"] 6 81 1 6 [.ref a0, .int x1] uT (uPv 0x400000000000000000000000000000000000000000000000000) := by
  refine tMv.intro hst rfl (Nat.le_of_ble_eq_true rfl) ?_
  intro w0 hw0 _ X hC hR hO hX
  refine z_aload_n hC (pc := 0) 0 dX3_counted_0 rfl rfl ?_
  refine u_get hC hw0 (pc := 1) zf3 10 (hE.o3 h0) rfl dX3_counted_1 zw516 (kk := fun vx4 tx4 fx4 => ?_)
  obtain ⟨x4, rfl⟩ := tx4
  refine z_iload_n hC (pc := 4) 1 dX3_counted_4 rfl rfl ?_
  refine z_iadd hC (pc := 5) (v := (x4 + x1)) dX3_counted_5 rfl ?_
  refine z_sipush hC (pc := 6) (v := 20000) dX3_counted_6 (by decide) ?_
  refine z_icmp_le hC (pc := 9) 20 dX3_counted_9 (by decide) (fun c5 => ?_) (fun c5 => ?_)
  · refine z_aload_n hC (pc := 20) 0 dX3_counted_20 rfl rfl ?_
    refine z_dup hC (pc := 21) dX3_counted_21 rfl ?_
    refine u_getK hC (pc := 22) zf3 10 fx4 dX3_counted_22 zw516 (kk := ?_)
    refine z_iload_n hC (pc := 25) 1 dX3_counted_25 rfl rfl ?_
    refine z_iadd hC (pc := 26) (v := (x4 + x1)) dX3_counted_26 rfl ?_
    refine u_put hC hw0 (pc := 27) zf3 10 (hE.o3 h0) rfl ⟨_, rfl⟩ dX3_counted_27 zw516 rfl rfl rfl (kk := fun w6 hw6 fw6 kw6 => ?_)
    exact hR _ _ _ _ _ dX3_counted_30 (Nat.le_of_ble_eq_true rfl) (Nat.le_of_ble_eq_true rfl) ⟨hw6, rfl, rfl, (tKeep.tr tKeep.rf kw6 rfl)⟩
  · exact hX "java/lang/IllegalStateException" _ _ _ _ _ _ 79 81 exn (by decide) hw0 dX3_counted_12 dX3_counted_15 dX3_counted_16 dX3_counted_19 (by decide +kernel) (by decide +kernel) zw1820 zw20 atg_X3_81 atb_X3_81 ato_X3_81 (by decide) (Nat.le_of_ble_eq_true rfl) (Nat.le_of_ble_eq_true rfl) (Nat.le_of_ble_eq_true rfl)
set_option maxRecDepth 20000 in
theorem kX3_valueOf (l : Launch) (G : zG) (T : tT) (κ : Nat → List Nat) (hst : l.stackTraces = false) (hE : tE G T κ) {a0 : Nat} (h0 : a0 ∈ κ 3) {x1 : Int32} {x2 : Int32} : tMi l G T yX3_valueOf cX3_valueOf 3 .int [] 1 21 0 0 [.ref a0, .int x1, .int x2] uT (uPi 0x0) := by
  refine tMi.intro hst rfl (Nat.le_of_ble_eq_true rfl) ?_
  intro w0 hw0 _ X hC hR hO hX
  refine z_iload_n hC (pc := 0) 1 dX3_valueOf_0 rfl rfl ?_
  refine t_callSi hC hw0 (pc := 1) (As := [.int x1]) (kX3_sortOf l G T κ hst hE) trivial dmX3_sortOf dX3_valueOf_1 zw1844 rfl rfl (Nat.le_of_ble_eq_true rfl) (Nat.le_of_ble_eq_true rfl) (Nat.le_of_ble_eq_true rfl) (Nat.le_of_ble_eq_true rfl) (Nat.le_of_ble_eq_true rfl) (fun _ _ _ h => nomatch h) (fun x6 cw5 nw5 w5 hw5 pw5 => ?_)
  obtain ⟨rfl, rfl, kw5⟩ := pw5
  refine z_ldc hC (pc := 4) (v := 805306368) dX3_valueOf_4 zw1848 ?_
  refine z_icmp_ne hC (pc := 6) 25 dX3_valueOf_6 (by decide) (fun c7 => ?_) (fun c7 => ?_)
  · refine z_aload_n hC (pc := 25) 0 dX3_valueOf_25 rfl rfl ?_
    refine z_iload_n hC (pc := 26) 1 dX3_valueOf_26 rfl rfl ?_
    obtain ⟨q8, hqq8⟩ := hE.o3 h0
    refine t_callVi hC hw5 (pc := 27) (As := [.int x1]) (kX3_isMany l G T κ hst hE h0) trivial dmX3_isMany zf3 hqq8 dX3_valueOf_27 zw1851 rfl rfl (Nat.le_of_ble_eq_true rfl) (Nat.le_of_ble_eq_true rfl) (Nat.le_of_ble_eq_true rfl) (Nat.le_of_ble_eq_true rfl) (Nat.le_of_ble_eq_true rfl) (fun _ _ _ h => nomatch h) (fun x10 cw9 nw9 w9 hw9 pw9 => ?_)
    obtain ⟨rfl, rfl, kw9, zx10⟩ := pw9
    have j53 : ∀ (w11 : va_W), tW T w11 → tKeep 0x0 w9 w11 → ∀ (x12 : Int32), zS X G 3 w11 [] 0 0 53 [.int x12] := by
      intro w11 hw11 kw11 x12
      exact hR _ _ _ _ _ _ dX3_valueOf_53 rfl (Nat.le_of_ble_eq_true rfl) (Nat.le_of_ble_eq_true rfl) ⟨hw11, rfl, rfl, (tKeep.tr (tKeep.tr (tKeep.tr tKeep.rf kw5 rfl) kw9 rfl) kw11 rfl)⟩
    refine z_if_eq hC (pc := 30) 52 dX3_valueOf_30 (by decide) (fun c13 => ?_) (fun c13 => ?_)
    · refine z_iload_n hC (pc := 52) 1 dX3_valueOf_52 rfl rfl ?_
      refine z_lvs [] rfl ?_
      exact j53 w9 hw9 tKeep.rf x1
    · refine z_aload_n hC (pc := 33) 0 dX3_valueOf_33 rfl rfl ?_
      refine u_get hC hw9 (pc := 34) zf3 0 (hE.o3 h0) rfl dX3_valueOf_34 zw502 (kk := fun va14 ta14 fa14 => ?_)
      obtain ⟨a14, ma14, rfl⟩ := ta14
      refine u_get hC hw9 (pc := 37) zf8 5 (hE.o8 ma14) rfl dX3_valueOf_37 zw58 (kk := fun va15 ta15 fa15 => ?_)
      obtain ⟨a15, ma15, rfl⟩ := ta15
      refine z_iload_n hC (pc := 40) 1 dX3_valueOf_40 rfl rfl ?_
      refine z_bipush hC (pc := 41) (v := 100) dX3_valueOf_41 (by decide) ?_
      refine z_imul hC (pc := 43) (v := (x1 * 100)) dX3_valueOf_43 rfl ?_
      refine z_iload_n hC (pc := 44) 2 dX3_valueOf_44 rfl rfl ?_
      refine z_iadd hC (pc := 45) (v := ((x1 * 100) + x2)) dX3_valueOf_45 rfl ?_
      refine t_callSNi hC hw9 (pc := 46) (As := [.ref a15, .int ((x1 * 100) + x2)]) (kX12_get l G T κ hst hE ma15) trivial dmX12_get dX3_valueOf_46 zw1850 rfl rfl (Nat.le_of_ble_eq_true rfl) (Nat.le_of_ble_eq_true rfl) (Nat.le_of_ble_eq_true rfl) (Nat.le_of_ble_eq_true rfl) (Nat.le_of_ble_eq_true rfl) (fun _ _ _ h => nomatch h) (fun x17 cw16 nw16 w16 hw16 pw16 => ?_)
      obtain ⟨rfl, rfl, kw16⟩ := pw16
      refine z_goto hC (pc := 49) 53 dX3_valueOf_49 (by decide) ?_
      refine z_lvs [] rfl ?_
      exact j53 w16 hw16 (tKeep.tr tKeep.rf kw16 rfl) x17
  · refine z_aload_n hC (pc := 9) 0 dX3_valueOf_9 rfl rfl ?_
    refine u_get hC hw5 (pc := 10) zf3 8 (hE.o3 h0) rfl dX3_valueOf_10 zw514 (kk := fun va18 ta18 fa18 => ?_)
    obtain ⟨a18, ma18, rfl⟩ := ta18
    refine z_iload_n hC (pc := 13) 1 dX3_valueOf_13 rfl rfl ?_
    refine z_ldc hC (pc := 14) (v := 134217727) dX3_valueOf_14 zw1849 ?_
    refine z_iand hC (pc := 16) (v := (x1 &&& 134217727)) dX3_valueOf_16 rfl ?_
    refine z_iconst hC (pc := 17) (v := 1) dX3_valueOf_17 (by decide) ?_
    refine z_iadd hC (pc := 18) (v := ((x1 &&& 134217727) + 1)) dX3_valueOf_18 rfl ?_
    refine z_iload_n hC (pc := 19) 2 dX3_valueOf_19 rfl rfl ?_
    refine z_iadd hC (pc := 20) (v := (((x1 &&& 134217727) + 1) + x2)) dX3_valueOf_20 rfl ?_
    refine t_callSNi hC hw5 (pc := 21) (As := [.ref a18, .int (((x1 &&& 134217727) + 1) + x2)]) (kX12_get l G T κ hst hE ma18) trivial dmX12_get dX3_valueOf_21 zw1850 rfl rfl (Nat.le_of_ble_eq_true rfl) (Nat.le_of_ble_eq_true rfl) (Nat.le_of_ble_eq_true rfl) (Nat.le_of_ble_eq_true rfl) (Nat.le_of_ble_eq_true rfl) (fun _ _ _ h => nomatch h) (fun x20 cw19 nw19 w19 hw19 pw19 => ?_)
    obtain ⟨rfl, rfl, kw19⟩ := pw19
    exact hR _ _ _ _ _ _ dX3_valueOf_24 rfl (Nat.le_of_ble_eq_true rfl) (Nat.le_of_ble_eq_true rfl) ⟨hw19, rfl, rfl, (tKeep.tr (tKeep.tr tKeep.rf kw5 rfl) kw19 rfl)⟩
set_option maxRecDepth 20000 in
theorem kX3_put (l : Launch) (G : zG) (T : tT) (κ : Nat → List Nat) (hst : l.stackTraces = false) (hE : tE G T κ) {a0 : Nat} (h0 : a0 ∈ κ 3) {x1 : Int32} {x2 : Int32} {x3 : Int32} : tMv l G T yX3_put cX3_put 4 [] 1 22 0 0 [.ref a0, .int x1, .int x2, .int x3] uT (uPv 0x0) := by
  refine tMv.intro hst rfl (Nat.le_of_ble_eq_true rfl) ?_
  intro w0 hw0 _ X hC hR hO hX
  refine z_aload_n hC (pc := 0) 0 dX3_put_0 rfl rfl ?_
  refine u_get hC hw0 (pc := 1) zf3 8 (hE.o3 h0) rfl dX3_put_1 zw514 (kk := fun va6 ta6 fa6 => ?_)
  obtain ⟨a6, ma6, rfl⟩ := ta6
  refine z_iload_n hC (pc := 4) 1 dX3_put_4 rfl rfl ?_
  refine z_ldc hC (pc := 5) (v := 134217727) dX3_put_5 zw1849 ?_
  refine z_iand hC (pc := 7) (v := (x1 &&& 134217727)) dX3_put_7 rfl ?_
  refine z_iconst hC (pc := 8) (v := 1) dX3_put_8 (by decide) ?_
  refine z_iadd hC (pc := 9) (v := ((x1 &&& 134217727) + 1)) dX3_put_9 rfl ?_
  refine z_iload_n hC (pc := 10) 2 dX3_put_10 rfl rfl ?_
  refine z_iadd hC (pc := 11) (v := (((x1 &&& 134217727) + 1) + x2)) dX3_put_11 rfl ?_
  refine z_iload_n hC (pc := 12) 3 dX3_put_12 rfl rfl ?_
  refine t_callSNv hC hw0 (pc := 13) (As := [.ref a6, .int (((x1 &&& 134217727) + 1) + x2), .int x3]) (kX12_set l G T κ hst hE ma6) trivial dmX12_set dX3_put_13 zw1879 rfl rfl (Nat.le_of_ble_eq_true rfl) (Nat.le_of_ble_eq_true rfl) (Nat.le_of_ble_eq_true rfl) (Nat.le_of_ble_eq_true rfl) (Nat.le_of_ble_eq_true rfl) (fun _ _ _ h => nomatch h) (fun cw7 nw7 w7 hw7 pw7 => ?_)
  obtain ⟨rfl, rfl, kw7⟩ := pw7
  exact hR _ _ _ _ _ dX3_put_16 (Nat.le_of_ble_eq_true rfl) (Nat.le_of_ble_eq_true rfl) ⟨hw7, rfl, rfl, (tKeep.tr tKeep.rf kw7 rfl)⟩
set_option maxRecDepth 20000 in
theorem kX5_spread (l : Launch) (G : zG) (T : tT) (κ : Nat → List Nat) (hst : l.stackTraces = false) (hE : tE G T κ) {a0 : Nat} (h0 : a0 ∈ κ 5) {x1 : Int32} {x2 : Int32} {x3 : Int32} {x4 : Int32} {x5 : Int32} : tMi l G T yX5_spread cX5_spread 9 .int [] 2 45 0 0 [.ref a0, .int x1, .int x2, .int x3, .int x4, .int x5] uT (uPi 0x0) := by
  refine tMi.intro hst rfl (Nat.le_of_ble_eq_true rfl) ?_
  intro w0 hw0 _ X hC hR hO hX
  refine z_iload_n hC (pc := 0) 2 dX5_spread_0 rfl rfl ?_
  refine z_istore hC (pc := 1) (lv' := [(6, .int x2), (0, .ref a0), (1, .int x1), (2, .int x2), (3, .int x3), (4, .int x4), (5, .int x5)]) dX5_spread_1 (by decide) rfl ?_
  refine z_iload hC (pc := 3) 5 dX5_spread_3 rfl ?_
  have j20 : ∀ (w8 : va_W), tW T w8 → tKeep 0x0 w0 w8 → ∀ (x9 : Int32), zS X G 9 w8 [(0, .ref a0), (1, .int x1), (3, .int x3), (4, .int x4), (5, .int x5), (6, .int x2)] 0 0 20 [.int x9] := by
    intro w8 hw8 kw8 x9
    refine z_istore hC (pc := 20) (lv' := [(7, .int x9), (0, .ref a0), (1, .int x1), (3, .int x3), (4, .int x4), (5, .int x5), (6, .int x2)]) dX5_spread_20 (by decide) rfl ?_
    refine z_iconst hC (pc := 22) (v := 0) dX5_spread_22 (by decide) ?_
    refine z_istore hC (pc := 23) (lv' := [(8, .int 0), (7, .int x9), (0, .ref a0), (1, .int x1), (3, .int x3), (4, .int x4), (5, .int x5), (6, .int x2)]) dX5_spread_23 (by decide) rfl ?_
    have j25 : ∀ (d25 : Nat), ∀ (w10 : va_W), tW T w10 → tKeep 0x0 w8 w10 → ∀ (x11 : Int32), ∀ (x12 : Int32), ¬ x12 < 0 → (2 ^ 31 - (x12 : Int32).toInt).toNat ≤ d25 → zS X G 9 w10 [(0, .ref a0), (1, .int x1), (3, .int x3), (4, .int x4), (5, .int x5), (6, .int x11), (7, .int x9), (8, .int x12)] 0 0 25 [] := by
      intro d25
      induction d25 with
      | zero => intro w10 hw10 kw10 x11 x12 v13 hd25; exact (t_zero hd25).elim
      | succ d25 ih25 =>
        intro w10 hw10 kw10 x11 x12 v13 hd25
        refine z_iload hC (pc := 25) 7 dX5_spread_25 rfl ?_
        refine z_iload hC (pc := 27) 6 dX5_spread_27 rfl ?_
        have j77 : zS X G 9 w10 [(6, .int x11)] 0 0 77 [] := by
          refine z_iload hC (pc := 77) 0 dX5_spread_77 rfl ?_
          exact hR _ _ _ _ _ _ dX5_spread_79 rfl (Nat.le_of_ble_eq_true rfl) (Nat.le_of_ble_eq_true rfl) ⟨hw10, rfl, rfl, (tKeep.tr (tKeep.tr tKeep.rf kw8 rfl) kw10 rfl)⟩
        refine z_icmp_ge hC (pc := 29) 77 dX5_spread_29 (by decide) (fun c14 => ?_) (fun c14 => ?_)
        · refine z_lvs [5] rfl ?_
          exact j77
        · refine z_iload hC (pc := 32) 5 dX5_spread_32 rfl ?_
          refine z_iload hC (pc := 34) 4 dX5_spread_34 rfl ?_
          refine z_icmp_ge hC (pc := 36) 77 dX5_spread_36 (by decide) (fun c15 => ?_) (fun c15 => ?_)
          · refine z_lvs [5] rfl ?_
            exact j77
          · refine z_aload_n hC (pc := 39) 0 dX5_spread_39 rfl rfl ?_
            refine u_get hC hw10 (pc := 40) zf5 2 (hE.o5 h0) rfl dX5_spread_40 zw644 (kk := fun va16 ta16 fa16 => ?_)
            obtain ⟨a16, ma16, rfl⟩ := ta16
            refine z_iload_n hC (pc := 43) 1 dX5_spread_43 rfl rfl ?_
            refine z_iload hC (pc := 44) 5 dX5_spread_44 rfl ?_
            refine z_iload hC (pc := 46) 3 dX5_spread_46 rfl ?_
            have j65 : ∀ (w17 : va_W), tW T w17 → tKeep 0x0 w10 w17 → ∀ (x18 : Int32), zS X G 9 w17 [(0, .ref a0), (1, .int x1), (3, .int x3), (4, .int x4), (5, .int x5), (6, .int x11), (7, .int x9), (8, .int x12)] 0 0 65 [.int x18, .int x11, .int x1, .ref a16] := by
              intro w17 hw17 kw17 x18
              obtain ⟨q19, hqq19⟩ := hE.o3 ma16
              refine t_callVv hC hw17 (pc := 65) (As := [.int x1, .int x11, .int x18]) (kX3_put l G T κ hst hE ma16) trivial dmX3_put zf3 hqq19 dX5_spread_65 zw1875 rfl rfl (Nat.le_of_ble_eq_true rfl) (Nat.le_of_ble_eq_true rfl) (Nat.le_of_ble_eq_true rfl) (Nat.le_of_ble_eq_true rfl) (Nat.le_of_ble_eq_true rfl) (fun _ _ _ h => nomatch h) (fun cw20 nw20 w20 hw20 pw20 => ?_)
              obtain ⟨rfl, rfl, kw20⟩ := pw20
              refine z_iinc hC (pc := 68) (v := (x11 + 1)) (lv' := [(6, .int (x11 + 1)), (0, .ref a0), (1, .int x1), (3, .int x3), (4, .int x4), (5, .int x5), (7, .int x9), (8, .int x12)]) 5 dX5_spread_68 rfl (congrArg _ (by decide)) (by decide) rfl ?_
              refine z_iinc hC (pc := 71) (v := (x12 + 1)) (lv' := [(8, .int (x12 + 1)), (6, .int (x11 + 1)), (0, .ref a0), (1, .int x1), (3, .int x3), (4, .int x4), (5, .int x5), (7, .int x9)]) 7 dX5_spread_71 rfl (congrArg _ (by decide)) (by decide) rfl ?_
              refine z_goto hC (pc := 74) 25 dX5_spread_74 (by decide) ?_
              refine z_lvs [2, 3, 4, 5, 6, 1, 7, 0] rfl ?_
              exact ih25 w20 hw20 (tKeep.tr (tKeep.tr (tKeep.tr tKeep.rf kw10 rfl) kw17 rfl) kw20 rfl) (x11 + 1) (x12 + 1) (t_nnI v13 (Int32.not_le.mp c14)) (t_up (Int32.not_le.mp c14) hd25)
            refine z_if_eq hC (pc := 48) 64 dX5_spread_48 (by decide) (fun c22 => ?_) (fun c22 => ?_)
            · refine z_iload_n hC (pc := 64) 2 dX5_spread_64 rfl rfl ?_
              exact j65 w10 hw10 tKeep.rf x3
            · refine z_aload_n hC (pc := 51) 0 dX5_spread_51 rfl rfl ?_
              refine u_getK hC (pc := 52) zf5 2 fa16 dX5_spread_52 zw644 (kk := ?_)
              refine z_iload_n hC (pc := 55) 2 dX5_spread_55 rfl rfl ?_
              refine z_iload hC (pc := 56) 7 dX5_spread_56 rfl ?_
              obtain ⟨q23, hqq23⟩ := hE.o3 ma16
              refine t_callVi hC hw10 (pc := 58) (As := [.int x3, .int x12]) (kX3_valueOf l G T κ hst hE ma16) trivial dmX3_valueOf zf3 hqq23 dX5_spread_58 zw1871 rfl rfl (Nat.le_of_ble_eq_true rfl) (Nat.le_of_ble_eq_true rfl) (Nat.le_of_ble_eq_true rfl) (Nat.le_of_ble_eq_true rfl) (Nat.le_of_ble_eq_true rfl) (fun _ _ _ h => nomatch h) (fun x25 cw24 nw24 w24 hw24 pw24 => ?_)
              obtain ⟨rfl, rfl, kw24⟩ := pw24
              refine z_goto hC (pc := 61) 65 dX5_spread_61 (by decide) ?_
              exact j65 w24 hw24 (tKeep.tr tKeep.rf kw24 rfl) x25
    refine z_lvs [2, 3, 4, 5, 6, 7, 1, 0] rfl ?_
    exact j25 _ w8 hw8 tKeep.rf x2 0 (by decide) (Nat.le_refl _)
  refine z_if_eq hC (pc := 5) 19 dX5_spread_5 (by decide) (fun c26 => ?_) (fun c26 => ?_)
  · refine z_iconst hC (pc := 19) (v := 1) dX5_spread_19 (by decide) ?_
    refine z_lvs [1, 2, 4, 5, 6, 0] rfl ?_
    exact j20 w0 hw0 tKeep.rf 1
  · refine z_aload_n hC (pc := 8) 1 dX5_spread_8 rfl rfl ?_
    refine u_get hC hw0 (pc := 9) zf5 2 (hE.o5 h0) rfl dX5_spread_9 zw644 (kk := fun va27 ta27 fa27 => ?_)
    obtain ⟨a27, ma27, rfl⟩ := ta27
    refine z_iload_n hC (pc := 12) 4 dX5_spread_12 rfl rfl ?_
    obtain ⟨q28, hqq28⟩ := hE.o3 ma27
    refine t_callVi hC hw0 (pc := 13) (As := [.int x3]) (kX3_countOf l G T κ hst hE ma27) trivial dmX3_countOf zf3 hqq28 dX5_spread_13 zw1840 rfl rfl (Nat.le_of_ble_eq_true rfl) (Nat.le_of_ble_eq_true rfl) (Nat.le_of_ble_eq_true rfl) (Nat.le_of_ble_eq_true rfl) (Nat.le_of_ble_eq_true rfl) (fun _ _ _ h => nomatch h) (fun x30 cw29 nw29 w29 hw29 pw29 => ?_)
    obtain ⟨rfl, rfl, kw29⟩ := pw29
    refine z_goto hC (pc := 16) 20 dX5_spread_16 (by decide) ?_
    refine z_lvs [1, 2, 4, 5, 6, 0] rfl ?_
    exact j20 w29 hw29 (tKeep.tr tKeep.rf kw29 rfl) x30
set_option maxRecDepth 20000 in
theorem kX3_addToRoot (l : Launch) (G : zG) (T : tT) (κ : Nat → List Nat) (hst : l.stackTraces = false) (hE : tE G T κ) {a0 : Nat} (h0 : a0 ∈ κ 3) {x1 : Int32} {x2 : Int32} : tMv l G T yX3_addToRoot cX3_addToRoot 3 [] 1 22 0 0 [.ref a0, .int x1, .int x2] uT (uPv 0x8000000000000000000000000000000000000000000000000000) := by
  refine tMv.intro hst rfl (Nat.le_of_ble_eq_true rfl) ?_
  intro w0 hw0 _ X hC hR hO hX
  refine z_aload_n hC (pc := 0) 0 dX3_addToRoot_0 rfl rfl ?_
  refine u_get hC hw0 (pc := 1) zf3 13 (hE.o3 h0) rfl dX3_addToRoot_1 zw520 (kk := fun va5 ta5 fa5 => ?_)
  obtain ⟨a5, ma5, rfl⟩ := ta5
  refine z_aload_n hC (pc := 4) 0 dX3_addToRoot_4 rfl rfl ?_
  refine u_get hC hw0 (pc := 5) zf3 15 (hE.o3 h0) rfl dX3_addToRoot_5 zw522 (kk := fun vx6 tx6 fx6 => ?_)
  obtain ⟨x6, rfl⟩ := tx6
  refine z_iload_n hC (pc := 8) 1 dX3_addToRoot_8 rfl rfl ?_
  refine t_callSNv hC hw0 (pc := 9) (As := [.ref a5, .int x6, .int x1]) (kX12_set l G T κ hst hE ma5) trivial dmX12_set dX3_addToRoot_9 zw1879 rfl rfl (Nat.le_of_ble_eq_true rfl) (Nat.le_of_ble_eq_true rfl) (Nat.le_of_ble_eq_true rfl) (Nat.le_of_ble_eq_true rfl) (Nat.le_of_ble_eq_true rfl) (fun _ _ _ h => nomatch h) (fun cw7 nw7 w7 hw7 pw7 => ?_)
  obtain ⟨rfl, rfl, kw7⟩ := pw7
  refine z_aload_n hC (pc := 12) 0 dX3_addToRoot_12 rfl rfl ?_
  refine u_get hC hw7 (pc := 13) zf3 14 (hE.o3 h0) rfl dX3_addToRoot_13 zw521 (kk := fun va9 ta9 fa9 => ?_)
  obtain ⟨a9, ma9, rfl⟩ := ta9
  refine z_aload_n hC (pc := 16) 0 dX3_addToRoot_16 rfl rfl ?_
  refine u_getK hC (pc := 17) zf3 15 (tKeep.F kw7 fx6 rfl) dX3_addToRoot_17 zw522 (kk := ?_)
  refine z_iload_n hC (pc := 20) 2 dX3_addToRoot_20 rfl rfl ?_
  refine t_callSNv hC hw7 (pc := 21) (As := [.ref a9, .int x6, .int x2]) (kX12_set l G T κ hst hE ma9) trivial dmX12_set dX3_addToRoot_21 zw1879 rfl rfl (Nat.le_of_ble_eq_true rfl) (Nat.le_of_ble_eq_true rfl) (Nat.le_of_ble_eq_true rfl) (Nat.le_of_ble_eq_true rfl) (Nat.le_of_ble_eq_true rfl) (fun _ _ _ h => nomatch h) (fun cw10 nw10 w10 hw10 pw10 => ?_)
  obtain ⟨rfl, rfl, kw10⟩ := pw10
  refine z_aload_n hC (pc := 24) 0 dX3_addToRoot_24 rfl rfl ?_
  refine z_dup hC (pc := 25) dX3_addToRoot_25 rfl ?_
  refine u_getK hC (pc := 26) zf3 15 (tKeep.F kw10 (tKeep.F kw7 fx6 rfl) rfl) dX3_addToRoot_26 zw522 (kk := ?_)
  refine z_iconst hC (pc := 29) (v := 1) dX3_addToRoot_29 (by decide) ?_
  refine z_iadd hC (pc := 30) (v := (x6 + 1)) dX3_addToRoot_30 rfl ?_
  refine u_put hC hw10 (pc := 31) zf3 15 (hE.o3 h0) rfl ⟨_, rfl⟩ dX3_addToRoot_31 zw522 rfl rfl rfl (kk := fun w12 hw12 fw12 kw12 => ?_)
  exact hR _ _ _ _ _ dX3_addToRoot_34 (Nat.le_of_ble_eq_true rfl) (Nat.le_of_ble_eq_true rfl) ⟨hw12, rfl, rfl, (tKeep.tr (tKeep.tr (tKeep.tr tKeep.rf kw7 rfl) kw10 rfl) kw12 rfl)⟩
set_option maxRecDepth 20000 in
theorem kX5_counted (l : Launch) (G : zG) (T : tT) (κ : Nat → List Nat) (hst : l.stackTraces = false) (hE : tE G T κ) {a0 : Nat} (h0 : a0 ∈ κ 5) : tMv l G T yX5_counted cX5_counted 1 ["java/lang/IllegalStateException"] 6 81 1 6 [.ref a0] uT (uPv 0x400000000000000000000000000000000000000000000000000000000000000000000000000000000000) := by
  refine tMv.intro hst rfl (Nat.le_of_ble_eq_true rfl) ?_
  intro w0 hw0 _ X hC hR hO hX
  refine z_aload_n hC (pc := 0) 0 dX5_counted_0 rfl rfl ?_
  refine u_get hC hw0 (pc := 1) zf5 14 (hE.o5 h0) rfl dX5_counted_1 zw656 (kk := fun vx3 tx3 fx3 => ?_)
  obtain ⟨x3, rfl⟩ := tx3
  refine z_ldc_w hC (pc := 4) (v := 60000) dX5_counted_4 zw1915 ?_
  refine z_icmp_lt hC (pc := 7) 18 dX5_counted_7 (by decide) (fun c4 => ?_) (fun c4 => ?_)
  · refine z_aload_n hC (pc := 18) 0 dX5_counted_18 rfl rfl ?_
    refine z_dup hC (pc := 19) dX5_counted_19 rfl ?_
    refine u_getK hC (pc := 20) zf5 14 fx3 dX5_counted_20 zw656 (kk := ?_)
    refine z_iconst hC (pc := 23) (v := 1) dX5_counted_23 (by decide) ?_
    refine z_iadd hC (pc := 24) (v := (x3 + 1)) dX5_counted_24 rfl ?_
    refine u_put hC hw0 (pc := 25) zf5 14 (hE.o5 h0) rfl ⟨_, rfl⟩ dX5_counted_25 zw656 rfl rfl rfl (kk := fun w5 hw5 fw5 kw5 => ?_)
    exact hR _ _ _ _ _ dX5_counted_28 (Nat.le_of_ble_eq_true rfl) (Nat.le_of_ble_eq_true rfl) ⟨hw5, rfl, rfl, (tKeep.tr tKeep.rf kw5 rfl)⟩
  · exact hX "java/lang/IllegalStateException" _ _ _ _ _ _ 134 236 exn (by decide) hw0 dX5_counted_10 dX5_counted_13 dX5_counted_14 dX5_counted_17 (by decide +kernel) (by decide +kernel) zw1790 zw20 atg_X5_236 atb_X5_236 ato_X5_236 (by decide) (Nat.le_of_ble_eq_true rfl) (Nat.le_of_ble_eq_true rfl) (Nat.le_of_ble_eq_true rfl)
set_option maxRecDepth 20000 in
theorem kX5_start (l : Launch) (G : zG) (T : tT) (κ : Nat → List Nat) (hst : l.stackTraces = false) (hE : tE G T κ) {a0 : Nat} (h0 : a0 ∈ κ 5) {x1 : Int32} : tMv l G T yX5_start cX5_start 2 ["java/lang/IllegalStateException"] 6 81 1 6 [.ref a0, .int x1] uT (uPv 0x8000000000000000000000000000000000000000000000000000000000000000000000000000000000) := by
  refine tMv.intro hst rfl (Nat.le_of_ble_eq_true rfl) ?_
  intro w0 hw0 _ X hC hR hO hX
  refine z_aload_n hC (pc := 0) 0 dX5_start_0 rfl rfl ?_
  refine u_get hC hw0 (pc := 1) zf5 7 (hE.o5 h0) rfl dX5_start_1 zw649 (kk := fun vx4 tx4 fx4 => ?_)
  obtain ⟨x4, rfl⟩ := tx4
  have j19 : zS X G 2 w0 [] 0 0 19 [] := by
    exact hX "java/lang/IllegalStateException" _ _ _ _ _ _ 134 236 exn (by decide) hw0 dX5_start_19 dX5_start_22 dX5_start_23 dX5_start_26 (by decide +kernel) (by decide +kernel) zw1790 zw20 atg_X5_236 atb_X5_236 ato_X5_236 (by decide) (Nat.le_of_ble_eq_true rfl) (Nat.le_of_ble_eq_true rfl) (Nat.le_of_ble_eq_true rfl)
  refine z_if_lt hC (pc := 4) 19 dX5_start_4 (by decide) (fun c5 => ?_) (fun c5 => ?_)
  · refine z_lvs [] rfl ?_
    exact j19
  · refine z_aload_n hC (pc := 7) 0 dX5_start_7 rfl rfl ?_
    refine u_getK hC (pc := 8) zf5 7 fx4 dX5_start_8 zw649 (kk := ?_)
    refine z_aload_n hC (pc := 11) 0 dX5_start_11 rfl rfl ?_
    refine u_get hC hw0 (pc := 12) zf5 6 (hE.o5 h0) rfl dX5_start_12 zw648 (kk := fun va6 ta6 fa6 => ?_)
    obtain ⟨a6, ma6, rfl⟩ := ta6
    obtain ⟨N7, hN7, AN7⟩ := hE.ints ma6
    refine u_alenI hC hw0 (pc := 15) AN7 dX5_start_15 ?_
    refine z_icmp_lt hC (pc := 16) 27 dX5_start_16 (by decide) (fun c8 => ?_) (fun c8 => ?_)
    · refine z_aload_n hC (pc := 27) 0 dX5_start_27 rfl rfl ?_
      refine u_getK hC (pc := 28) zf5 6 fa6 dX5_start_28 zw648 (kk := ?_)
      refine z_aload_n hC (pc := 31) 0 dX5_start_31 rfl rfl ?_
      refine u_getK hC (pc := 32) zf5 7 fx4 dX5_start_32 zw649 (kk := ?_)
      refine z_iload_n hC (pc := 35) 1 dX5_start_35 rfl rfl ?_
      refine u_iast hC hw0 (pc := 36) AN7 dX5_start_36 (t_inB hN7 c5 (Int32.not_le.mpr c8)) trivial (fun w9 hw9 kw9 => ?_)
      refine z_aload_n hC (pc := 37) 0 dX5_start_37 rfl rfl ?_
      refine z_dup hC (pc := 38) dX5_start_38 rfl ?_
      refine u_getK hC (pc := 39) zf5 7 (tKeep.F kw9 fx4 rfl) dX5_start_39 zw649 (kk := ?_)
      refine z_iconst hC (pc := 42) (v := 1) dX5_start_42 (by decide) ?_
      refine z_iadd hC (pc := 43) (v := (x4 + 1)) dX5_start_43 rfl ?_
      refine u_put hC hw9 (pc := 44) zf5 7 (hE.o5 h0) rfl ⟨_, rfl⟩ dX5_start_44 zw649 rfl rfl rfl (kk := fun w10 hw10 fw10 kw10 => ?_)
      exact hR _ _ _ _ _ dX5_start_47 (Nat.le_of_ble_eq_true rfl) (Nat.le_of_ble_eq_true rfl) ⟨hw10, rfl, rfl, (tKeep.tr (tKeep.tr tKeep.rf kw9 rfl) kw10 rfl)⟩
    · refine z_lvs [] rfl ?_
      exact j19
set_option maxRecDepth 20000 in
theorem kX5_options (l : Launch) (G : zG) (T : tT) (κ : Nat → List Nat) (hst : l.stackTraces = false) (hE : tE G T κ) {a0 : Nat} (h0 : a0 ∈ κ 5) : tMv l G T yX5_options cX5_options 1 ["java/lang/IllegalStateException"] 7 102 1 6 [.ref a0] uT (uPv 0x8000000000000000000000000000000000000000000000000000000000000000000000000000000000) := by
  refine tMv.intro hst rfl (Nat.le_of_ble_eq_true rfl) ?_
  intro w0 hw0 _ X hC hR hO hX
  refine z_aload_n hC (pc := 0) 0 dX5_options_0 rfl rfl ?_
  refine z_aload_n hC (pc := 1) 0 dX5_options_1 rfl rfl ?_
  refine u_get hC hw0 (pc := 2) zf5 15 (hE.o5 h0) rfl dX5_options_2 zw657 (kk := fun vx3 tx3 fx3 => ?_)
  obtain ⟨x3, rfl⟩ := tx3
  obtain ⟨q4, hqq4⟩ := hE.o5 h0
  refine t_callVv hC hw0 (pc := 5) (As := [.int x3]) (kX5_start l G T κ hst hE h0) trivial dmX5_start zf5 hqq4 dX5_options_5 zw1921 rfl rfl (Nat.le_of_ble_eq_true rfl) (Nat.le_of_ble_eq_true rfl) (Nat.le_of_ble_eq_true rfl) (Nat.le_of_ble_eq_true rfl) (Nat.le_of_ble_eq_true rfl) (fun E w q hE hw => hO E w _ _ _ _ _ q hE (Nat.le_of_ble_eq_true rfl) (Nat.le_of_ble_eq_true rfl) hw) (fun cw5 nw5 w5 hw5 pw5 => ?_)
  obtain ⟨rfl, rfl, kw5⟩ := pw5
  refine z_aload_n hC (pc := 8) 0 dX5_options_8 rfl rfl ?_
  refine z_aload_n hC (pc := 9) 0 dX5_options_9 rfl rfl ?_
  refine u_get hC hw5 (pc := 10) zf5 16 (hE.o5 h0) rfl dX5_options_10 zw658 (kk := fun vx7 tx7 fx7 => ?_)
  obtain ⟨x7, rfl⟩ := tx7
  refine t_callVv hC hw5 (pc := 13) (As := [.int x7]) (kX5_start l G T κ hst hE h0) trivial dmX5_start zf5 hqq4 dX5_options_13 zw1921 rfl rfl (Nat.le_of_ble_eq_true rfl) (Nat.le_of_ble_eq_true rfl) (Nat.le_of_ble_eq_true rfl) (Nat.le_of_ble_eq_true rfl) (Nat.le_of_ble_eq_true rfl) (fun E w q hE hw => hO E w _ _ _ _ _ q hE (Nat.le_of_ble_eq_true rfl) (Nat.le_of_ble_eq_true rfl) hw) (fun cw8 nw8 w8 hw8 pw8 => ?_)
  obtain ⟨rfl, rfl, kw8⟩ := pw8
  refine z_aload_n hC (pc := 16) 0 dX5_options_16 rfl rfl ?_
  refine z_aload_n hC (pc := 17) 0 dX5_options_17 rfl rfl ?_
  refine u_get hC hw8 (pc := 18) zf5 17 (hE.o5 h0) rfl dX5_options_18 zw659 (kk := fun vx10 tx10 fx10 => ?_)
  obtain ⟨x10, rfl⟩ := tx10
  refine t_callVv hC hw8 (pc := 21) (As := [.int x10]) (kX5_start l G T κ hst hE h0) trivial dmX5_start zf5 hqq4 dX5_options_21 zw1921 rfl rfl (Nat.le_of_ble_eq_true rfl) (Nat.le_of_ble_eq_true rfl) (Nat.le_of_ble_eq_true rfl) (Nat.le_of_ble_eq_true rfl) (Nat.le_of_ble_eq_true rfl) (fun E w q hE hw => hO E w _ _ _ _ _ q hE (Nat.le_of_ble_eq_true rfl) (Nat.le_of_ble_eq_true rfl) hw) (fun cw11 nw11 w11 hw11 pw11 => ?_)
  obtain ⟨rfl, rfl, kw11⟩ := pw11
  refine z_aload_n hC (pc := 24) 0 dX5_options_24 rfl rfl ?_
  refine z_aload_n hC (pc := 25) 0 dX5_options_25 rfl rfl ?_
  refine u_get hC hw11 (pc := 26) zf5 18 (hE.o5 h0) rfl dX5_options_26 zw660 (kk := fun vx13 tx13 fx13 => ?_)
  obtain ⟨x13, rfl⟩ := tx13
  refine t_callVv hC hw11 (pc := 29) (As := [.int x13]) (kX5_start l G T κ hst hE h0) trivial dmX5_start zf5 hqq4 dX5_options_29 zw1921 rfl rfl (Nat.le_of_ble_eq_true rfl) (Nat.le_of_ble_eq_true rfl) (Nat.le_of_ble_eq_true rfl) (Nat.le_of_ble_eq_true rfl) (Nat.le_of_ble_eq_true rfl) (fun E w q hE hw => hO E w _ _ _ _ _ q hE (Nat.le_of_ble_eq_true rfl) (Nat.le_of_ble_eq_true rfl) hw) (fun cw14 nw14 w14 hw14 pw14 => ?_)
  obtain ⟨rfl, rfl, kw14⟩ := pw14
  refine z_aload_n hC (pc := 32) 0 dX5_options_32 rfl rfl ?_
  refine z_aload_n hC (pc := 33) 0 dX5_options_33 rfl rfl ?_
  refine u_get hC hw14 (pc := 34) zf5 1 (hE.o5 h0) rfl dX5_options_34 zw642 (kk := fun va16 ta16 fa16 => ?_)
  obtain ⟨a16, ma16, rfl⟩ := ta16
  refine u_get hC hw14 (pc := 37) zf11 14 (hE.o11 ma16) rfl dX5_options_37 zw604 (kk := fun vx17 tx17 fx17 => ?_)
  obtain ⟨x17, rfl⟩ := tx17
  refine t_callVv hC hw14 (pc := 40) (As := [.int x17]) (kX5_start l G T κ hst hE h0) trivial dmX5_start zf5 hqq4 dX5_options_40 zw1921 rfl rfl (Nat.le_of_ble_eq_true rfl) (Nat.le_of_ble_eq_true rfl) (Nat.le_of_ble_eq_true rfl) (Nat.le_of_ble_eq_true rfl) (Nat.le_of_ble_eq_true rfl) (fun E w q hE hw => hO E w _ _ _ _ _ q hE (Nat.le_of_ble_eq_true rfl) (Nat.le_of_ble_eq_true rfl) hw) (fun cw18 nw18 w18 hw18 pw18 => ?_)
  obtain ⟨rfl, rfl, kw18⟩ := pw18
  refine z_aload_n hC (pc := 43) 0 dX5_options_43 rfl rfl ?_
  refine z_aload_n hC (pc := 44) 0 dX5_options_44 rfl rfl ?_
  refine u_getK hC (pc := 45) zf5 1 (tKeep.F kw18 fa16 rfl) dX5_options_45 zw642 (kk := ?_)
  refine u_get hC hw18 (pc := 48) zf11 15 (hE.o11 ma16) rfl dX5_options_48 zw606 (kk := fun vx20 tx20 fx20 => ?_)
  obtain ⟨x20, rfl⟩ := tx20
  refine t_callVv hC hw18 (pc := 51) (As := [.int x20]) (kX5_start l G T κ hst hE h0) trivial dmX5_start zf5 hqq4 dX5_options_51 zw1921 rfl rfl (Nat.le_of_ble_eq_true rfl) (Nat.le_of_ble_eq_true rfl) (Nat.le_of_ble_eq_true rfl) (Nat.le_of_ble_eq_true rfl) (Nat.le_of_ble_eq_true rfl) (fun E w q hE hw => hO E w _ _ _ _ _ q hE (Nat.le_of_ble_eq_true rfl) (Nat.le_of_ble_eq_true rfl) hw) (fun cw21 nw21 w21 hw21 pw21 => ?_)
  obtain ⟨rfl, rfl, kw21⟩ := pw21
  refine z_aload_n hC (pc := 54) 0 dX5_options_54 rfl rfl ?_
  refine z_iconst hC (pc := 55) (v := 2) dX5_options_55 (by decide) ?_
  refine t_callVv hC hw21 (pc := 56) (As := [.int 2]) (kX5_start l G T κ hst hE h0) trivial dmX5_start zf5 hqq4 dX5_options_56 zw1921 rfl rfl (Nat.le_of_ble_eq_true rfl) (Nat.le_of_ble_eq_true rfl) (Nat.le_of_ble_eq_true rfl) (Nat.le_of_ble_eq_true rfl) (Nat.le_of_ble_eq_true rfl) (fun E w q hE hw => hO E w _ _ _ _ _ q hE (Nat.le_of_ble_eq_true rfl) (Nat.le_of_ble_eq_true rfl) hw) (fun cw23 nw23 w23 hw23 pw23 => ?_)
  obtain ⟨rfl, rfl, kw23⟩ := pw23
  exact hR _ _ _ _ _ dX5_options_59 (Nat.le_of_ble_eq_true rfl) (Nat.le_of_ble_eq_true rfl) ⟨hw23, rfl, rfl, (tKeep.tr (tKeep.tr (tKeep.tr (tKeep.tr (tKeep.tr (tKeep.tr (tKeep.tr tKeep.rf kw5 rfl) kw8 rfl) kw11 rfl) kw14 rfl) kw18 rfl) kw21 rfl) kw23 rfl)⟩
set_option maxRecDepth 20000 in
theorem kX11_wordAt (l : Launch) (G : zG) (T : tT) (κ : Nat → List Nat) (hst : l.stackTraces = false) (hE : tE G T κ) {a0 : Nat} (h0 : a0 ∈ κ 11) : tMi l G T yX11_wordAt cX11_wordAt 1 .int [] 0 0 0 0 [.ref a0] uT (uPi 0x0) := by
  refine tMi.intro hst rfl (Nat.le_of_ble_eq_true rfl) ?_
  intro w0 hw0 _ X hC hR hO hX
  refine z_aload_n hC (pc := 0) 0 dX11_wordAt_0 rfl rfl ?_
  refine u_get hC hw0 (pc := 1) zf11 8 (hE.o11 h0) rfl dX11_wordAt_1 zw593 (kk := fun vx3 tx3 fx3 => ?_)
  obtain ⟨x3, rfl⟩ := tx3
  refine z_iconst hC (pc := 4) (v := 1) dX11_wordAt_4 (by decide) ?_
  refine z_isub hC (pc := 5) (v := (x3 - 1)) dX11_wordAt_5 rfl ?_
  refine z_sipush hC (pc := 6) (v := 1000) dX11_wordAt_6 (by decide) ?_
  refine z_imul hC (pc := 9) (v := ((x3 - 1) * 1000)) dX11_wordAt_9 rfl ?_
  exact hR _ _ _ _ _ _ dX11_wordAt_10 rfl (Nat.le_of_ble_eq_true rfl) (Nat.le_of_ble_eq_true rfl) ⟨hw0, rfl, rfl, tKeep.rf⟩
set_option maxRecDepth 20000 in
theorem kX3_newWord (l : Launch) (G : zG) (T : tT) (κ : Nat → List Nat) (hst : l.stackTraces = false) (hE : tE G T κ) {a0 : Nat} (h0 : a0 ∈ κ 3) {a1 : Nat} (h1 : tRd G κ a1) {x2 : Int32} {x3 : Int32} : tMi l G T yX3_newWord cX3_newWord 6 .int ["java/lang/IllegalStateException"] 6 81 1 6 [.ref a0, .ref a1, .int x2, .int x3] uT (uPi 0x1000000000000000000000000000000000000000000000000000) := by
  refine tMi.intro hst rfl (Nat.le_of_ble_eq_true rfl) ?_
  intro w0 hw0 _ X hC hR hO hX
  refine z_aload_n hC (pc := 0) 0 dX3_newWord_0 rfl rfl ?_
  refine u_get hC hw0 (pc := 1) zf3 12 (hE.o3 h0) rfl dX3_newWord_1 zw519 (kk := fun vx6 tx6 fx6 => ?_)
  obtain ⟨x6, rfl⟩ := tx6
  refine z_iload_n hC (pc := 4) 3 dX3_newWord_4 rfl rfl ?_
  refine z_iadd hC (pc := 5) (v := (x6 + x3)) dX3_newWord_5 rfl ?_
  refine z_aload_n hC (pc := 6) 0 dX3_newWord_6 rfl rfl ?_
  refine u_get hC hw0 (pc := 7) zf3 11 (hE.o3 h0) rfl dX3_newWord_7 zw517 (kk := fun va7 ta7 fa7 => ?_)
  obtain ⟨a7, ma7, rfl⟩ := ta7
  obtain ⟨N8, hN8, AN8⟩ := hE.byts ma7
  refine u_alenB hC hw0 (pc := 10) (Or.inl AN8) dX3_newWord_10 ?_
  refine z_icmp_le hC (pc := 11) 22 dX3_newWord_11 (by decide) (fun c9 => ?_) (fun c9 => ?_)
  · refine z_aload_n hC (pc := 22) 0 dX3_newWord_22 rfl rfl ?_
    refine u_getK hC (pc := 23) zf3 12 fx6 dX3_newWord_23 zw519 (kk := ?_)
    refine z_istore hC (pc := 26) (lv' := [(4, .int x6), (0, .ref a0), (1, .ref a1), (2, .int x2), (3, .int x3)]) dX3_newWord_26 (by decide) rfl ?_
    refine z_iconst hC (pc := 28) (v := 0) dX3_newWord_28 (by decide) ?_
    refine z_istore hC (pc := 29) (lv' := [(5, .int 0), (4, .int x6), (0, .ref a0), (1, .ref a1), (2, .int x2), (3, .int x3)]) dX3_newWord_29 (by decide) rfl ?_
    have j31 : ∀ (d31 : Nat), ∀ (w10 : va_W), tW T w10 → tKeep 0x0 w0 w10 → ∀ (x11 : Int32), ¬ x11 < 0 → (2 ^ 31 - (x11 : Int32).toInt).toNat ≤ d31 → zS X G 6 w10 [(0, .ref a0), (1, .ref a1), (2, .int x2), (3, .int x3), (4, .int x6), (5, .int x11)] 0 0 31 [] := by
      intro d31
      induction d31 with
      | zero => intro w10 hw10 kw10 x11 v12 hd31; exact (t_zero hd31).elim
      | succ d31 ih31 =>
        intro w10 hw10 kw10 x11 v12 hd31
        refine z_iload hC (pc := 31) 5 dX3_newWord_31 rfl ?_
        refine z_iload_n hC (pc := 33) 3 dX3_newWord_33 rfl rfl ?_
        refine z_icmp_ge hC (pc := 34) 63 dX3_newWord_34 (by decide) (fun c13 => ?_) (fun c13 => ?_)
        · refine z_aload_n hC (pc := 63) 0 dX3_newWord_63 rfl rfl ?_
          refine z_dup hC (pc := 64) dX3_newWord_64 rfl ?_
          refine u_getK hC (pc := 65) zf3 12 (tKeep.F kw10 fx6 rfl) dX3_newWord_65 zw519 (kk := ?_)
          refine z_iload_n hC (pc := 68) 3 dX3_newWord_68 rfl rfl ?_
          refine z_iadd hC (pc := 69) (v := (x6 + x3)) dX3_newWord_69 rfl ?_
          refine u_put hC hw10 (pc := 70) zf3 12 (hE.o3 h0) rfl ⟨_, rfl⟩ dX3_newWord_70 zw519 rfl rfl rfl (kk := fun w14 hw14 fw14 kw14 => ?_)
          refine z_ldc hC (pc := 73) (v := 536870912) dX3_newWord_73 zw1978 ?_
          refine z_iload hC (pc := 75) 4 dX3_newWord_75 rfl ?_
          refine z_bipush hC (pc := 77) (v := 10) dX3_newWord_77 (by decide) ?_
          refine z_ishl hC (pc := 79) (v := (x6 <<< (10 &&& 31))) dX3_newWord_79 rfl ?_
          refine z_ior hC (pc := 80) (v := ((536870912 : Int32) ||| (x6 <<< (10 &&& 31)))) dX3_newWord_80 rfl ?_
          refine z_iload_n hC (pc := 81) 3 dX3_newWord_81 rfl rfl ?_
          refine z_ior hC (pc := 82) (v := (((536870912 : Int32) ||| (x6 <<< (10 &&& 31))) ||| x3)) dX3_newWord_82 rfl ?_
          exact hR _ _ _ _ _ _ dX3_newWord_83 rfl (Nat.le_of_ble_eq_true rfl) (Nat.le_of_ble_eq_true rfl) ⟨hw14, rfl, rfl, (tKeep.tr (tKeep.tr tKeep.rf kw10 rfl) kw14 rfl)⟩
        · refine z_aload_n hC (pc := 37) 0 dX3_newWord_37 rfl rfl ?_
          refine u_getK hC (pc := 38) zf3 11 (tKeep.F kw10 fa7 rfl) dX3_newWord_38 zw517 (kk := ?_)
          refine z_iload hC (pc := 41) 4 dX3_newWord_41 rfl ?_
          refine z_iload hC (pc := 43) 5 dX3_newWord_43 rfl ?_
          refine z_iadd hC (pc := 45) (v := (x6 + x11)) dX3_newWord_45 rfl ?_
          refine z_aload_n hC (pc := 46) 1 dX3_newWord_46 rfl rfl ?_
          refine z_iload_n hC (pc := 47) 2 dX3_newWord_47 rfl rfl ?_
          refine z_iload hC (pc := 48) 5 dX3_newWord_48 rfl ?_
          refine z_iadd hC (pc := 50) (v := (x2 + x11)) dX3_newWord_50 rfl ?_
          refine t_callSNi hC hw10 (pc := 51) (As := [.ref a1, .int (x2 + x11)]) (kX12_getByte l G T κ hst hE h1) trivial dmX12_getByte dX3_newWord_51 zw1976 rfl rfl (Nat.le_of_ble_eq_true rfl) (Nat.le_of_ble_eq_true rfl) (Nat.le_of_ble_eq_true rfl) (Nat.le_of_ble_eq_true rfl) (Nat.le_of_ble_eq_true rfl) (fun _ _ _ h => nomatch h) (fun x16 cw15 nw15 w15 hw15 pw15 => ?_)
          obtain ⟨rfl, rfl, kw15⟩ := pw15
          refine t_callSNv hC hw15 (pc := 54) (As := [.ref a7, .int (x6 + x11), .int x16]) (kX12_setByte l G T κ hst hE ma7) trivial dmX12_setByte dX3_newWord_54 zw1977 rfl rfl (Nat.le_of_ble_eq_true rfl) (Nat.le_of_ble_eq_true rfl) (Nat.le_of_ble_eq_true rfl) (Nat.le_of_ble_eq_true rfl) (Nat.le_of_ble_eq_true rfl) (fun _ _ _ h => nomatch h) (fun cw17 nw17 w17 hw17 pw17 => ?_)
          obtain ⟨rfl, rfl, kw17⟩ := pw17
          refine z_iinc hC (pc := 57) (v := (x11 + 1)) (lv' := [(5, .int (x11 + 1)), (0, .ref a0), (1, .ref a1), (2, .int x2), (3, .int x3), (4, .int x6)]) 5 dX3_newWord_57 rfl (congrArg _ (by decide)) (by decide) rfl ?_
          refine z_goto hC (pc := 60) 31 dX3_newWord_60 (by decide) ?_
          refine z_lvs [1, 2, 3, 4, 5, 0] rfl ?_
          exact ih31 w17 hw17 (tKeep.tr (tKeep.tr (tKeep.tr tKeep.rf kw10 rfl) kw15 rfl) kw17 rfl) (x11 + 1) (t_nnI v12 (Int32.not_le.mp c13)) (t_up (Int32.not_le.mp c13) hd31)
    refine z_lvs [2, 3, 4, 5, 1, 0] rfl ?_
    exact j31 _ w0 hw0 tKeep.rf 0 (by decide) (Nat.le_refl _)
  · exact hX "java/lang/IllegalStateException" _ _ _ _ _ _ 79 81 exn (by decide) hw0 dX3_newWord_14 dX3_newWord_17 dX3_newWord_18 dX3_newWord_21 (by decide +kernel) (by decide +kernel) zw1820 zw20 atg_X3_81 atb_X3_81 ato_X3_81 (by decide) (Nat.le_of_ble_eq_true rfl) (Nat.le_of_ble_eq_true rfl) (Nat.le_of_ble_eq_true rfl)
