theorem zw879 : Cond.methodLink "TemplateHouse$Store" 96 ⟨"TemplateHouse$Store", "propertyOf", "(II[BII)I"⟩ ∈ zT := zsub4 159 (by decide +kernel) (by decide +kernel)
theorem zw875 : Cond.methodLink "TemplateHouse" 185 ⟨"TemplateHouse$Store", "addProperty", "(III[BI)Z"⟩ ∈ zT := zsub4 155 (by decide +kernel) (by decide +kernel)
theorem zw74 : Cond.fieldLink "TemplateHouse$Store" 55 "TemplateHouse$Store" "addedCount" "I" ∈ zT := zsub1 74 (by decide +kernel) (by decide +kernel)
theorem zw70 : Cond.fieldLink "TemplateHouse$Store" 49 "TemplateHouse$Store" "addedLengths" "[I" ∈ zT := zsub1 70 (by decide +kernel) (by decide +kernel)
theorem zw72 : Cond.fieldLink "TemplateHouse$Store" 52 "TemplateHouse$Store" "addedValues" "[I" ∈ zT := zsub1 72 (by decide +kernel) (by decide +kernel)
theorem zw68 : Cond.fieldLink "TemplateHouse$Store" 46 "TemplateHouse$Store" "addedNames" "[B" ∈ zT := zsub1 68 (by decide +kernel) (by decide +kernel)
theorem zw887 : Cond.methodLink "TemplateHouse" 189 ⟨"TemplateHouse$Store", "addAttribute", "([BII)I"⟩ ∈ zT := zsub4 167 (by decide +kernel) (by decide +kernel)
theorem zw76 : Cond.fieldLink "TemplateHouse" 193 "TemplateHouse$Store" "addedCount" "I" ∈ zT := zsub1 76 (by decide +kernel) (by decide +kernel)
theorem zw724 : Cond.fieldLink "TemplateHouse" 32 "TemplateHouse" "wide" "I" ∈ zT := zsub4 4 (by decide +kernel) (by decide +kernel)
theorem zw1770 : Cond.methodLink "TemplateHouse$Gen" 110 ⟨"TemplateHouse$Gen", "textOf", "(I)I"⟩ ∈ zT := zsub8 90 (by decide +kernel) (by decide +kernel)
theorem zw1769 : Cond.methodLink "TemplateHouse$Gen" 106 ⟨"TemplateHouse$Names", "find", "([BII)I"⟩ ∈ zT := zsub8 89 (by decide +kernel) (by decide +kernel)
theorem zw482 : Cond.fieldLink "TemplateHouse$Teller" 16 "TemplateHouse$Teller" "counts" "[I" ∈ zT := zsub3 2 (by decide +kernel) (by decide +kernel)
theorem zw1795 : Cond.methodLink "TemplateHouse$Teller" 19 ⟨"java/util/Arrays", "fill", "([II)V"⟩ ∈ zT := zsub8 115 (by decide +kernel) (by decide +kernel)
theorem zw505 : Cond.fieldLink "TemplateHouse$Heap" 75 "TemplateHouse$Heap" "g" "LTemplateHouse$Gen;" ∈ zT := zsub3 25 (by decide +kernel) (by decide +kernel)
theorem zw513 : Cond.fieldLink "TemplateHouse$Heap" 24 "TemplateHouse$Heap" "made" "I" ∈ zT := zsub3 33 (by decide +kernel) (by decide +kernel)
theorem zw515 : Cond.fieldLink "TemplateHouse$Heap" 32 "TemplateHouse$Heap" "rowsEnd" "I" ∈ zT := zsub3 35 (by decide +kernel) (by decide +kernel)
theorem zw516 : Cond.fieldLink "TemplateHouse$Heap" 35 "TemplateHouse$Heap" "listed" "I" ∈ zT := zsub3 36 (by decide +kernel) (by decide +kernel)
theorem zw519 : Cond.fieldLink "TemplateHouse$Heap" 43 "TemplateHouse$Heap" "wordsEnd" "I" ∈ zT := zsub3 39 (by decide +kernel) (by decide +kernel)
theorem zw522 : Cond.fieldLink "TemplateHouse$Heap" 52 "TemplateHouse$Heap" "rootCount" "I" ∈ zT := zsub3 42 (by decide +kernel) (by decide +kernel)
theorem zw587 : Cond.fieldLink "TemplateHouse$Writer" 25 "TemplateHouse$Writer" "column" "I" ∈ zT := zsub3 107 (by decide +kernel) (by decide +kernel)
theorem zw589 : Cond.fieldLink "TemplateHouse$Writer" 28 "TemplateHouse$Writer" "atStart" "Z" ∈ zT := zsub3 109 (by decide +kernel) (by decide +kernel)
theorem zw591 : Cond.fieldLink "TemplateHouse$Writer" 32 "TemplateHouse$Writer" "puts" "I" ∈ zT := zsub3 111 (by decide +kernel) (by decide +kernel)
theorem zw597 : Cond.fieldLink "TemplateHouse$Writer" 42 "TemplateHouse$Writer" "wordLength" "I" ∈ zT := zsub3 117 (by decide +kernel) (by decide +kernel)
theorem zw603 : Cond.fieldLink "TemplateHouse$Writer" 51 "TemplateHouse$Writer" "indentEnd" "I" ∈ zT := zsub3 123 (by decide +kernel) (by decide +kernel)
theorem zw601 : Cond.fieldLink "TemplateHouse$Writer" 48 "TemplateHouse$Writer" "indentBase" "I" ∈ zT := zsub3 121 (by decide +kernel) (by decide +kernel)
theorem zw605 : Cond.fieldLink "TemplateHouse$Writer" 54 "TemplateHouse$Writer" "anchor" "I" ∈ zT := zsub3 125 (by decide +kernel) (by decide +kernel)
theorem zw248 : Cond.fieldLink "TemplateHouse$Writer" 61 "TemplateHouse$Gen" "pool" "[B" ∈ zT := zsub2 8 (by decide +kernel) (by decide +kernel)
theorem zw599 : Cond.fieldLink "TemplateHouse$Writer" 66 "TemplateHouse$Writer" "pool" "[B" ∈ zT := zsub3 119 (by decide +kernel) (by decide +kernel)
theorem zw584 : Cond.fieldLink "TemplateHouse$Writer" 18 "TemplateHouse$Writer" "length" "I" ∈ zT := zsub3 104 (by decide +kernel) (by decide +kernel)
theorem zw586 : Cond.fieldLink "TemplateHouse$Writer" 22 "TemplateHouse$Writer" "width" "I" ∈ zT := zsub3 106 (by decide +kernel) (by decide +kernel)
theorem zw593 : Cond.fieldLink "TemplateHouse$Writer" 35 "TemplateHouse$Writer" "level" "I" ∈ zT := zsub3 113 (by decide +kernel) (by decide +kernel)
theorem zw1804 : Cond.methodLink "TemplateHouse$Writer" 67 ⟨"TemplateHouse$Writer", "freshLine", "()V"⟩ ∈ zT := zsub8 124 (by decide +kernel) (by decide +kernel)
theorem zw657 : Cond.fieldLink "TemplateHouse$Maker" 48 "TemplateHouse$Maker" "separator" "I" ∈ zT := zsub3 177 (by decide +kernel) (by decide +kernel)
theorem zw658 : Cond.fieldLink "TemplateHouse$Maker" 51 "TemplateHouse$Maker" "ofNothing" "I" ∈ zT := zsub3 178 (by decide +kernel) (by decide +kernel)
theorem zw659 : Cond.fieldLink "TemplateHouse$Maker" 54 "TemplateHouse$Maker" "format" "I" ∈ zT := zsub3 179 (by decide +kernel) (by decide +kernel)
theorem zw660 : Cond.fieldLink "TemplateHouse$Maker" 57 "TemplateHouse$Maker" "wrap" "I" ∈ zT := zsub3 180 (by decide +kernel) (by decide +kernel)
theorem zw1820 : Cond.classLink "TemplateHouse$Heap" 79 "java/lang/IllegalStateException" ∈ zT := zsub8 140 (by decide +kernel) (by decide +kernel)
theorem zw506 : Cond.fieldLink "TemplateHouse$Heap" 9 "TemplateHouse$Heap" "text" "[I" ∈ zT := zsub3 26 (by decide +kernel) (by decide +kernel)
theorem zw508 : Cond.fieldLink "TemplateHouse$Heap" 15 "TemplateHouse$Heap" "parent" "[I" ∈ zT := zsub3 28 (by decide +kernel) (by decide +kernel)
theorem zw509 : Cond.fieldLink "TemplateHouse$Heap" 18 "TemplateHouse$Heap" "turn" "[I" ∈ zT := zsub3 29 (by decide +kernel) (by decide +kernel)
theorem zw504 : Cond.fieldLink "TemplateHouse$Heap" 71 "TemplateHouse$Heap" "teller" "LTemplateHouse$Teller;" ∈ zT := zsub3 24 (by decide +kernel) (by decide +kernel)
theorem zw483 : Cond.fieldLink "TemplateHouse$Heap" 82 "TemplateHouse$Teller" "counts" "[I" ∈ zT := zsub3 3 (by decide +kernel) (by decide +kernel)
theorem zw511 : Cond.fieldLink "TemplateHouse$Heap" 21 "TemplateHouse$Heap" "attrs" "[I" ∈ zT := zsub3 31 (by decide +kernel) (by decide +kernel)
theorem zw1826 : Cond.methodLink "TemplateHouse$Store" 78 ⟨"TemplateHouse$Store", "sameName", "(II)Z"⟩ ∈ zT := zsub8 146 (by decide +kernel) (by decide +kernel)
theorem zw502 : Cond.fieldLink "TemplateHouse$Heap" 67 "TemplateHouse$Heap" "store" "LTemplateHouse$Store;" ∈ zT := zsub3 22 (by decide +kernel) (by decide +kernel)
theorem zw63 : Cond.fieldLink "TemplateHouse$Heap" 111 "TemplateHouse$Store" "count" "I" ∈ zT := zsub1 63 (by decide +kernel) (by decide +kernel)
theorem zw48 : Cond.fieldLink "TemplateHouse$Heap" 116 "TemplateHouse$Store" "sort" "[I" ∈ zT := zsub1 48 (by decide +kernel) (by decide +kernel)
theorem zw1847 : Cond.constant "TemplateHouse$Heap" 110 (-134217728 : Int32) ∈ zT := zsub8 167 (by decide +kernel) (by decide +kernel)
theorem zw1848 : Cond.constant "TemplateHouse$Heap" 91 (805306368 : Int32) ∈ zT := zsub8 168 (by decide +kernel) (by decide +kernel)
theorem zw1844 : Cond.methodLink "TemplateHouse$Heap" 119 ⟨"TemplateHouse$Heap", "sortOf", "(I)I"⟩ ∈ zT := zsub8 164 (by decide +kernel) (by decide +kernel)
theorem zw1851 : Cond.methodLink "TemplateHouse$Heap" 126 ⟨"TemplateHouse$Heap", "isMany", "(I)Z"⟩ ∈ zT := zsub8 171 (by decide +kernel) (by decide +kernel)
theorem zw56 : Cond.fieldLink "TemplateHouse$Heap" 130 "TemplateHouse$Store" "size" "[I" ∈ zT := zsub1 56 (by decide +kernel) (by decide +kernel)
theorem zw1850 : Cond.methodLinkNest "TemplateHouse$Heap" 122 ⟨"TemplateHouse", "get", "([II)I"⟩ "TemplateHouse" ∈ zNest := zsubN8 170 (by decide +kernel) (by decide +kernel)
theorem zw514 : Cond.fieldLink "TemplateHouse$Heap" 29 "TemplateHouse$Heap" "rows" "[I" ∈ zT := zsub3 34 (by decide +kernel) (by decide +kernel)
theorem zw1849 : Cond.constant "TemplateHouse$Heap" 100 (134217727 : Int32) ∈ zT := zsub8 169 (by decide +kernel) (by decide +kernel)
theorem zw1859 : Cond.methodLink "TemplateHouse$Heap" 92 ⟨"TemplateHouse$Heap", "counted", "(I)V"⟩ ∈ zT := zsub8 179 (by decide +kernel) (by decide +kernel)
theorem zw1863 : Cond.methodLink "TemplateHouse$Heap" 96 ⟨"TemplateHouse$Heap", "room", "(I)I"⟩ ∈ zT := zsub8 183 (by decide +kernel) (by decide +kernel)
theorem zw58 : Cond.fieldLink "TemplateHouse$Heap" 133 "TemplateHouse$Store" "cells" "[I" ∈ zT := zsub1 58 (by decide +kernel) (by decide +kernel)
theorem zw1879 : Cond.methodLinkNest "TemplateHouse$Heap" 87 ⟨"TemplateHouse", "set", "([III)V"⟩ "TemplateHouse" ∈ zNest := zsubN8 199 (by decide +kernel) (by decide +kernel)
theorem zw644 : Cond.fieldLink "TemplateHouse$Maker" 83 "TemplateHouse$Maker" "heap" "LTemplateHouse$Heap;" ∈ zT := zsub3 164 (by decide +kernel) (by decide +kernel)
theorem zw1875 : Cond.methodLink "TemplateHouse$Maker" 233 ⟨"TemplateHouse$Heap", "put", "(III)V"⟩ ∈ zT := zsub8 195 (by decide +kernel) (by decide +kernel)
theorem zw1871 : Cond.methodLink "TemplateHouse$Maker" 230 ⟨"TemplateHouse$Heap", "valueOf", "(II)I"⟩ ∈ zT := zsub8 191 (by decide +kernel) (by decide +kernel)
theorem zw1840 : Cond.methodLink "TemplateHouse$Maker" 220 ⟨"TemplateHouse$Heap", "countOf", "(I)I"⟩ ∈ zT := zsub8 160 (by decide +kernel) (by decide +kernel)
theorem zw503 : Cond.fieldLink "TemplateHouse$Maker" 147 "TemplateHouse$Heap" "store" "LTemplateHouse$Store;" ∈ zT := zsub3 23 (by decide +kernel) (by decide +kernel)
theorem zw75 : Cond.fieldLink "TemplateHouse$Maker" 155 "TemplateHouse$Store" "addedCount" "I" ∈ zT := zsub1 75 (by decide +kernel) (by decide +kernel)
theorem zw1855 : Cond.methodLink "TemplateHouse$Maker" 223 ⟨"TemplateHouse$Heap", "newRow", "(I)I"⟩ ∈ zT := zsub8 175 (by decide +kernel) (by decide +kernel)
theorem zw1834 : Cond.methodLink "TemplateHouse$Maker" 210 ⟨"TemplateHouse$Store", "sameName", "(II)Z"⟩ ∈ zT := zsub8 154 (by decide +kernel) (by decide +kernel)
theorem zw73 : Cond.fieldLink "TemplateHouse$Maker" 214 "TemplateHouse$Store" "addedValues" "[I" ∈ zT := zsub1 73 (by decide +kernel) (by decide +kernel)
theorem zw1835 : Cond.methodLinkNest "TemplateHouse$Maker" 113 ⟨"TemplateHouse", "get", "([II)I"⟩ "TemplateHouse" ∈ zNest := zsubN8 155 (by decide +kernel) (by decide +kernel)
theorem zw1836 : Cond.methodLink "TemplateHouse$Maker" 217 ⟨"TemplateHouse$Heap", "isHouse", "(II)Z"⟩ ∈ zT := zsub8 156 (by decide +kernel) (by decide +kernel)
theorem zw1867 : Cond.methodLink "TemplateHouse$Maker" 226 ⟨"TemplateHouse$Maker", "spread", "(IIIZI)I"⟩ ∈ zT := zsub8 187 (by decide +kernel) (by decide +kernel)
theorem zw520 : Cond.fieldLink "TemplateHouse$Heap" 46 "TemplateHouse$Heap" "rootNames" "[I" ∈ zT := zsub3 40 (by decide +kernel) (by decide +kernel)
theorem zw521 : Cond.fieldLink "TemplateHouse$Heap" 49 "TemplateHouse$Heap" "rootValues" "[I" ∈ zT := zsub3 41 (by decide +kernel) (by decide +kernel)
theorem zw878 : Cond.code ⟨"TemplateHouse$Store", "addProperty", "(III[BI)Z"⟩ prog_10_method_12_code 7 (Option.some Jvm.ClassFile.FieldType.boolean) ∈ zT := zsub4 158 rfl rfl
theorem zw876 : Cond.instanceMethod ⟨"TemplateHouse$Store", "addProperty", "(III[BI)Z"⟩ ∈ zT := zsub4 156 (by decide +kernel) (by decide +kernel)
theorem zw877 : Cond.selects "TemplateHouse$Store" ⟨"TemplateHouse$Store", "addProperty", "(III[BI)Z"⟩ ⟨"TemplateHouse$Store", "addProperty", "(III[BI)Z"⟩ ∈ zT := zsub4 157 (by decide +kernel) (by decide +kernel)
theorem zw874 : Cond.code ⟨"TemplateHouse", "property", "(III)Z"⟩ prog_1_method_18_code 5 (Option.some Jvm.ClassFile.FieldType.boolean) ∈ zT := zsub4 154 rfl rfl
theorem zw872 : Cond.instanceMethod ⟨"TemplateHouse", "property", "(III)Z"⟩ ∈ zT := zsub4 152 (by decide +kernel) (by decide +kernel)
theorem zw873 : Cond.selects "TemplateHouse" ⟨"TemplateHouse", "property", "(III)Z"⟩ ⟨"TemplateHouse", "property", "(III)Z"⟩ ∈ zT := zsub4 153 (by decide +kernel) (by decide +kernel)
theorem zw890 : Cond.code ⟨"TemplateHouse$Store", "addAttribute", "([BII)I"⟩ prog_10_method_2_code 5 (Option.some Jvm.ClassFile.FieldType.int) ∈ zT := zsub4 170 rfl rfl
theorem zw888 : Cond.instanceMethod ⟨"TemplateHouse$Store", "addAttribute", "([BII)I"⟩ ∈ zT := zsub4 168 (by decide +kernel) (by decide +kernel)
theorem zw889 : Cond.selects "TemplateHouse$Store" ⟨"TemplateHouse$Store", "addAttribute", "([BII)I"⟩ ⟨"TemplateHouse$Store", "addAttribute", "([BII)I"⟩ ∈ zT := zsub4 169 (by decide +kernel) (by decide +kernel)
theorem zw886 : Cond.code ⟨"TemplateHouse", "attribute", "(I)I"⟩ prog_1_method_19_code 3 (Option.some Jvm.ClassFile.FieldType.int) ∈ zT := zsub4 166 rfl rfl
theorem zw884 : Cond.instanceMethod ⟨"TemplateHouse", "attribute", "(I)I"⟩ ∈ zT := zsub4 164 (by decide +kernel) (by decide +kernel)
theorem zw885 : Cond.selects "TemplateHouse" ⟨"TemplateHouse", "attribute", "(I)I"⟩ ⟨"TemplateHouse", "attribute", "(I)I"⟩ ∈ zT := zsub4 165 (by decide +kernel) (by decide +kernel)
theorem zw894 : Cond.code ⟨"TemplateHouse", "clear", "()Z"⟩ prog_1_method_20_code 1 (Option.some Jvm.ClassFile.FieldType.boolean) ∈ zT := zsub4 174 rfl rfl
theorem zw892 : Cond.instanceMethod ⟨"TemplateHouse", "clear", "()Z"⟩ ∈ zT := zsub4 172 (by decide +kernel) (by decide +kernel)
theorem zw893 : Cond.selects "TemplateHouse" ⟨"TemplateHouse", "clear", "()Z"⟩ ⟨"TemplateHouse", "clear", "()Z"⟩ ∈ zT := zsub4 173 (by decide +kernel) (by decide +kernel)
theorem zw898 : Cond.code ⟨"TemplateHouse", "width", "(I)Z"⟩ prog_1_method_21_code 2 (Option.some Jvm.ClassFile.FieldType.boolean) ∈ zT := zsub4 178 rfl rfl
theorem zw896 : Cond.instanceMethod ⟨"TemplateHouse", "width", "(I)Z"⟩ ∈ zT := zsub4 176 (by decide +kernel) (by decide +kernel)
theorem zw897 : Cond.selects "TemplateHouse" ⟨"TemplateHouse", "width", "(I)Z"⟩ ⟨"TemplateHouse", "width", "(I)Z"⟩ ∈ zT := zsub4 177 (by decide +kernel) (by decide +kernel)
theorem zw1768 : Cond.code ⟨"TemplateHouse$Gen", "templateOf", "([BII)I"⟩ prog_4_method_16_code 5 (Option.some Jvm.ClassFile.FieldType.int) ∈ zT := zsub8 88 rfl rfl
theorem zw1766 : Cond.instanceMethod ⟨"TemplateHouse$Gen", "templateOf", "([BII)I"⟩ ∈ zT := zsub8 86 (by decide +kernel) (by decide +kernel)
theorem zw1767 : Cond.selects "TemplateHouse$Gen" ⟨"TemplateHouse$Gen", "templateOf", "([BII)I"⟩ ⟨"TemplateHouse$Gen", "templateOf", "([BII)I"⟩ ∈ zT := zsub8 87 (by decide +kernel) (by decide +kernel)
theorem zw1794 : Cond.code ⟨"TemplateHouse$Teller", "forget", "()V"⟩ prog_11_method_2_code 1 (Option.none : Option Jvm.ClassFile.FieldType) ∈ zT := zsub8 114 rfl rfl
theorem zw11 : Cond.initialized "TemplateHouse$Teller" ∈ zT := zsub1 11 (by decide +kernel) (by decide +kernel)
theorem zw1792 : Cond.instanceMethod ⟨"TemplateHouse$Teller", "forget", "()V"⟩ ∈ zT := zsub8 112 (by decide +kernel) (by decide +kernel)
theorem zw1793 : Cond.selects "TemplateHouse$Teller" ⟨"TemplateHouse$Teller", "forget", "()V"⟩ ⟨"TemplateHouse$Teller", "forget", "()V"⟩ ∈ zT := zsub8 113 (by decide +kernel) (by decide +kernel)
theorem zw1799 : Cond.code ⟨"TemplateHouse$Heap", "forget", "(LTemplateHouse$Gen;)V"⟩ prog_5_method_2_code 2 (Option.none : Option Jvm.ClassFile.FieldType) ∈ zT := zsub8 119 rfl rfl
theorem zw12 : Cond.initialized "TemplateHouse$Heap" ∈ zT := zsub1 12 (by decide +kernel) (by decide +kernel)
theorem zw1797 : Cond.instanceMethod ⟨"TemplateHouse$Heap", "forget", "(LTemplateHouse$Gen;)V"⟩ ∈ zT := zsub8 117 (by decide +kernel) (by decide +kernel)
theorem zw1798 : Cond.selects "TemplateHouse$Heap" ⟨"TemplateHouse$Heap", "forget", "(LTemplateHouse$Gen;)V"⟩ ⟨"TemplateHouse$Heap", "forget", "(LTemplateHouse$Gen;)V"⟩ ∈ zT := zsub8 118 (by decide +kernel) (by decide +kernel)
theorem zw1807 : Cond.code ⟨"TemplateHouse$Writer", "freshLine", "()V"⟩ prog_13_method_3_code 1 (Option.none : Option Jvm.ClassFile.FieldType) ∈ zT := zsub8 127 rfl rfl
theorem zw13 : Cond.initialized "TemplateHouse$Writer" ∈ zT := zsub1 13 (by decide +kernel) (by decide +kernel)
theorem zw1805 : Cond.instanceMethod ⟨"TemplateHouse$Writer", "freshLine", "()V"⟩ ∈ zT := zsub8 125 (by decide +kernel) (by decide +kernel)
theorem zw1806 : Cond.selects "TemplateHouse$Writer" ⟨"TemplateHouse$Writer", "freshLine", "()V"⟩ ⟨"TemplateHouse$Writer", "freshLine", "()V"⟩ ∈ zT := zsub8 126 (by decide +kernel) (by decide +kernel)
theorem zw1803 : Cond.code ⟨"TemplateHouse$Writer", "forget", "(LTemplateHouse$Gen;I)V"⟩ prog_13_method_2_code 3 (Option.none : Option Jvm.ClassFile.FieldType) ∈ zT := zsub8 123 rfl rfl
theorem zw1801 : Cond.instanceMethod ⟨"TemplateHouse$Writer", "forget", "(LTemplateHouse$Gen;I)V"⟩ ∈ zT := zsub8 121 (by decide +kernel) (by decide +kernel)
theorem zw1802 : Cond.selects "TemplateHouse$Writer" ⟨"TemplateHouse$Writer", "forget", "(LTemplateHouse$Gen;I)V"⟩ ⟨"TemplateHouse$Writer", "forget", "(LTemplateHouse$Gen;I)V"⟩ ∈ zT := zsub8 122 (by decide +kernel) (by decide +kernel)
theorem zw1811 : Cond.code ⟨"TemplateHouse$Maker", "plain", "()V"⟩ prog_7_method_3_code 1 (Option.none : Option Jvm.ClassFile.FieldType) ∈ zT := zsub8 131 rfl rfl
theorem zw10 : Cond.initialized "TemplateHouse$Maker" ∈ zT := zsub1 10 (by decide +kernel) (by decide +kernel)
theorem zw1810 : Cond.instanceMethod ⟨"TemplateHouse$Maker", "plain", "()V"⟩ ∈ zT := zsub8 130 (by decide +kernel) (by decide +kernel)
theorem zwp69 : Cond.selects "TemplateHouse$Maker" ⟨"TemplateHouse$Maker", "plain", "()V"⟩ ⟨"TemplateHouse$Maker", "plain", "()V"⟩ ∈ zT := zin 69 (by decide +kernel) (by decide +kernel)
theorem zw1819 : Cond.code ⟨"TemplateHouse$Heap", "make", "(III)I"⟩ prog_5_method_3_code 6 (Option.some Jvm.ClassFile.FieldType.int) ∈ zT := zsub8 139 rfl rfl
theorem zw1817 : Cond.instanceMethod ⟨"TemplateHouse$Heap", "make", "(III)I"⟩ ∈ zT := zsub8 137 (by decide +kernel) (by decide +kernel)
theorem zw1818 : Cond.selects "TemplateHouse$Heap" ⟨"TemplateHouse$Heap", "make", "(III)I"⟩ ⟨"TemplateHouse$Heap", "make", "(III)I"⟩ ∈ zT := zsub8 138 (by decide +kernel) (by decide +kernel)
theorem zw1829 : Cond.code ⟨"TemplateHouse$Store", "sameName", "(II)Z"⟩ prog_10_method_3_code 4 (Option.some Jvm.ClassFile.FieldType.boolean) ∈ zT := zsub8 149 rfl rfl
theorem zw1827 : Cond.instanceMethod ⟨"TemplateHouse$Store", "sameName", "(II)Z"⟩ ∈ zT := zsub8 147 (by decide +kernel) (by decide +kernel)
theorem zw1828 : Cond.selects "TemplateHouse$Store" ⟨"TemplateHouse$Store", "sameName", "(II)Z"⟩ ⟨"TemplateHouse$Store", "sameName", "(II)Z"⟩ ∈ zT := zsub8 148 (by decide +kernel) (by decide +kernel)
theorem zw1825 : Cond.code ⟨"TemplateHouse$Store", "isLater", "(I)Z"⟩ prog_10_method_4_code 3 (Option.some Jvm.ClassFile.FieldType.boolean) ∈ zT := zsub8 145 rfl rfl
theorem zw1823 : Cond.instanceMethod ⟨"TemplateHouse$Store", "isLater", "(I)Z"⟩ ∈ zT := zsub8 143 (by decide +kernel) (by decide +kernel)
theorem zw1824 : Cond.selects "TemplateHouse$Store" ⟨"TemplateHouse$Store", "isLater", "(I)Z"⟩ ⟨"TemplateHouse$Store", "isLater", "(I)Z"⟩ ∈ zT := zsub8 144 (by decide +kernel) (by decide +kernel)
theorem zw1839 : Cond.code ⟨"TemplateHouse$Heap", "isHouse", "(II)Z"⟩ prog_5_method_11_code 3 (Option.some Jvm.ClassFile.FieldType.boolean) ∈ zT := zsub8 159 rfl rfl
theorem zw1837 : Cond.instanceMethod ⟨"TemplateHouse$Heap", "isHouse", "(II)Z"⟩ ∈ zT := zsub8 157 (by decide +kernel) (by decide +kernel)
theorem zw1838 : Cond.selects "TemplateHouse$Heap" ⟨"TemplateHouse$Heap", "isHouse", "(II)Z"⟩ ⟨"TemplateHouse$Heap", "isHouse", "(II)Z"⟩ ∈ zT := zsub8 158 (by decide +kernel) (by decide +kernel)
theorem zw1846 : Cond.code ⟨"TemplateHouse$Heap", "sortOf", "(I)I"⟩ prog_5_method_10_code 1 (Option.some Jvm.ClassFile.FieldType.int) ∈ zT := zsub8 166 rfl rfl
theorem zw1845 : Cond.static ⟨"TemplateHouse$Heap", "sortOf", "(I)I"⟩ ∈ zT := zsub8 165 (by decide +kernel) (by decide +kernel)
theorem zw1854 : Cond.code ⟨"TemplateHouse$Heap", "isMany", "(I)Z"⟩ prog_5_method_12_code 2 (Option.some Jvm.ClassFile.FieldType.boolean) ∈ zT := zsub8 174 rfl rfl
theorem zw1852 : Cond.instanceMethod ⟨"TemplateHouse$Heap", "isMany", "(I)Z"⟩ ∈ zT := zsub8 172 (by decide +kernel) (by decide +kernel)
theorem zw1853 : Cond.selects "TemplateHouse$Heap" ⟨"TemplateHouse$Heap", "isMany", "(I)Z"⟩ ⟨"TemplateHouse$Heap", "isMany", "(I)Z"⟩ ∈ zT := zsub8 173 (by decide +kernel) (by decide +kernel)
theorem zw1843 : Cond.code ⟨"TemplateHouse$Heap", "countOf", "(I)I"⟩ prog_5_method_13_code 2 (Option.some Jvm.ClassFile.FieldType.int) ∈ zT := zsub8 163 rfl rfl
theorem zw1841 : Cond.instanceMethod ⟨"TemplateHouse$Heap", "countOf", "(I)I"⟩ ∈ zT := zsub8 161 (by decide +kernel) (by decide +kernel)
theorem zw1842 : Cond.selects "TemplateHouse$Heap" ⟨"TemplateHouse$Heap", "countOf", "(I)I"⟩ ⟨"TemplateHouse$Heap", "countOf", "(I)I"⟩ ∈ zT := zsub8 162 (by decide +kernel) (by decide +kernel)
theorem zw1862 : Cond.code ⟨"TemplateHouse$Heap", "counted", "(I)V"⟩ prog_5_method_5_code 2 (Option.none : Option Jvm.ClassFile.FieldType) ∈ zT := zsub8 182 rfl rfl
theorem zw1860 : Cond.instanceMethod ⟨"TemplateHouse$Heap", "counted", "(I)V"⟩ ∈ zT := zsub8 180 (by decide +kernel) (by decide +kernel)
theorem zw1861 : Cond.selects "TemplateHouse$Heap" ⟨"TemplateHouse$Heap", "counted", "(I)V"⟩ ⟨"TemplateHouse$Heap", "counted", "(I)V"⟩ ∈ zT := zsub8 181 (by decide +kernel) (by decide +kernel)
theorem zw1866 : Cond.code ⟨"TemplateHouse$Heap", "room", "(I)I"⟩ prog_5_method_6_code 3 (Option.some Jvm.ClassFile.FieldType.int) ∈ zT := zsub8 186 rfl rfl
theorem zw1864 : Cond.instanceMethod ⟨"TemplateHouse$Heap", "room", "(I)I"⟩ ∈ zT := zsub8 184 (by decide +kernel) (by decide +kernel)
theorem zw1865 : Cond.selects "TemplateHouse$Heap" ⟨"TemplateHouse$Heap", "room", "(I)I"⟩ ⟨"TemplateHouse$Heap", "room", "(I)I"⟩ ∈ zT := zsub8 185 (by decide +kernel) (by decide +kernel)
theorem zw1858 : Cond.code ⟨"TemplateHouse$Heap", "newRow", "(I)I"⟩ prog_5_method_7_code 2 (Option.some Jvm.ClassFile.FieldType.int) ∈ zT := zsub8 178 rfl rfl
theorem zw1856 : Cond.instanceMethod ⟨"TemplateHouse$Heap", "newRow", "(I)I"⟩ ∈ zT := zsub8 176 (by decide +kernel) (by decide +kernel)
theorem zw1857 : Cond.selects "TemplateHouse$Heap" ⟨"TemplateHouse$Heap", "newRow", "(I)I"⟩ ⟨"TemplateHouse$Heap", "newRow", "(I)I"⟩ ∈ zT := zsub8 177 (by decide +kernel) (by decide +kernel)
theorem zw1874 : Cond.code ⟨"TemplateHouse$Heap", "valueOf", "(II)I"⟩ prog_5_method_14_code 3 (Option.some Jvm.ClassFile.FieldType.int) ∈ zT := zsub8 194 rfl rfl
theorem zw1872 : Cond.instanceMethod ⟨"TemplateHouse$Heap", "valueOf", "(II)I"⟩ ∈ zT := zsub8 192 (by decide +kernel) (by decide +kernel)
theorem zw1873 : Cond.selects "TemplateHouse$Heap" ⟨"TemplateHouse$Heap", "valueOf", "(II)I"⟩ ⟨"TemplateHouse$Heap", "valueOf", "(II)I"⟩ ∈ zT := zsub8 193 (by decide +kernel) (by decide +kernel)
theorem zw1878 : Cond.code ⟨"TemplateHouse$Heap", "put", "(III)V"⟩ prog_5_method_8_code 4 (Option.none : Option Jvm.ClassFile.FieldType) ∈ zT := zsub8 198 rfl rfl
theorem zw1876 : Cond.instanceMethod ⟨"TemplateHouse$Heap", "put", "(III)V"⟩ ∈ zT := zsub8 196 (by decide +kernel) (by decide +kernel)
theorem zw1877 : Cond.selects "TemplateHouse$Heap" ⟨"TemplateHouse$Heap", "put", "(III)V"⟩ ⟨"TemplateHouse$Heap", "put", "(III)V"⟩ ∈ zT := zsub8 197 (by decide +kernel) (by decide +kernel)
theorem zw1870 : Cond.code ⟨"TemplateHouse$Maker", "spread", "(IIIZI)I"⟩ prog_7_method_7_code 9 (Option.some Jvm.ClassFile.FieldType.int) ∈ zT := zsub8 190 rfl rfl
theorem zw1869 : Cond.instanceMethod ⟨"TemplateHouse$Maker", "spread", "(IIIZI)I"⟩ ∈ zT := zsub8 189 (by decide +kernel) (by decide +kernel)
theorem zwp83 : Cond.selects "TemplateHouse$Maker" ⟨"TemplateHouse$Maker", "spread", "(IIIZI)I"⟩ ⟨"TemplateHouse$Maker", "spread", "(IIIZI)I"⟩ ∈ zT := zin 83 (by decide +kernel) (by decide +kernel)
theorem zw1833 : Cond.code ⟨"TemplateHouse$Maker", "valueAdded", "(I)I"⟩ prog_7_method_6_code 8 (Option.some Jvm.ClassFile.FieldType.int) ∈ zT := zsub8 153 rfl rfl
theorem zw1832 : Cond.instanceMethod ⟨"TemplateHouse$Maker", "valueAdded", "(I)I"⟩ ∈ zT := zsub8 152 (by decide +kernel) (by decide +kernel)
theorem zwp91 : Cond.selects "TemplateHouse$Maker" ⟨"TemplateHouse$Maker", "valueAdded", "(I)I"⟩ ⟨"TemplateHouse$Maker", "valueAdded", "(I)I"⟩ ∈ zT := zin 91 (by decide +kernel) (by decide +kernel)
theorem zw1886 : Cond.code ⟨"TemplateHouse$Heap", "addToRoot", "(II)V"⟩ prog_5_method_4_code 3 (Option.none : Option Jvm.ClassFile.FieldType) ∈ zT := zsub8 206 rfl rfl
theorem zw1884 : Cond.instanceMethod ⟨"TemplateHouse$Heap", "addToRoot", "(II)V"⟩ ∈ zT := zsub8 204 (by decide +kernel) (by decide +kernel)
theorem zw1885 : Cond.selects "TemplateHouse$Heap" ⟨"TemplateHouse$Heap", "addToRoot", "(II)V"⟩ ⟨"TemplateHouse$Heap", "addToRoot", "(II)V"⟩ ∈ zT := zsub8 205 (by decide +kernel) (by decide +kernel)
abbrev cX8_addProperty : ByteArray := prog_10_method_12_code
abbrev yX8_addProperty : MethodName := ⟨"TemplateHouse$Store", "addProperty", "(III[BI)Z"⟩
theorem dmX8_addProperty : zDv yX8_addProperty cX8_addProperty 7 (some .boolean) 5 := ⟨⟨⟨by decide +kernel, by decide +kernel, by decide +kernel⟩, zw878, zw2⟩, zw876, zw877⟩
abbrev cX12_property : ByteArray := prog_1_method_18_code
abbrev yX12_property : MethodName := ⟨"TemplateHouse", "property", "(III)Z"⟩
theorem dmX12_property : zDv yX12_property cX12_property 5 (some .boolean) 3 := ⟨⟨⟨by decide +kernel, by decide +kernel, by decide +kernel⟩, zw874, zw1⟩, zw872, zw873⟩
abbrev cX8_addAttribute : ByteArray := prog_10_method_2_code
abbrev yX8_addAttribute : MethodName := ⟨"TemplateHouse$Store", "addAttribute", "([BII)I"⟩
theorem dmX8_addAttribute : zDv yX8_addAttribute cX8_addAttribute 5 (some .int) 3 := ⟨⟨⟨by decide +kernel, by decide +kernel, by decide +kernel⟩, zw890, zw2⟩, zw888, zw889⟩
abbrev cX12_attribute : ByteArray := prog_1_method_19_code
abbrev yX12_attribute : MethodName := ⟨"TemplateHouse", "attribute", "(I)I"⟩
theorem dmX12_attribute : zDv yX12_attribute cX12_attribute 3 (some .int) 1 := ⟨⟨⟨by decide +kernel, by decide +kernel, by decide +kernel⟩, zw886, zw1⟩, zw884, zw885⟩
abbrev cX12_clear : ByteArray := prog_1_method_20_code
abbrev yX12_clear : MethodName := ⟨"TemplateHouse", "clear", "()Z"⟩
theorem dmX12_clear : zDv yX12_clear cX12_clear 1 (some .boolean) 0 := ⟨⟨⟨by decide +kernel, by decide +kernel, by decide +kernel⟩, zw894, zw1⟩, zw892, zw893⟩
abbrev cX12_width : ByteArray := prog_1_method_21_code
abbrev yX12_width : MethodName := ⟨"TemplateHouse", "width", "(I)Z"⟩
theorem dmX12_width : zDv yX12_width cX12_width 2 (some .boolean) 1 := ⟨⟨⟨by decide +kernel, by decide +kernel, by decide +kernel⟩, zw898, zw1⟩, zw896, zw897⟩
abbrev cX2_templateOf : ByteArray := prog_4_method_16_code
abbrev yX2_templateOf : MethodName := ⟨"TemplateHouse$Gen", "templateOf", "([BII)I"⟩
theorem dmX2_templateOf : zDv yX2_templateOf cX2_templateOf 5 (some .int) 3 := ⟨⟨⟨by decide +kernel, by decide +kernel, by decide +kernel⟩, zw1768, zw4⟩, zw1766, zw1767⟩
abbrev cX9_forget : ByteArray := prog_11_method_2_code
abbrev yX9_forget : MethodName := ⟨"TemplateHouse$Teller", "forget", "()V"⟩
theorem dmX9_forget : zDv yX9_forget cX9_forget 1 none 0 := ⟨⟨⟨by decide +kernel, by decide +kernel, by decide +kernel⟩, zw1794, zw11⟩, zw1792, zw1793⟩
abbrev cX3_forget : ByteArray := prog_5_method_2_code
abbrev yX3_forget : MethodName := ⟨"TemplateHouse$Heap", "forget", "(LTemplateHouse$Gen;)V"⟩
theorem dmX3_forget : zDv yX3_forget cX3_forget 2 none 1 := ⟨⟨⟨by decide +kernel, by decide +kernel, by decide +kernel⟩, zw1799, zw12⟩, zw1797, zw1798⟩
abbrev cX11_freshLine : ByteArray := prog_13_method_3_code
abbrev yX11_freshLine : MethodName := ⟨"TemplateHouse$Writer", "freshLine", "()V"⟩
theorem dmX11_freshLine : zDv yX11_freshLine cX11_freshLine 1 none 0 := ⟨⟨⟨by decide +kernel, by decide +kernel, by decide +kernel⟩, zw1807, zw13⟩, zw1805, zw1806⟩
abbrev cX11_forget : ByteArray := prog_13_method_2_code
abbrev yX11_forget : MethodName := ⟨"TemplateHouse$Writer", "forget", "(LTemplateHouse$Gen;I)V"⟩
theorem dmX11_forget : zDv yX11_forget cX11_forget 3 none 2 := ⟨⟨⟨by decide +kernel, by decide +kernel, by decide +kernel⟩, zw1803, zw13⟩, zw1801, zw1802⟩
abbrev cX5_plain : ByteArray := prog_7_method_3_code
abbrev yX5_plain : MethodName := ⟨"TemplateHouse$Maker", "plain", "()V"⟩
theorem dmX5_plain : zDv yX5_plain cX5_plain 1 none 0 := ⟨⟨⟨by decide +kernel, by decide +kernel, by decide +kernel⟩, zw1811, zw10⟩, zw1810, zwp69⟩
abbrev cX3_make : ByteArray := prog_5_method_3_code
abbrev yX3_make : MethodName := ⟨"TemplateHouse$Heap", "make", "(III)I"⟩
theorem dmX3_make : zDv yX3_make cX3_make 6 (some .int) 3 := ⟨⟨⟨by decide +kernel, by decide +kernel, by decide +kernel⟩, zw1819, zw12⟩, zw1817, zw1818⟩
abbrev cX8_sameName : ByteArray := prog_10_method_3_code
abbrev yX8_sameName : MethodName := ⟨"TemplateHouse$Store", "sameName", "(II)Z"⟩
theorem dmX8_sameName : zDv yX8_sameName cX8_sameName 4 (some .boolean) 2 := ⟨⟨⟨by decide +kernel, by decide +kernel, by decide +kernel⟩, zw1829, zw2⟩, zw1827, zw1828⟩
abbrev cX8_isLater : ByteArray := prog_10_method_4_code
abbrev yX8_isLater : MethodName := ⟨"TemplateHouse$Store", "isLater", "(I)Z"⟩
theorem dmX8_isLater : zDv yX8_isLater cX8_isLater 3 (some .boolean) 1 := ⟨⟨⟨by decide +kernel, by decide +kernel, by decide +kernel⟩, zw1825, zw2⟩, zw1823, zw1824⟩
abbrev cX3_isHouse : ByteArray := prog_5_method_11_code
abbrev yX3_isHouse : MethodName := ⟨"TemplateHouse$Heap", "isHouse", "(II)Z"⟩
theorem dmX3_isHouse : zDv yX3_isHouse cX3_isHouse 3 (some .boolean) 2 := ⟨⟨⟨by decide +kernel, by decide +kernel, by decide +kernel⟩, zw1839, zw12⟩, zw1837, zw1838⟩
abbrev cX3_sortOf : ByteArray := prog_5_method_10_code
abbrev yX3_sortOf : MethodName := ⟨"TemplateHouse$Heap", "sortOf", "(I)I"⟩
theorem dmX3_sortOf : zDs yX3_sortOf cX3_sortOf 1 (some .int) 1 := ⟨⟨⟨by decide +kernel, by decide +kernel, by decide +kernel⟩, zw1846, zw12⟩, zw1845⟩
abbrev cX3_isMany : ByteArray := prog_5_method_12_code
abbrev yX3_isMany : MethodName := ⟨"TemplateHouse$Heap", "isMany", "(I)Z"⟩
theorem dmX3_isMany : zDv yX3_isMany cX3_isMany 2 (some .boolean) 1 := ⟨⟨⟨by decide +kernel, by decide +kernel, by decide +kernel⟩, zw1854, zw12⟩, zw1852, zw1853⟩
abbrev cX3_countOf : ByteArray := prog_5_method_13_code
abbrev yX3_countOf : MethodName := ⟨"TemplateHouse$Heap", "countOf", "(I)I"⟩
theorem dmX3_countOf : zDv yX3_countOf cX3_countOf 2 (some .int) 1 := ⟨⟨⟨by decide +kernel, by decide +kernel, by decide +kernel⟩, zw1843, zw12⟩, zw1841, zw1842⟩
abbrev cX3_counted : ByteArray := prog_5_method_5_code
abbrev yX3_counted : MethodName := ⟨"TemplateHouse$Heap", "counted", "(I)V"⟩
theorem dmX3_counted : zDv yX3_counted cX3_counted 2 none 1 := ⟨⟨⟨by decide +kernel, by decide +kernel, by decide +kernel⟩, zw1862, zw12⟩, zw1860, zw1861⟩
abbrev cX3_room : ByteArray := prog_5_method_6_code
abbrev yX3_room : MethodName := ⟨"TemplateHouse$Heap", "room", "(I)I"⟩
theorem dmX3_room : zDv yX3_room cX3_room 3 (some .int) 1 := ⟨⟨⟨by decide +kernel, by decide +kernel, by decide +kernel⟩, zw1866, zw12⟩, zw1864, zw1865⟩
abbrev cX3_newRow : ByteArray := prog_5_method_7_code
abbrev yX3_newRow : MethodName := ⟨"TemplateHouse$Heap", "newRow", "(I)I"⟩
theorem dmX3_newRow : zDv yX3_newRow cX3_newRow 2 (some .int) 1 := ⟨⟨⟨by decide +kernel, by decide +kernel, by decide +kernel⟩, zw1858, zw12⟩, zw1856, zw1857⟩
abbrev cX3_valueOf : ByteArray := prog_5_method_14_code
abbrev yX3_valueOf : MethodName := ⟨"TemplateHouse$Heap", "valueOf", "(II)I"⟩
theorem dmX3_valueOf : zDv yX3_valueOf cX3_valueOf 3 (some .int) 2 := ⟨⟨⟨by decide +kernel, by decide +kernel, by decide +kernel⟩, zw1874, zw12⟩, zw1872, zw1873⟩
abbrev cX3_put : ByteArray := prog_5_method_8_code
abbrev yX3_put : MethodName := ⟨"TemplateHouse$Heap", "put", "(III)V"⟩
theorem dmX3_put : zDv yX3_put cX3_put 4 none 3 := ⟨⟨⟨by decide +kernel, by decide +kernel, by decide +kernel⟩, zw1878, zw12⟩, zw1876, zw1877⟩
abbrev cX5_spread : ByteArray := prog_7_method_7_code
abbrev yX5_spread : MethodName := ⟨"TemplateHouse$Maker", "spread", "(IIIZI)I"⟩
theorem dmX5_spread : zDv yX5_spread cX5_spread 9 (some .int) 5 := ⟨⟨⟨by decide +kernel, by decide +kernel, by decide +kernel⟩, zw1870, zw10⟩, zw1869, zwp83⟩
abbrev cX5_valueAdded : ByteArray := prog_7_method_6_code
abbrev yX5_valueAdded : MethodName := ⟨"TemplateHouse$Maker", "valueAdded", "(I)I"⟩
theorem dmX5_valueAdded : zDv yX5_valueAdded cX5_valueAdded 8 (some .int) 1 := ⟨⟨⟨by decide +kernel, by decide +kernel, by decide +kernel⟩, zw1833, zw10⟩, zw1832, zwp91⟩
abbrev cX3_addToRoot : ByteArray := prog_5_method_4_code
abbrev yX3_addToRoot : MethodName := ⟨"TemplateHouse$Heap", "addToRoot", "(II)V"⟩
theorem dmX3_addToRoot : zDv yX3_addToRoot cX3_addToRoot 3 none 2 := ⟨⟨⟨by decide +kernel, by decide +kernel, by decide +kernel⟩, zw1886, zw12⟩, zw1884, zw1885⟩
theorem dX8_addProperty_0 : decode cX8_addProperty 0 = .ok (.aload_n 0, 1) := by decide +kernel
theorem dX8_addProperty_1 : decode cX8_addProperty 1 = .ok (.iload_n 1, 1) := by decide +kernel
theorem dX8_addProperty_2 : decode cX8_addProperty 2 = .ok (.iconst 5, 1) := by decide +kernel
theorem dX8_addProperty_3 : decode cX8_addProperty 3 = .ok (.invokevirtual 82, 3) := by decide +kernel
theorem dX8_addProperty_6 : decode cX8_addProperty 6 = .ok (.ifCond .eq 30, 3) := by decide +kernel
theorem dX8_addProperty_36 : decode cX8_addProperty 36 = .ok (.iconst 0, 1) := by decide +kernel
theorem dX8_addProperty_37 : decode cX8_addProperty 37 = .ok (.ireturn, 1) := by decide +kernel
theorem dX8_addProperty_9 : decode cX8_addProperty 9 = .ok (.iload_n 3, 1) := by decide +kernel
theorem dX8_addProperty_10 : decode cX8_addProperty 10 = .ok (.bipush (-2), 2) := by decide +kernel
theorem dX8_addProperty_12 : decode cX8_addProperty 12 = .ok (.if_icmp .lt 24, 3) := by decide +kernel
theorem dX8_addProperty_15 : decode cX8_addProperty 15 = .ok (.iload_n 3, 1) := by decide +kernel
theorem dX8_addProperty_16 : decode cX8_addProperty 16 = .ok (.aload_n 0, 1) := by decide +kernel
theorem dX8_addProperty_17 : decode cX8_addProperty 17 = .ok (.getfield 36, 3) := by decide +kernel
theorem dX8_addProperty_20 : decode cX8_addProperty 20 = .ok (.if_icmp .ge 16, 3) := by decide +kernel
theorem dX8_addProperty_23 : decode cX8_addProperty 23 = .ok (.iload 5, 2) := by decide +kernel
theorem dX8_addProperty_25 : decode cX8_addProperty 25 = .ok (.iconst 1, 1) := by decide +kernel
theorem dX8_addProperty_26 : decode cX8_addProperty 26 = .ok (.if_icmp .lt 10, 3) := by decide +kernel
theorem dX8_addProperty_29 : decode cX8_addProperty 29 = .ok (.iload 5, 2) := by decide +kernel
theorem dX8_addProperty_31 : decode cX8_addProperty 31 = .ok (.bipush 16, 2) := by decide +kernel
theorem dX8_addProperty_33 : decode cX8_addProperty 33 = .ok (.if_icmp .le 5, 3) := by decide +kernel
theorem dX8_addProperty_38 : decode cX8_addProperty 38 = .ok (.aload_n 0, 1) := by decide +kernel
theorem dX8_addProperty_39 : decode cX8_addProperty 39 = .ok (.getfield 25, 3) := by decide +kernel
theorem dX8_addProperty_42 : decode cX8_addProperty 42 = .ok (.iload_n 1, 1) := by decide +kernel
theorem dX8_addProperty_43 : decode cX8_addProperty 43 = .ok (.invokestatic 70, 3) := by decide +kernel
theorem dX8_addProperty_46 : decode cX8_addProperty 46 = .ok (.istore 6, 2) := by decide +kernel
theorem dX8_addProperty_48 : decode cX8_addProperty 48 = .ok (.iload 6, 2) := by decide +kernel
theorem dX8_addProperty_50 : decode cX8_addProperty 50 = .ok (.bipush 12, 2) := by decide +kernel
theorem dX8_addProperty_52 : decode cX8_addProperty 52 = .ok (.if_icmp .ge 31, 3) := by decide +kernel
theorem dX8_addProperty_83 : decode cX8_addProperty 83 = .ok (.iconst 0, 1) := by decide +kernel
theorem dX8_addProperty_84 : decode cX8_addProperty 84 = .ok (.ireturn, 1) := by decide +kernel
theorem dX8_addProperty_55 : decode cX8_addProperty 55 = .ok (.aload_n 0, 1) := by decide +kernel
theorem dX8_addProperty_56 : decode cX8_addProperty 56 = .ok (.getfield 40, 3) := by decide +kernel
theorem dX8_addProperty_59 : decode cX8_addProperty 59 = .ok (.iload 5, 2) := by decide +kernel
theorem dX8_addProperty_61 : decode cX8_addProperty 61 = .ok (.iadd, 1) := by decide +kernel
theorem dX8_addProperty_62 : decode cX8_addProperty 62 = .ok (.sipush 16000, 3) := by decide +kernel
theorem dX8_addProperty_65 : decode cX8_addProperty 65 = .ok (.if_icmp .gt 18, 3) := by decide +kernel
theorem dX8_addProperty_68 : decode cX8_addProperty 68 = .ok (.aload_n 0, 1) := by decide +kernel
theorem dX8_addProperty_69 : decode cX8_addProperty 69 = .ok (.iload_n 1, 1) := by decide +kernel
theorem dX8_addProperty_70 : decode cX8_addProperty 70 = .ok (.iload_n 2, 1) := by decide +kernel
theorem dX8_addProperty_71 : decode cX8_addProperty 71 = .ok (.aload 4, 2) := by decide +kernel
theorem dX8_addProperty_73 : decode cX8_addProperty 73 = .ok (.iconst 0, 1) := by decide +kernel
theorem dX8_addProperty_74 : decode cX8_addProperty 74 = .ok (.iload 5, 2) := by decide +kernel
theorem dX8_addProperty_76 : decode cX8_addProperty 76 = .ok (.invokevirtual 96, 3) := by decide +kernel
theorem dX8_addProperty_79 : decode cX8_addProperty 79 = .ok (.iconst (-1), 1) := by decide +kernel
theorem dX8_addProperty_80 : decode cX8_addProperty 80 = .ok (.if_icmp .eq 5, 3) := by decide +kernel
theorem dX8_addProperty_85 : decode cX8_addProperty 85 = .ok (.aload_n 0, 1) := by decide +kernel
theorem dX8_addProperty_86 : decode cX8_addProperty 86 = .ok (.getfield 29, 3) := by decide +kernel
theorem dX8_addProperty_89 : decode cX8_addProperty 89 = .ok (.iload_n 1, 1) := by decide +kernel
theorem dX8_addProperty_90 : decode cX8_addProperty 90 = .ok (.bipush 100, 2) := by decide +kernel
theorem dX8_addProperty_92 : decode cX8_addProperty 92 = .ok (.imul, 1) := by decide +kernel
theorem dX8_addProperty_93 : decode cX8_addProperty 93 = .ok (.iconst 3, 1) := by decide +kernel
theorem dX8_addProperty_94 : decode cX8_addProperty 94 = .ok (.iload 6, 2) := by decide +kernel
theorem dX8_addProperty_96 : decode cX8_addProperty 96 = .ok (.imul, 1) := by decide +kernel
theorem dX8_addProperty_97 : decode cX8_addProperty 97 = .ok (.iadd, 1) := by decide +kernel
theorem dX8_addProperty_98 : decode cX8_addProperty 98 = .ok (.aload_n 0, 1) := by decide +kernel
theorem dX8_addProperty_99 : decode cX8_addProperty 99 = .ok (.getfield 40, 3) := by decide +kernel
theorem dX8_addProperty_102 : decode cX8_addProperty 102 = .ok (.iconst 5, 1) := by decide +kernel
theorem dX8_addProperty_103 : decode cX8_addProperty 103 = .ok (.ishl, 1) := by decide +kernel
theorem dX8_addProperty_104 : decode cX8_addProperty 104 = .ok (.iload 5, 2) := by decide +kernel
theorem dX8_addProperty_106 : decode cX8_addProperty 106 = .ok (.ior, 1) := by decide +kernel
theorem dX8_addProperty_107 : decode cX8_addProperty 107 = .ok (.invokestatic 66, 3) := by decide +kernel
theorem dX8_addProperty_110 : decode cX8_addProperty 110 = .ok (.aload_n 0, 1) := by decide +kernel
theorem dX8_addProperty_111 : decode cX8_addProperty 111 = .ok (.getfield 29, 3) := by decide +kernel
theorem dX8_addProperty_114 : decode cX8_addProperty 114 = .ok (.iload_n 1, 1) := by decide +kernel
theorem dX8_addProperty_115 : decode cX8_addProperty 115 = .ok (.bipush 100, 2) := by decide +kernel
theorem dX8_addProperty_117 : decode cX8_addProperty 117 = .ok (.imul, 1) := by decide +kernel
theorem dX8_addProperty_118 : decode cX8_addProperty 118 = .ok (.iconst 3, 1) := by decide +kernel
theorem dX8_addProperty_119 : decode cX8_addProperty 119 = .ok (.iload 6, 2) := by decide +kernel
theorem dX8_addProperty_121 : decode cX8_addProperty 121 = .ok (.imul, 1) := by decide +kernel
theorem dX8_addProperty_122 : decode cX8_addProperty 122 = .ok (.iadd, 1) := by decide +kernel
theorem dX8_addProperty_123 : decode cX8_addProperty 123 = .ok (.iconst 1, 1) := by decide +kernel
theorem dX8_addProperty_124 : decode cX8_addProperty 124 = .ok (.iadd, 1) := by decide +kernel
theorem dX8_addProperty_125 : decode cX8_addProperty 125 = .ok (.iload_n 2, 1) := by decide +kernel
theorem dX8_addProperty_126 : decode cX8_addProperty 126 = .ok (.invokestatic 66, 3) := by decide +kernel
theorem dX8_addProperty_129 : decode cX8_addProperty 129 = .ok (.aload_n 0, 1) := by decide +kernel
theorem dX8_addProperty_130 : decode cX8_addProperty 130 = .ok (.getfield 29, 3) := by decide +kernel
theorem dX8_addProperty_133 : decode cX8_addProperty 133 = .ok (.iload_n 1, 1) := by decide +kernel
theorem dX8_addProperty_134 : decode cX8_addProperty 134 = .ok (.bipush 100, 2) := by decide +kernel
theorem dX8_addProperty_136 : decode cX8_addProperty 136 = .ok (.imul, 1) := by decide +kernel
theorem dX8_addProperty_137 : decode cX8_addProperty 137 = .ok (.iconst 3, 1) := by decide +kernel
theorem dX8_addProperty_138 : decode cX8_addProperty 138 = .ok (.iload 6, 2) := by decide +kernel
theorem dX8_addProperty_140 : decode cX8_addProperty 140 = .ok (.imul, 1) := by decide +kernel
theorem dX8_addProperty_141 : decode cX8_addProperty 141 = .ok (.iadd, 1) := by decide +kernel
theorem dX8_addProperty_142 : decode cX8_addProperty 142 = .ok (.iconst 2, 1) := by decide +kernel
theorem dX8_addProperty_143 : decode cX8_addProperty 143 = .ok (.iadd, 1) := by decide +kernel
theorem dX8_addProperty_144 : decode cX8_addProperty 144 = .ok (.iload_n 3, 1) := by decide +kernel
theorem dX8_addProperty_145 : decode cX8_addProperty 145 = .ok (.invokestatic 66, 3) := by decide +kernel
theorem dX8_addProperty_148 : decode cX8_addProperty 148 = .ok (.aload_n 0, 1) := by decide +kernel
theorem dX8_addProperty_149 : decode cX8_addProperty 149 = .ok (.aload 4, 2) := by decide +kernel
theorem dX8_addProperty_151 : decode cX8_addProperty 151 = .ok (.iload 5, 2) := by decide +kernel
theorem dX8_addProperty_153 : decode cX8_addProperty 153 = .ok (.invokevirtual 92, 3) := by decide +kernel
theorem dX8_addProperty_156 : decode cX8_addProperty 156 = .ok (.aload_n 0, 1) := by decide +kernel
theorem dX8_addProperty_157 : decode cX8_addProperty 157 = .ok (.getfield 25, 3) := by decide +kernel
theorem dX8_addProperty_160 : decode cX8_addProperty 160 = .ok (.iload_n 1, 1) := by decide +kernel
theorem dX8_addProperty_161 : decode cX8_addProperty 161 = .ok (.iload 6, 2) := by decide +kernel
theorem dX8_addProperty_163 : decode cX8_addProperty 163 = .ok (.iconst 1, 1) := by decide +kernel
theorem dX8_addProperty_164 : decode cX8_addProperty 164 = .ok (.iadd, 1) := by decide +kernel
theorem dX8_addProperty_165 : decode cX8_addProperty 165 = .ok (.invokestatic 66, 3) := by decide +kernel
theorem dX8_addProperty_168 : decode cX8_addProperty 168 = .ok (.iconst 1, 1) := by decide +kernel
theorem dX8_addProperty_169 : decode cX8_addProperty 169 = .ok (.ireturn, 1) := by decide +kernel
theorem dX12_property_0 : decode cX12_property 0 = .ok (.aload_n 0, 1) := by decide +kernel
theorem dX12_property_1 : decode cX12_property 1 = .ok (.getfield 16, 3) := by decide +kernel
theorem dX12_property_4 : decode cX12_property 4 = .ok (.istore 4, 2) := by decide +kernel
theorem dX12_property_6 : decode cX12_property 6 = .ok (.aload_n 0, 1) := by decide +kernel
theorem dX12_property_7 : decode cX12_property 7 = .ok (.iconst 0, 1) := by decide +kernel
theorem dX12_property_8 : decode cX12_property 8 = .ok (.putfield 16, 3) := by decide +kernel
theorem dX12_property_11 : decode cX12_property 11 = .ok (.aload_n 0, 1) := by decide +kernel
theorem dX12_property_12 : decode cX12_property 12 = .ok (.getfield 35, 3) := by decide +kernel
theorem dX12_property_15 : decode cX12_property 15 = .ok (.iconst 1, 1) := by decide +kernel
theorem dX12_property_16 : decode cX12_property 16 = .ok (.if_icmp .eq 12, 3) := by decide +kernel
theorem dX12_property_28 : decode cX12_property 28 = .ok (.iconst 0, 1) := by decide +kernel
theorem dX12_property_29 : decode cX12_property 29 = .ok (.ireturn, 1) := by decide +kernel
theorem dX12_property_19 : decode cX12_property 19 = .ok (.iload_n 2, 1) := by decide +kernel
theorem dX12_property_20 : decode cX12_property 20 = .ok (.ifCond .lt 8, 3) := by decide +kernel
theorem dX12_property_23 : decode cX12_property 23 = .ok (.iload_n 2, 1) := by decide +kernel
theorem dX12_property_24 : decode cX12_property 24 = .ok (.iconst 3, 1) := by decide +kernel
theorem dX12_property_25 : decode cX12_property 25 = .ok (.if_icmp .le 5, 3) := by decide +kernel
theorem dX12_property_30 : decode cX12_property 30 = .ok (.aload_n 0, 1) := by decide +kernel
theorem dX12_property_31 : decode cX12_property 31 = .ok (.getfield 59, 3) := by decide +kernel
theorem dX12_property_34 : decode cX12_property 34 = .ok (.iload_n 1, 1) := by decide +kernel
theorem dX12_property_35 : decode cX12_property 35 = .ok (.iload_n 2, 1) := by decide +kernel
theorem dX12_property_36 : decode cX12_property 36 = .ok (.iload_n 3, 1) := by decide +kernel
theorem dX12_property_37 : decode cX12_property 37 = .ok (.aload_n 0, 1) := by decide +kernel
theorem dX12_property_38 : decode cX12_property 38 = .ok (.getfield 13, 3) := by decide +kernel
theorem dX12_property_41 : decode cX12_property 41 = .ok (.iload 4, 2) := by decide +kernel
theorem dX12_property_43 : decode cX12_property 43 = .ok (.invokevirtual 185, 3) := by decide +kernel
theorem dX12_property_46 : decode cX12_property 46 = .ok (.ireturn, 1) := by decide +kernel
theorem dX8_addAttribute_0 : decode cX8_addAttribute 0 = .ok (.iload_n 3, 1) := by decide +kernel
theorem dX8_addAttribute_1 : decode cX8_addAttribute 1 = .ok (.iconst (-1), 1) := by decide +kernel
theorem dX8_addAttribute_2 : decode cX8_addAttribute 2 = .ok (.if_icmp .lt 11, 3) := by decide +kernel
theorem dX8_addAttribute_13 : decode cX8_addAttribute 13 = .ok (.iconst (-1), 1) := by decide +kernel
theorem dX8_addAttribute_14 : decode cX8_addAttribute 14 = .ok (.ireturn, 1) := by decide +kernel
theorem dX8_addAttribute_5 : decode cX8_addAttribute 5 = .ok (.iload_n 3, 1) := by decide +kernel
theorem dX8_addAttribute_6 : decode cX8_addAttribute 6 = .ok (.aload_n 0, 1) := by decide +kernel
theorem dX8_addAttribute_7 : decode cX8_addAttribute 7 = .ok (.getfield 36, 3) := by decide +kernel
theorem dX8_addAttribute_10 : decode cX8_addAttribute 10 = .ok (.if_icmp .lt 5, 3) := by decide +kernel
theorem dX8_addAttribute_15 : decode cX8_addAttribute 15 = .ok (.iload_n 2, 1) := by decide +kernel
theorem dX8_addAttribute_16 : decode cX8_addAttribute 16 = .ok (.iconst 1, 1) := by decide +kernel
theorem dX8_addAttribute_17 : decode cX8_addAttribute 17 = .ok (.if_icmp .lt 18, 3) := by decide +kernel
theorem dX8_addAttribute_35 : decode cX8_addAttribute 35 = .ok (.iconst (-1), 1) := by decide +kernel
theorem dX8_addAttribute_36 : decode cX8_addAttribute 36 = .ok (.ireturn, 1) := by decide +kernel
theorem dX8_addAttribute_20 : decode cX8_addAttribute 20 = .ok (.iload_n 2, 1) := by decide +kernel
theorem dX8_addAttribute_21 : decode cX8_addAttribute 21 = .ok (.bipush 16, 2) := by decide +kernel
theorem dX8_addAttribute_23 : decode cX8_addAttribute 23 = .ok (.if_icmp .gt 12, 3) := by decide +kernel
theorem dX8_addAttribute_26 : decode cX8_addAttribute 26 = .ok (.aload_n 0, 1) := by decide +kernel
theorem dX8_addAttribute_27 : decode cX8_addAttribute 27 = .ok (.getfield 55, 3) := by decide +kernel
theorem dX8_addAttribute_30 : decode cX8_addAttribute 30 = .ok (.bipush 40, 2) := by decide +kernel
theorem dX8_addAttribute_32 : decode cX8_addAttribute 32 = .ok (.if_icmp .lt 5, 3) := by decide +kernel
theorem dX8_addAttribute_37 : decode cX8_addAttribute 37 = .ok (.iconst 0, 1) := by decide +kernel
theorem dX8_addAttribute_38 : decode cX8_addAttribute 38 = .ok (.istore 4, 2) := by decide +kernel
theorem dX8_addAttribute_40 : decode cX8_addAttribute 40 = .ok (.iload 4, 2) := by decide +kernel
theorem dX8_addAttribute_42 : decode cX8_addAttribute 42 = .ok (.iload_n 2, 1) := by decide +kernel
theorem dX8_addAttribute_43 : decode cX8_addAttribute 43 = .ok (.if_icmp .ge 32, 3) := by decide +kernel
theorem dX8_addAttribute_75 : decode cX8_addAttribute 75 = .ok (.aload_n 0, 1) := by decide +kernel
theorem dX8_addAttribute_76 : decode cX8_addAttribute 76 = .ok (.getfield 49, 3) := by decide +kernel
theorem dX8_addAttribute_79 : decode cX8_addAttribute 79 = .ok (.aload_n 0, 1) := by decide +kernel
theorem dX8_addAttribute_80 : decode cX8_addAttribute 80 = .ok (.getfield 55, 3) := by decide +kernel
theorem dX8_addAttribute_83 : decode cX8_addAttribute 83 = .ok (.iload_n 2, 1) := by decide +kernel
theorem dX8_addAttribute_84 : decode cX8_addAttribute 84 = .ok (.invokestatic 66, 3) := by decide +kernel
theorem dX8_addAttribute_87 : decode cX8_addAttribute 87 = .ok (.aload_n 0, 1) := by decide +kernel
theorem dX8_addAttribute_88 : decode cX8_addAttribute 88 = .ok (.getfield 52, 3) := by decide +kernel
theorem dX8_addAttribute_91 : decode cX8_addAttribute 91 = .ok (.aload_n 0, 1) := by decide +kernel
theorem dX8_addAttribute_92 : decode cX8_addAttribute 92 = .ok (.getfield 55, 3) := by decide +kernel
theorem dX8_addAttribute_95 : decode cX8_addAttribute 95 = .ok (.iload_n 3, 1) := by decide +kernel
theorem dX8_addAttribute_96 : decode cX8_addAttribute 96 = .ok (.invokestatic 66, 3) := by decide +kernel
theorem dX8_addAttribute_99 : decode cX8_addAttribute 99 = .ok (.aload_n 0, 1) := by decide +kernel
theorem dX8_addAttribute_100 : decode cX8_addAttribute 100 = .ok (.dup, 1) := by decide +kernel
theorem dX8_addAttribute_101 : decode cX8_addAttribute 101 = .ok (.getfield 55, 3) := by decide +kernel
theorem dX8_addAttribute_104 : decode cX8_addAttribute 104 = .ok (.iconst 1, 1) := by decide +kernel
theorem dX8_addAttribute_105 : decode cX8_addAttribute 105 = .ok (.iadd, 1) := by decide +kernel
theorem dX8_addAttribute_106 : decode cX8_addAttribute 106 = .ok (.putfield 55, 3) := by decide +kernel
theorem dX8_addAttribute_109 : decode cX8_addAttribute 109 = .ok (.aload_n 0, 1) := by decide +kernel
theorem dX8_addAttribute_110 : decode cX8_addAttribute 110 = .ok (.getfield 55, 3) := by decide +kernel
theorem dX8_addAttribute_113 : decode cX8_addAttribute 113 = .ok (.ireturn, 1) := by decide +kernel
theorem dX8_addAttribute_46 : decode cX8_addAttribute 46 = .ok (.aload_n 0, 1) := by decide +kernel
theorem dX8_addAttribute_47 : decode cX8_addAttribute 47 = .ok (.getfield 46, 3) := by decide +kernel
theorem dX8_addAttribute_50 : decode cX8_addAttribute 50 = .ok (.aload_n 0, 1) := by decide +kernel
theorem dX8_addAttribute_51 : decode cX8_addAttribute 51 = .ok (.getfield 55, 3) := by decide +kernel
theorem dX8_addAttribute_54 : decode cX8_addAttribute 54 = .ok (.bipush 16, 2) := by decide +kernel
theorem dX8_addAttribute_56 : decode cX8_addAttribute 56 = .ok (.imul, 1) := by decide +kernel
theorem dX8_addAttribute_57 : decode cX8_addAttribute 57 = .ok (.iload 4, 2) := by decide +kernel
theorem dX8_addAttribute_59 : decode cX8_addAttribute 59 = .ok (.iadd, 1) := by decide +kernel
theorem dX8_addAttribute_60 : decode cX8_addAttribute 60 = .ok (.aload_n 1, 1) := by decide +kernel
theorem dX8_addAttribute_61 : decode cX8_addAttribute 61 = .ok (.iload 4, 2) := by decide +kernel
theorem dX8_addAttribute_63 : decode cX8_addAttribute 63 = .ok (.invokestatic 58, 3) := by decide +kernel
theorem dX8_addAttribute_66 : decode cX8_addAttribute 66 = .ok (.invokestatic 62, 3) := by decide +kernel
theorem dX8_addAttribute_69 : decode cX8_addAttribute 69 = .ok (.iinc 4 1, 3) := by decide +kernel
theorem dX8_addAttribute_72 : decode cX8_addAttribute 72 = .ok (.goto (-32), 3) := by decide +kernel
theorem dX12_attribute_0 : decode cX12_attribute 0 = .ok (.aload_n 0, 1) := by decide +kernel
theorem dX12_attribute_1 : decode cX12_attribute 1 = .ok (.getfield 16, 3) := by decide +kernel
theorem dX12_attribute_4 : decode cX12_attribute 4 = .ok (.istore_n 2, 1) := by decide +kernel
theorem dX12_attribute_5 : decode cX12_attribute 5 = .ok (.aload_n 0, 1) := by decide +kernel
theorem dX12_attribute_6 : decode cX12_attribute 6 = .ok (.iconst 0, 1) := by decide +kernel
theorem dX12_attribute_7 : decode cX12_attribute 7 = .ok (.putfield 16, 3) := by decide +kernel
theorem dX12_attribute_10 : decode cX12_attribute 10 = .ok (.aload_n 0, 1) := by decide +kernel
theorem dX12_attribute_11 : decode cX12_attribute 11 = .ok (.getfield 35, 3) := by decide +kernel
theorem dX12_attribute_14 : decode cX12_attribute 14 = .ok (.iconst 1, 1) := by decide +kernel
theorem dX12_attribute_15 : decode cX12_attribute 15 = .ok (.if_icmp .ne 7, 3) := by decide +kernel
theorem dX12_attribute_35 : decode cX12_attribute 35 = .ok (.ireturn, 1) := by decide +kernel
theorem dX12_attribute_22 : decode cX12_attribute 22 = .ok (.aload_n 0, 1) := by decide +kernel
theorem dX12_attribute_23 : decode cX12_attribute 23 = .ok (.getfield 59, 3) := by decide +kernel
theorem dX12_attribute_26 : decode cX12_attribute 26 = .ok (.aload_n 0, 1) := by decide +kernel
theorem dX12_attribute_27 : decode cX12_attribute 27 = .ok (.getfield 13, 3) := by decide +kernel
theorem dX12_attribute_30 : decode cX12_attribute 30 = .ok (.iload_n 2, 1) := by decide +kernel
theorem dX12_attribute_31 : decode cX12_attribute 31 = .ok (.iload_n 1, 1) := by decide +kernel
theorem dX12_attribute_32 : decode cX12_attribute 32 = .ok (.invokevirtual 189, 3) := by decide +kernel
theorem dX12_attribute_18 : decode cX12_attribute 18 = .ok (.iconst (-1), 1) := by decide +kernel
theorem dX12_attribute_19 : decode cX12_attribute 19 = .ok (.goto 16, 3) := by decide +kernel
theorem dX12_clear_0 : decode cX12_clear 0 = .ok (.aload_n 0, 1) := by decide +kernel
theorem dX12_clear_1 : decode cX12_clear 1 = .ok (.getfield 35, 3) := by decide +kernel
theorem dX12_clear_4 : decode cX12_clear 4 = .ok (.iconst 1, 1) := by decide +kernel
theorem dX12_clear_5 : decode cX12_clear 5 = .ok (.if_icmp .ne 5, 3) := by decide +kernel
theorem dX12_clear_10 : decode cX12_clear 10 = .ok (.aload_n 0, 1) := by decide +kernel
theorem dX12_clear_11 : decode cX12_clear 11 = .ok (.getfield 59, 3) := by decide +kernel
theorem dX12_clear_14 : decode cX12_clear 14 = .ok (.iconst 0, 1) := by decide +kernel
theorem dX12_clear_15 : decode cX12_clear 15 = .ok (.putfield 193, 3) := by decide +kernel
theorem dX12_clear_18 : decode cX12_clear 18 = .ok (.iconst 1, 1) := by decide +kernel
theorem dX12_clear_19 : decode cX12_clear 19 = .ok (.ireturn, 1) := by decide +kernel
theorem dX12_clear_8 : decode cX12_clear 8 = .ok (.iconst 0, 1) := by decide +kernel
theorem dX12_clear_9 : decode cX12_clear 9 = .ok (.ireturn, 1) := by decide +kernel
theorem dX12_width_0 : decode cX12_width 0 = .ok (.iload_n 1, 1) := by decide +kernel
theorem dX12_width_1 : decode cX12_width 1 = .ok (.ifCond .lt 10, 3) := by decide +kernel
theorem dX12_width_11 : decode cX12_width 11 = .ok (.iconst 0, 1) := by decide +kernel
theorem dX12_width_12 : decode cX12_width 12 = .ok (.ireturn, 1) := by decide +kernel
theorem dX12_width_4 : decode cX12_width 4 = .ok (.iload_n 1, 1) := by decide +kernel
theorem dX12_width_5 : decode cX12_width 5 = .ok (.sipush 1000, 3) := by decide +kernel
theorem dX12_width_8 : decode cX12_width 8 = .ok (.if_icmp .le 5, 3) := by decide +kernel
theorem dX12_width_13 : decode cX12_width 13 = .ok (.aload_n 0, 1) := by decide +kernel
theorem dX12_width_14 : decode cX12_width 14 = .ok (.iload_n 1, 1) := by decide +kernel
theorem dX12_width_15 : decode cX12_width 15 = .ok (.putfield 32, 3) := by decide +kernel
theorem dX12_width_18 : decode cX12_width 18 = .ok (.iconst 1, 1) := by decide +kernel
theorem dX12_width_19 : decode cX12_width 19 = .ok (.ireturn, 1) := by decide +kernel
theorem dX2_templateOf_0 : decode cX2_templateOf 0 = .ok (.iload_n 3, 1) := by decide +kernel
theorem dX2_templateOf_1 : decode cX2_templateOf 1 = .ok (.iconst 1, 1) := by decide +kernel
theorem dX2_templateOf_2 : decode cX2_templateOf 2 = .ok (.if_icmp .lt 9, 3) := by decide +kernel
theorem dX2_templateOf_25 : decode cX2_templateOf 25 = .ok (.istore 4, 2) := by decide +kernel
theorem dX2_templateOf_27 : decode cX2_templateOf 27 = .ok (.iload 4, 2) := by decide +kernel
theorem dX2_templateOf_29 : decode cX2_templateOf 29 = .ok (.iconst (-1), 1) := by decide +kernel
theorem dX2_templateOf_30 : decode cX2_templateOf 30 = .ok (.if_icmp .ne 7, 3) := by decide +kernel
theorem dX2_templateOf_50 : decode cX2_templateOf 50 = .ok (.ireturn, 1) := by decide +kernel
theorem dX2_templateOf_37 : decode cX2_templateOf 37 = .ok (.aload_n 0, 1) := by decide +kernel
theorem dX2_templateOf_38 : decode cX2_templateOf 38 = .ok (.aload_n 0, 1) := by decide +kernel
theorem dX2_templateOf_39 : decode cX2_templateOf 39 = .ok (.getfield 65, 3) := by decide +kernel
theorem dX2_templateOf_42 : decode cX2_templateOf 42 = .ok (.iload 4, 2) := by decide +kernel
theorem dX2_templateOf_44 : decode cX2_templateOf 44 = .ok (.invokestatic 102, 3) := by decide +kernel
theorem dX2_templateOf_47 : decode cX2_templateOf 47 = .ok (.invokevirtual 110, 3) := by decide +kernel
theorem dX2_templateOf_33 : decode cX2_templateOf 33 = .ok (.iconst (-1), 1) := by decide +kernel
theorem dX2_templateOf_34 : decode cX2_templateOf 34 = .ok (.goto 16, 3) := by decide +kernel
theorem dX2_templateOf_11 : decode cX2_templateOf 11 = .ok (.iconst (-1), 1) := by decide +kernel
theorem dX2_templateOf_12 : decode cX2_templateOf 12 = .ok (.goto 13, 3) := by decide +kernel
theorem dX2_templateOf_5 : decode cX2_templateOf 5 = .ok (.iload_n 3, 1) := by decide +kernel
theorem dX2_templateOf_6 : decode cX2_templateOf 6 = .ok (.bipush 16, 2) := by decide +kernel
theorem dX2_templateOf_8 : decode cX2_templateOf 8 = .ok (.if_icmp .le 7, 3) := by decide +kernel
theorem dX2_templateOf_15 : decode cX2_templateOf 15 = .ok (.aload_n 0, 1) := by decide +kernel
theorem dX2_templateOf_16 : decode cX2_templateOf 16 = .ok (.getfield 12, 3) := by decide +kernel
theorem dX2_templateOf_19 : decode cX2_templateOf 19 = .ok (.aload_n 1, 1) := by decide +kernel
theorem dX2_templateOf_20 : decode cX2_templateOf 20 = .ok (.iload_n 2, 1) := by decide +kernel
theorem dX2_templateOf_21 : decode cX2_templateOf 21 = .ok (.iload_n 3, 1) := by decide +kernel
theorem dX2_templateOf_22 : decode cX2_templateOf 22 = .ok (.invokevirtual 106, 3) := by decide +kernel
theorem dX9_forget_0 : decode cX9_forget 0 = .ok (.aload_n 0, 1) := by decide +kernel
theorem dX9_forget_1 : decode cX9_forget 1 = .ok (.getfield 16, 3) := by decide +kernel
theorem dX9_forget_4 : decode cX9_forget 4 = .ok (.iconst 0, 1) := by decide +kernel
theorem dX9_forget_5 : decode cX9_forget 5 = .ok (.invokestatic 19, 3) := by decide +kernel
theorem dX9_forget_8 : decode cX9_forget 8 = .ok (.return_, 1) := by decide +kernel
theorem dX3_forget_0 : decode cX3_forget 0 = .ok (.aload_n 0, 1) := by decide +kernel
theorem dX3_forget_1 : decode cX3_forget 1 = .ok (.aload_n 1, 1) := by decide +kernel
theorem dX3_forget_2 : decode cX3_forget 2 = .ok (.putfield 75, 3) := by decide +kernel
theorem dX3_forget_5 : decode cX3_forget 5 = .ok (.aload_n 0, 1) := by decide +kernel
theorem dX3_forget_6 : decode cX3_forget 6 = .ok (.iconst 0, 1) := by decide +kernel
theorem dX3_forget_7 : decode cX3_forget 7 = .ok (.putfield 24, 3) := by decide +kernel
theorem dX3_forget_10 : decode cX3_forget 10 = .ok (.aload_n 0, 1) := by decide +kernel
theorem dX3_forget_11 : decode cX3_forget 11 = .ok (.iconst 1, 1) := by decide +kernel
theorem dX3_forget_12 : decode cX3_forget 12 = .ok (.putfield 32, 3) := by decide +kernel
theorem dX3_forget_15 : decode cX3_forget 15 = .ok (.aload_n 0, 1) := by decide +kernel
theorem dX3_forget_16 : decode cX3_forget 16 = .ok (.iconst 0, 1) := by decide +kernel
theorem dX3_forget_17 : decode cX3_forget 17 = .ok (.putfield 35, 3) := by decide +kernel
theorem dX3_forget_20 : decode cX3_forget 20 = .ok (.aload_n 0, 1) := by decide +kernel
theorem dX3_forget_21 : decode cX3_forget 21 = .ok (.iconst 0, 1) := by decide +kernel
theorem dX3_forget_22 : decode cX3_forget 22 = .ok (.putfield 43, 3) := by decide +kernel
theorem dX3_forget_25 : decode cX3_forget 25 = .ok (.aload_n 0, 1) := by decide +kernel
theorem dX3_forget_26 : decode cX3_forget 26 = .ok (.iconst 0, 1) := by decide +kernel
theorem dX3_forget_27 : decode cX3_forget 27 = .ok (.putfield 52, 3) := by decide +kernel
theorem dX3_forget_30 : decode cX3_forget 30 = .ok (.return_, 1) := by decide +kernel
theorem dX11_freshLine_0 : decode cX11_freshLine 0 = .ok (.aload_n 0, 1) := by decide +kernel
theorem dX11_freshLine_1 : decode cX11_freshLine 1 = .ok (.iconst 0, 1) := by decide +kernel
theorem dX11_freshLine_2 : decode cX11_freshLine 2 = .ok (.putfield 25, 3) := by decide +kernel
theorem dX11_freshLine_5 : decode cX11_freshLine 5 = .ok (.aload_n 0, 1) := by decide +kernel
theorem dX11_freshLine_6 : decode cX11_freshLine 6 = .ok (.iconst 1, 1) := by decide +kernel
theorem dX11_freshLine_7 : decode cX11_freshLine 7 = .ok (.putfield 28, 3) := by decide +kernel
theorem dX11_freshLine_10 : decode cX11_freshLine 10 = .ok (.aload_n 0, 1) := by decide +kernel
theorem dX11_freshLine_11 : decode cX11_freshLine 11 = .ok (.iconst 0, 1) := by decide +kernel
theorem dX11_freshLine_12 : decode cX11_freshLine 12 = .ok (.putfield 32, 3) := by decide +kernel
theorem dX11_freshLine_15 : decode cX11_freshLine 15 = .ok (.aload_n 0, 1) := by decide +kernel
theorem dX11_freshLine_16 : decode cX11_freshLine 16 = .ok (.iconst 0, 1) := by decide +kernel
theorem dX11_freshLine_17 : decode cX11_freshLine 17 = .ok (.putfield 42, 3) := by decide +kernel
theorem dX11_freshLine_20 : decode cX11_freshLine 20 = .ok (.aload_n 0, 1) := by decide +kernel
theorem dX11_freshLine_21 : decode cX11_freshLine 21 = .ok (.aload_n 0, 1) := by decide +kernel
theorem dX11_freshLine_22 : decode cX11_freshLine 22 = .ok (.getfield 51, 3) := by decide +kernel
theorem dX11_freshLine_25 : decode cX11_freshLine 25 = .ok (.putfield 48, 3) := by decide +kernel
theorem dX11_freshLine_28 : decode cX11_freshLine 28 = .ok (.aload_n 0, 1) := by decide +kernel
theorem dX11_freshLine_29 : decode cX11_freshLine 29 = .ok (.iconst 0, 1) := by decide +kernel
theorem dX11_freshLine_30 : decode cX11_freshLine 30 = .ok (.putfield 54, 3) := by decide +kernel
theorem dX11_freshLine_33 : decode cX11_freshLine 33 = .ok (.return_, 1) := by decide +kernel
theorem dX11_forget_0 : decode cX11_forget 0 = .ok (.aload_n 0, 1) := by decide +kernel
theorem dX11_forget_1 : decode cX11_forget 1 = .ok (.aload_n 1, 1) := by decide +kernel
theorem dX11_forget_2 : decode cX11_forget 2 = .ok (.getfield 61, 3) := by decide +kernel
theorem dX11_forget_5 : decode cX11_forget 5 = .ok (.putfield 66, 3) := by decide +kernel
theorem dX11_forget_8 : decode cX11_forget 8 = .ok (.aload_n 0, 1) := by decide +kernel
theorem dX11_forget_9 : decode cX11_forget 9 = .ok (.iconst 0, 1) := by decide +kernel
theorem dX11_forget_10 : decode cX11_forget 10 = .ok (.putfield 18, 3) := by decide +kernel
theorem dX11_forget_13 : decode cX11_forget 13 = .ok (.aload_n 0, 1) := by decide +kernel
theorem dX11_forget_14 : decode cX11_forget 14 = .ok (.iload_n 2, 1) := by decide +kernel
theorem dX11_forget_15 : decode cX11_forget 15 = .ok (.putfield 22, 3) := by decide +kernel
theorem dX11_forget_18 : decode cX11_forget 18 = .ok (.aload_n 0, 1) := by decide +kernel
theorem dX11_forget_19 : decode cX11_forget 19 = .ok (.iconst 0, 1) := by decide +kernel
theorem dX11_forget_20 : decode cX11_forget 20 = .ok (.putfield 35, 3) := by decide +kernel
theorem dX11_forget_23 : decode cX11_forget 23 = .ok (.aload_n 0, 1) := by decide +kernel
theorem dX11_forget_24 : decode cX11_forget 24 = .ok (.iconst 0, 1) := by decide +kernel
theorem dX11_forget_25 : decode cX11_forget 25 = .ok (.putfield 51, 3) := by decide +kernel
theorem dX11_forget_28 : decode cX11_forget 28 = .ok (.aload_n 0, 1) := by decide +kernel
theorem dX11_forget_29 : decode cX11_forget 29 = .ok (.invokevirtual 67, 3) := by decide +kernel
theorem dX11_forget_32 : decode cX11_forget 32 = .ok (.return_, 1) := by decide +kernel
theorem dX5_plain_0 : decode cX5_plain 0 = .ok (.aload_n 0, 1) := by decide +kernel
theorem dX5_plain_1 : decode cX5_plain 1 = .ok (.iconst (-1), 1) := by decide +kernel
theorem dX5_plain_2 : decode cX5_plain 2 = .ok (.putfield 48, 3) := by decide +kernel
theorem dX5_plain_5 : decode cX5_plain 5 = .ok (.aload_n 0, 1) := by decide +kernel
theorem dX5_plain_6 : decode cX5_plain 6 = .ok (.iconst (-1), 1) := by decide +kernel
theorem dX5_plain_7 : decode cX5_plain 7 = .ok (.putfield 51, 3) := by decide +kernel
theorem dX5_plain_10 : decode cX5_plain 10 = .ok (.aload_n 0, 1) := by decide +kernel
theorem dX5_plain_11 : decode cX5_plain 11 = .ok (.iconst 0, 1) := by decide +kernel
theorem dX5_plain_12 : decode cX5_plain 12 = .ok (.putfield 54, 3) := by decide +kernel
theorem dX5_plain_15 : decode cX5_plain 15 = .ok (.aload_n 0, 1) := by decide +kernel
theorem dX5_plain_16 : decode cX5_plain 16 = .ok (.iconst (-1), 1) := by decide +kernel
theorem dX5_plain_17 : decode cX5_plain 17 = .ok (.putfield 57, 3) := by decide +kernel
theorem dX5_plain_20 : decode cX5_plain 20 = .ok (.return_, 1) := by decide +kernel
theorem dX3_make_0 : decode cX3_make 0 = .ok (.aload_n 0, 1) := by decide +kernel
theorem dX3_make_1 : decode cX3_make 1 = .ok (.getfield 24, 3) := by decide +kernel
theorem dX3_make_4 : decode cX3_make 4 = .ok (.ifCond .lt 39, 3) := by decide +kernel
theorem dX3_make_43 : decode cX3_make 43 = .ok (.new 79, 3) := by decide +kernel
theorem dX3_make_46 : decode cX3_make 46 = .ok (.dup, 1) := by decide +kernel
theorem dX3_make_47 : decode cX3_make 47 = .ok (.invokespecial 81, 3) := by decide +kernel
theorem dX3_make_50 : decode cX3_make 50 = .ok (.athrow, 1) := by decide +kernel
theorem dX3_make_7 : decode cX3_make 7 = .ok (.aload_n 0, 1) := by decide +kernel
theorem dX3_make_8 : decode cX3_make 8 = .ok (.getfield 24, 3) := by decide +kernel
theorem dX3_make_11 : decode cX3_make 11 = .ok (.aload_n 0, 1) := by decide +kernel
theorem dX3_make_12 : decode cX3_make 12 = .ok (.getfield 9, 3) := by decide +kernel
theorem dX3_make_15 : decode cX3_make 15 = .ok (.arraylength, 1) := by decide +kernel
theorem dX3_make_16 : decode cX3_make 16 = .ok (.if_icmp .ge 27, 3) := by decide +kernel
theorem dX3_make_19 : decode cX3_make 19 = .ok (.aload_n 0, 1) := by decide +kernel
theorem dX3_make_20 : decode cX3_make 20 = .ok (.getfield 24, 3) := by decide +kernel
theorem dX3_make_23 : decode cX3_make 23 = .ok (.aload_n 0, 1) := by decide +kernel
theorem dX3_make_24 : decode cX3_make 24 = .ok (.getfield 15, 3) := by decide +kernel
theorem dX3_make_27 : decode cX3_make 27 = .ok (.arraylength, 1) := by decide +kernel
theorem dX3_make_28 : decode cX3_make 28 = .ok (.if_icmp .ge 15, 3) := by decide +kernel
theorem dX3_make_31 : decode cX3_make 31 = .ok (.aload_n 0, 1) := by decide +kernel
theorem dX3_make_32 : decode cX3_make 32 = .ok (.getfield 24, 3) := by decide +kernel
theorem dX3_make_35 : decode cX3_make 35 = .ok (.aload_n 0, 1) := by decide +kernel
theorem dX3_make_36 : decode cX3_make 36 = .ok (.getfield 18, 3) := by decide +kernel
theorem dX3_make_39 : decode cX3_make 39 = .ok (.arraylength, 1) := by decide +kernel
theorem dX3_make_40 : decode cX3_make 40 = .ok (.if_icmp .lt 11, 3) := by decide +kernel
theorem dX3_make_51 : decode cX3_make 51 = .ok (.aload_n 0, 1) := by decide +kernel
theorem dX3_make_52 : decode cX3_make 52 = .ok (.getfield 9, 3) := by decide +kernel
theorem dX3_make_55 : decode cX3_make 55 = .ok (.aload_n 0, 1) := by decide +kernel
theorem dX3_make_56 : decode cX3_make 56 = .ok (.getfield 24, 3) := by decide +kernel
theorem dX3_make_59 : decode cX3_make 59 = .ok (.iload_n 1, 1) := by decide +kernel
theorem dX3_make_60 : decode cX3_make 60 = .ok (.iastore, 1) := by decide +kernel
theorem dX3_make_61 : decode cX3_make 61 = .ok (.aload_n 0, 1) := by decide +kernel
theorem dX3_make_62 : decode cX3_make 62 = .ok (.getfield 15, 3) := by decide +kernel
theorem dX3_make_65 : decode cX3_make 65 = .ok (.aload_n 0, 1) := by decide +kernel
theorem dX3_make_66 : decode cX3_make 66 = .ok (.getfield 24, 3) := by decide +kernel
theorem dX3_make_69 : decode cX3_make 69 = .ok (.iload_n 2, 1) := by decide +kernel
theorem dX3_make_70 : decode cX3_make 70 = .ok (.iastore, 1) := by decide +kernel
theorem dX3_make_71 : decode cX3_make 71 = .ok (.aload_n 0, 1) := by decide +kernel
theorem dX3_make_72 : decode cX3_make 72 = .ok (.getfield 18, 3) := by decide +kernel
theorem dX3_make_75 : decode cX3_make 75 = .ok (.aload_n 0, 1) := by decide +kernel
theorem dX3_make_76 : decode cX3_make 76 = .ok (.getfield 24, 3) := by decide +kernel
theorem dX3_make_79 : decode cX3_make 79 = .ok (.iconst 0, 1) := by decide +kernel
theorem dX3_make_80 : decode cX3_make 80 = .ok (.iastore, 1) := by decide +kernel
theorem dX3_make_81 : decode cX3_make 81 = .ok (.aload_n 0, 1) := by decide +kernel
theorem dX3_make_82 : decode cX3_make 82 = .ok (.getfield 24, 3) := by decide +kernel
theorem dX3_make_85 : decode cX3_make 85 = .ok (.bipush 12, 2) := by decide +kernel
theorem dX3_make_87 : decode cX3_make 87 = .ok (.imul, 1) := by decide +kernel
theorem dX3_make_88 : decode cX3_make 88 = .ok (.istore 4, 2) := by decide +kernel
theorem dX3_make_90 : decode cX3_make 90 = .ok (.iconst 0, 1) := by decide +kernel
theorem dX3_make_91 : decode cX3_make 91 = .ok (.istore 5, 2) := by decide +kernel
theorem dX3_make_93 : decode cX3_make 93 = .ok (.iload 5, 2) := by decide +kernel
theorem dX3_make_95 : decode cX3_make 95 = .ok (.bipush 12, 2) := by decide +kernel
theorem dX3_make_97 : decode cX3_make 97 = .ok (.if_icmp .ge 33, 3) := by decide +kernel
theorem dX3_make_130 : decode cX3_make 130 = .ok (.aload_n 0, 1) := by decide +kernel
theorem dX3_make_131 : decode cX3_make 131 = .ok (.dup, 1) := by decide +kernel
theorem dX3_make_132 : decode cX3_make 132 = .ok (.getfield 24, 3) := by decide +kernel
theorem dX3_make_135 : decode cX3_make 135 = .ok (.iconst 1, 1) := by decide +kernel
theorem dX3_make_136 : decode cX3_make 136 = .ok (.iadd, 1) := by decide +kernel
theorem dX3_make_137 : decode cX3_make 137 = .ok (.putfield 24, 3) := by decide +kernel
theorem dX3_make_140 : decode cX3_make 140 = .ok (.aload_n 0, 1) := by decide +kernel
theorem dX3_make_141 : decode cX3_make 141 = .ok (.getfield 71, 3) := by decide +kernel
theorem dX3_make_144 : decode cX3_make 144 = .ok (.getfield 82, 3) := by decide +kernel
theorem dX3_make_147 : decode cX3_make 147 = .ok (.iconst 2, 1) := by decide +kernel
theorem dX3_make_148 : decode cX3_make 148 = .ok (.aload_n 0, 1) := by decide +kernel
theorem dX3_make_149 : decode cX3_make 149 = .ok (.getfield 24, 3) := by decide +kernel
theorem dX3_make_152 : decode cX3_make 152 = .ok (.iastore, 1) := by decide +kernel
theorem dX3_make_153 : decode cX3_make 153 = .ok (.aload_n 0, 1) := by decide +kernel
theorem dX3_make_154 : decode cX3_make 154 = .ok (.getfield 24, 3) := by decide +kernel
theorem dX3_make_157 : decode cX3_make 157 = .ok (.iconst 1, 1) := by decide +kernel
theorem dX3_make_158 : decode cX3_make 158 = .ok (.isub, 1) := by decide +kernel
theorem dX3_make_159 : decode cX3_make 159 = .ok (.ireturn, 1) := by decide +kernel
theorem dX3_make_100 : decode cX3_make 100 = .ok (.iload 4, 2) := by decide +kernel
theorem dX3_make_102 : decode cX3_make 102 = .ok (.iload 5, 2) := by decide +kernel
theorem dX3_make_104 : decode cX3_make 104 = .ok (.iadd, 1) := by decide +kernel
theorem dX3_make_105 : decode cX3_make 105 = .ok (.aload_n 0, 1) := by decide +kernel
theorem dX3_make_106 : decode cX3_make 106 = .ok (.getfield 21, 3) := by decide +kernel
theorem dX3_make_109 : decode cX3_make 109 = .ok (.arraylength, 1) := by decide +kernel
theorem dX3_make_110 : decode cX3_make 110 = .ok (.if_icmp .ge 20, 3) := by decide +kernel
theorem dX3_make_113 : decode cX3_make 113 = .ok (.aload_n 0, 1) := by decide +kernel
theorem dX3_make_114 : decode cX3_make 114 = .ok (.getfield 21, 3) := by decide +kernel
theorem dX3_make_117 : decode cX3_make 117 = .ok (.iload 4, 2) := by decide +kernel
theorem dX3_make_119 : decode cX3_make 119 = .ok (.iload 5, 2) := by decide +kernel
theorem dX3_make_121 : decode cX3_make 121 = .ok (.iadd, 1) := by decide +kernel
theorem dX3_make_122 : decode cX3_make 122 = .ok (.iload_n 3, 1) := by decide +kernel
theorem dX3_make_123 : decode cX3_make 123 = .ok (.iastore, 1) := by decide +kernel
theorem dX8_sameName_0 : decode cX8_sameName 0 = .ok (.aload_n 0, 1) := by decide +kernel
theorem dX8_sameName_1 : decode cX8_sameName 1 = .ok (.getfield 49, 3) := by decide +kernel
theorem dX8_sameName_4 : decode cX8_sameName 4 = .ok (.iload_n 1, 1) := by decide +kernel
theorem dX8_sameName_5 : decode cX8_sameName 5 = .ok (.invokestatic 70, 3) := by decide +kernel
theorem dX8_sameName_8 : decode cX8_sameName 8 = .ok (.istore_n 3, 1) := by decide +kernel
theorem dX8_sameName_9 : decode cX8_sameName 9 = .ok (.iload_n 3, 1) := by decide +kernel
theorem dX8_sameName_10 : decode cX8_sameName 10 = .ok (.aload_n 0, 1) := by decide +kernel
theorem dX8_sameName_11 : decode cX8_sameName 11 = .ok (.getfield 49, 3) := by decide +kernel
theorem dX8_sameName_14 : decode cX8_sameName 14 = .ok (.iload_n 2, 1) := by decide +kernel
theorem dX8_sameName_15 : decode cX8_sameName 15 = .ok (.invokestatic 70, 3) := by decide +kernel
theorem dX8_sameName_18 : decode cX8_sameName 18 = .ok (.if_icmp .ne 30, 3) := by decide +kernel
theorem dX8_sameName_49 : decode cX8_sameName 49 = .ok (.ireturn, 1) := by decide +kernel
theorem dX8_sameName_48 : decode cX8_sameName 48 = .ok (.iconst 0, 1) := by decide +kernel
theorem dX8_sameName_21 : decode cX8_sameName 21 = .ok (.aload_n 0, 1) := by decide +kernel
theorem dX8_sameName_22 : decode cX8_sameName 22 = .ok (.getfield 46, 3) := by decide +kernel
theorem dX8_sameName_25 : decode cX8_sameName 25 = .ok (.iload_n 1, 1) := by decide +kernel
theorem dX8_sameName_26 : decode cX8_sameName 26 = .ok (.bipush 16, 2) := by decide +kernel
theorem dX8_sameName_28 : decode cX8_sameName 28 = .ok (.imul, 1) := by decide +kernel
theorem dX8_sameName_29 : decode cX8_sameName 29 = .ok (.aload_n 0, 1) := by decide +kernel
theorem dX8_sameName_30 : decode cX8_sameName 30 = .ok (.getfield 46, 3) := by decide +kernel
theorem dX8_sameName_33 : decode cX8_sameName 33 = .ok (.iload_n 2, 1) := by decide +kernel
theorem dX8_sameName_34 : decode cX8_sameName 34 = .ok (.bipush 16, 2) := by decide +kernel
theorem dX8_sameName_36 : decode cX8_sameName 36 = .ok (.imul, 1) := by decide +kernel
theorem dX8_sameName_37 : decode cX8_sameName 37 = .ok (.iload_n 3, 1) := by decide +kernel
theorem dX8_sameName_38 : decode cX8_sameName 38 = .ok (.invokestatic 74, 3) := by decide +kernel
theorem dX8_sameName_41 : decode cX8_sameName 41 = .ok (.ifCond .eq 7, 3) := by decide +kernel
theorem dX8_sameName_44 : decode cX8_sameName 44 = .ok (.iconst 1, 1) := by decide +kernel
theorem dX8_sameName_45 : decode cX8_sameName 45 = .ok (.goto 4, 3) := by decide +kernel
theorem dX8_isLater_0 : decode cX8_isLater 0 = .ok (.iconst 0, 1) := by decide +kernel
theorem dX8_isLater_1 : decode cX8_isLater 1 = .ok (.istore_n 2, 1) := by decide +kernel
theorem dX8_isLater_2 : decode cX8_isLater 2 = .ok (.iload_n 2, 1) := by decide +kernel
theorem dX8_isLater_3 : decode cX8_isLater 3 = .ok (.iload_n 1, 1) := by decide +kernel
theorem dX8_isLater_4 : decode cX8_isLater 4 = .ok (.if_icmp .ge 20, 3) := by decide +kernel
theorem dX8_isLater_24 : decode cX8_isLater 24 = .ok (.iconst 0, 1) := by decide +kernel
theorem dX8_isLater_25 : decode cX8_isLater 25 = .ok (.ireturn, 1) := by decide +kernel
theorem dX8_isLater_7 : decode cX8_isLater 7 = .ok (.aload_n 0, 1) := by decide +kernel
theorem dX8_isLater_8 : decode cX8_isLater 8 = .ok (.iload_n 1, 1) := by decide +kernel
theorem dX8_isLater_9 : decode cX8_isLater 9 = .ok (.iload_n 2, 1) := by decide +kernel
theorem dX8_isLater_10 : decode cX8_isLater 10 = .ok (.invokevirtual 78, 3) := by decide +kernel
theorem dX8_isLater_13 : decode cX8_isLater 13 = .ok (.ifCond .eq 5, 3) := by decide +kernel
theorem dX8_isLater_18 : decode cX8_isLater 18 = .ok (.iinc 2 1, 3) := by decide +kernel
theorem dX8_isLater_21 : decode cX8_isLater 21 = .ok (.goto (-19), 3) := by decide +kernel
theorem dX8_isLater_16 : decode cX8_isLater 16 = .ok (.iconst 1, 1) := by decide +kernel
theorem dX8_isLater_17 : decode cX8_isLater 17 = .ok (.ireturn, 1) := by decide +kernel
theorem dX3_isHouse_0 : decode cX3_isHouse 0 = .ok (.iload_n 1, 1) := by decide +kernel
theorem dX3_isHouse_1 : decode cX3_isHouse 1 = .ok (.ifCond .lt 43, 3) := by decide +kernel
theorem dX3_isHouse_45 : decode cX3_isHouse 45 = .ok (.ireturn, 1) := by decide +kernel
theorem dX3_isHouse_44 : decode cX3_isHouse 44 = .ok (.iconst 0, 1) := by decide +kernel
theorem dX3_isHouse_4 : decode cX3_isHouse 4 = .ok (.iload_n 1, 1) := by decide +kernel
theorem dX3_isHouse_5 : decode cX3_isHouse 5 = .ok (.aload_n 0, 1) := by decide +kernel
theorem dX3_isHouse_6 : decode cX3_isHouse 6 = .ok (.getfield 67, 3) := by decide +kernel
theorem dX3_isHouse_9 : decode cX3_isHouse 9 = .ok (.getfield 111, 3) := by decide +kernel
theorem dX3_isHouse_12 : decode cX3_isHouse 12 = .ok (.if_icmp .ge 32, 3) := by decide +kernel
theorem dX3_isHouse_15 : decode cX3_isHouse 15 = .ok (.iload_n 1, 1) := by decide +kernel
theorem dX3_isHouse_16 : decode cX3_isHouse 16 = .ok (.aload_n 0, 1) := by decide +kernel
theorem dX3_isHouse_17 : decode cX3_isHouse 17 = .ok (.getfield 67, 3) := by decide +kernel
theorem dX3_isHouse_20 : decode cX3_isHouse 20 = .ok (.getfield 116, 3) := by decide +kernel
theorem dX3_isHouse_23 : decode cX3_isHouse 23 = .ok (.arraylength, 1) := by decide +kernel
theorem dX3_isHouse_24 : decode cX3_isHouse 24 = .ok (.if_icmp .ge 20, 3) := by decide +kernel
theorem dX3_isHouse_27 : decode cX3_isHouse 27 = .ok (.aload_n 0, 1) := by decide +kernel
theorem dX3_isHouse_28 : decode cX3_isHouse 28 = .ok (.getfield 67, 3) := by decide +kernel
theorem dX3_isHouse_31 : decode cX3_isHouse 31 = .ok (.getfield 116, 3) := by decide +kernel
theorem dX3_isHouse_34 : decode cX3_isHouse 34 = .ok (.iload_n 1, 1) := by decide +kernel
theorem dX3_isHouse_35 : decode cX3_isHouse 35 = .ok (.iaload, 1) := by decide +kernel
theorem dX3_isHouse_36 : decode cX3_isHouse 36 = .ok (.iload_n 2, 1) := by decide +kernel
theorem dX3_isHouse_37 : decode cX3_isHouse 37 = .ok (.if_icmp .ne 7, 3) := by decide +kernel
theorem dX3_isHouse_40 : decode cX3_isHouse 40 = .ok (.iconst 1, 1) := by decide +kernel
theorem dX3_isHouse_41 : decode cX3_isHouse 41 = .ok (.goto 4, 3) := by decide +kernel
theorem dX3_sortOf_0 : decode cX3_sortOf 0 = .ok (.iload_n 0, 1) := by decide +kernel
theorem dX3_sortOf_1 : decode cX3_sortOf 1 = .ok (.ifCond .ge 7, 3) := by decide +kernel
theorem dX3_sortOf_12 : decode cX3_sortOf 12 = .ok (.ireturn, 1) := by decide +kernel
theorem dX3_sortOf_8 : decode cX3_sortOf 8 = .ok (.iload_n 0, 1) := by decide +kernel
theorem dX3_sortOf_9 : decode cX3_sortOf 9 = .ok (.ldc 110, 2) := by decide +kernel
theorem dX3_sortOf_11 : decode cX3_sortOf 11 = .ok (.iand, 1) := by decide +kernel
theorem dX3_sortOf_4 : decode cX3_sortOf 4 = .ok (.iload_n 0, 1) := by decide +kernel
theorem dX3_sortOf_5 : decode cX3_sortOf 5 = .ok (.goto 7, 3) := by decide +kernel
theorem dX3_isMany_0 : decode cX3_isMany 0 = .ok (.iload_n 1, 1) := by decide +kernel
theorem dX3_isMany_1 : decode cX3_isMany 1 = .ok (.ifCond .lt 26, 3) := by decide +kernel
theorem dX3_isMany_27 : decode cX3_isMany 27 = .ok (.iload_n 1, 1) := by decide +kernel
theorem dX3_isMany_28 : decode cX3_isMany 28 = .ok (.ifCond .lt 16, 3) := by decide +kernel
theorem dX3_isMany_45 : decode cX3_isMany 45 = .ok (.ireturn, 1) := by decide +kernel
theorem dX3_isMany_44 : decode cX3_isMany 44 = .ok (.iconst 0, 1) := by decide +kernel
theorem dX3_isMany_31 : decode cX3_isMany 31 = .ok (.iload_n 1, 1) := by decide +kernel
theorem dX3_isMany_32 : decode cX3_isMany 32 = .ok (.ldc 110, 2) := by decide +kernel
theorem dX3_isMany_34 : decode cX3_isMany 34 = .ok (.iand, 1) := by decide +kernel
theorem dX3_isMany_35 : decode cX3_isMany 35 = .ok (.ldc 91, 2) := by decide +kernel
theorem dX3_isMany_37 : decode cX3_isMany 37 = .ok (.if_icmp .ne 7, 3) := by decide +kernel
theorem dX3_isMany_40 : decode cX3_isMany 40 = .ok (.iconst 1, 1) := by decide +kernel
theorem dX3_isMany_41 : decode cX3_isMany 41 = .ok (.goto 4, 3) := by decide +kernel
theorem dX3_isMany_4 : decode cX3_isMany 4 = .ok (.iload_n 1, 1) := by decide +kernel
theorem dX3_isMany_5 : decode cX3_isMany 5 = .ok (.aload_n 0, 1) := by decide +kernel
theorem dX3_isMany_6 : decode cX3_isMany 6 = .ok (.getfield 67, 3) := by decide +kernel
theorem dX3_isMany_9 : decode cX3_isMany 9 = .ok (.getfield 111, 3) := by decide +kernel
theorem dX3_isMany_12 : decode cX3_isMany 12 = .ok (.if_icmp .ge 15, 3) := by decide +kernel
theorem dX3_isMany_15 : decode cX3_isMany 15 = .ok (.iload_n 1, 1) := by decide +kernel
theorem dX3_isMany_16 : decode cX3_isMany 16 = .ok (.aload_n 0, 1) := by decide +kernel
theorem dX3_isMany_17 : decode cX3_isMany 17 = .ok (.getfield 67, 3) := by decide +kernel
theorem dX3_isMany_20 : decode cX3_isMany 20 = .ok (.getfield 116, 3) := by decide +kernel
theorem dX3_isMany_23 : decode cX3_isMany 23 = .ok (.arraylength, 1) := by decide +kernel
theorem dX3_isMany_24 : decode cX3_isMany 24 = .ok (.if_icmp .lt 22, 3) := by decide +kernel
theorem dX3_isMany_46 : decode cX3_isMany 46 = .ok (.aload_n 0, 1) := by decide +kernel
theorem dX3_isMany_47 : decode cX3_isMany 47 = .ok (.getfield 67, 3) := by decide +kernel
theorem dX3_isMany_50 : decode cX3_isMany 50 = .ok (.getfield 116, 3) := by decide +kernel
theorem dX3_isMany_53 : decode cX3_isMany 53 = .ok (.iload_n 1, 1) := by decide +kernel
theorem dX3_isMany_54 : decode cX3_isMany 54 = .ok (.iaload, 1) := by decide +kernel
theorem dX3_isMany_55 : decode cX3_isMany 55 = .ok (.iconst 3, 1) := by decide +kernel
theorem dX3_isMany_56 : decode cX3_isMany 56 = .ok (.if_icmp .eq 16, 3) := by decide +kernel
theorem dX3_isMany_77 : decode cX3_isMany 77 = .ok (.ireturn, 1) := by decide +kernel
theorem dX3_isMany_72 : decode cX3_isMany 72 = .ok (.iconst 1, 1) := by decide +kernel
theorem dX3_isMany_73 : decode cX3_isMany 73 = .ok (.goto 4, 3) := by decide +kernel
theorem dX3_isMany_59 : decode cX3_isMany 59 = .ok (.aload_n 0, 1) := by decide +kernel
theorem dX3_isMany_60 : decode cX3_isMany 60 = .ok (.getfield 67, 3) := by decide +kernel
theorem dX3_isMany_63 : decode cX3_isMany 63 = .ok (.getfield 116, 3) := by decide +kernel
theorem dX3_isMany_66 : decode cX3_isMany 66 = .ok (.iload_n 1, 1) := by decide +kernel
theorem dX3_isMany_67 : decode cX3_isMany 67 = .ok (.iaload, 1) := by decide +kernel
theorem dX3_isMany_68 : decode cX3_isMany 68 = .ok (.iconst 4, 1) := by decide +kernel
theorem dX3_isMany_69 : decode cX3_isMany 69 = .ok (.if_icmp .ne 7, 3) := by decide +kernel
theorem dX3_isMany_76 : decode cX3_isMany 76 = .ok (.iconst 0, 1) := by decide +kernel
theorem dX3_countOf_0 : decode cX3_countOf 0 = .ok (.iload_n 1, 1) := by decide +kernel
theorem dX3_countOf_1 : decode cX3_countOf 1 = .ok (.ifCond .ge 5, 3) := by decide +kernel
theorem dX3_countOf_6 : decode cX3_countOf 6 = .ok (.iload_n 1, 1) := by decide +kernel
theorem dX3_countOf_7 : decode cX3_countOf 7 = .ok (.invokestatic 119, 3) := by decide +kernel
theorem dX3_countOf_10 : decode cX3_countOf 10 = .ok (.ldc 91, 2) := by decide +kernel
theorem dX3_countOf_12 : decode cX3_countOf 12 = .ok (.if_icmp .ne 25, 3) := by decide +kernel
theorem dX3_countOf_37 : decode cX3_countOf 37 = .ok (.aload_n 0, 1) := by decide +kernel
theorem dX3_countOf_38 : decode cX3_countOf 38 = .ok (.iload_n 1, 1) := by decide +kernel
theorem dX3_countOf_39 : decode cX3_countOf 39 = .ok (.invokevirtual 126, 3) := by decide +kernel
theorem dX3_countOf_42 : decode cX3_countOf 42 = .ok (.ifCond .eq 17, 3) := by decide +kernel
theorem dX3_countOf_60 : decode cX3_countOf 60 = .ok (.ireturn, 1) := by decide +kernel
theorem dX3_countOf_59 : decode cX3_countOf 59 = .ok (.iconst 1, 1) := by decide +kernel
theorem dX3_countOf_45 : decode cX3_countOf 45 = .ok (.aload_n 0, 1) := by decide +kernel
theorem dX3_countOf_46 : decode cX3_countOf 46 = .ok (.getfield 67, 3) := by decide +kernel
theorem dX3_countOf_49 : decode cX3_countOf 49 = .ok (.getfield 130, 3) := by decide +kernel
theorem dX3_countOf_52 : decode cX3_countOf 52 = .ok (.iload_n 1, 1) := by decide +kernel
theorem dX3_countOf_53 : decode cX3_countOf 53 = .ok (.invokestatic 122, 3) := by decide +kernel
theorem dX3_countOf_56 : decode cX3_countOf 56 = .ok (.goto 4, 3) := by decide +kernel
theorem dX3_countOf_15 : decode cX3_countOf 15 = .ok (.iload_n 1, 1) := by decide +kernel
theorem dX3_countOf_16 : decode cX3_countOf 16 = .ok (.ldc 91, 2) := by decide +kernel
theorem dX3_countOf_18 : decode cX3_countOf 18 = .ok (.if_icmp .ne 7, 3) := by decide +kernel
theorem dX3_countOf_36 : decode cX3_countOf 36 = .ok (.ireturn, 1) := by decide +kernel
theorem dX3_countOf_25 : decode cX3_countOf 25 = .ok (.aload_n 0, 1) := by decide +kernel
theorem dX3_countOf_26 : decode cX3_countOf 26 = .ok (.getfield 29, 3) := by decide +kernel
theorem dX3_countOf_29 : decode cX3_countOf 29 = .ok (.iload_n 1, 1) := by decide +kernel
theorem dX3_countOf_30 : decode cX3_countOf 30 = .ok (.ldc 100, 2) := by decide +kernel
theorem dX3_countOf_32 : decode cX3_countOf 32 = .ok (.iand, 1) := by decide +kernel
theorem dX3_countOf_33 : decode cX3_countOf 33 = .ok (.invokestatic 122, 3) := by decide +kernel
theorem dX3_countOf_21 : decode cX3_countOf 21 = .ok (.iconst 0, 1) := by decide +kernel
theorem dX3_countOf_22 : decode cX3_countOf 22 = .ok (.goto 14, 3) := by decide +kernel
theorem dX3_countOf_4 : decode cX3_countOf 4 = .ok (.iconst 0, 1) := by decide +kernel
theorem dX3_countOf_5 : decode cX3_countOf 5 = .ok (.ireturn, 1) := by decide +kernel
theorem dX3_counted_0 : decode cX3_counted 0 = .ok (.aload_n 0, 1) := by decide +kernel
theorem dX3_counted_1 : decode cX3_counted 1 = .ok (.getfield 35, 3) := by decide +kernel
theorem dX3_counted_4 : decode cX3_counted 4 = .ok (.iload_n 1, 1) := by decide +kernel
theorem dX3_counted_5 : decode cX3_counted 5 = .ok (.iadd, 1) := by decide +kernel
theorem dX3_counted_6 : decode cX3_counted 6 = .ok (.sipush 20000, 3) := by decide +kernel
theorem dX3_counted_9 : decode cX3_counted 9 = .ok (.if_icmp .le 11, 3) := by decide +kernel
theorem dX3_counted_20 : decode cX3_counted 20 = .ok (.aload_n 0, 1) := by decide +kernel
theorem dX3_counted_21 : decode cX3_counted 21 = .ok (.dup, 1) := by decide +kernel
theorem dX3_counted_22 : decode cX3_counted 22 = .ok (.getfield 35, 3) := by decide +kernel
theorem dX3_counted_25 : decode cX3_counted 25 = .ok (.iload_n 1, 1) := by decide +kernel
theorem dX3_counted_26 : decode cX3_counted 26 = .ok (.iadd, 1) := by decide +kernel
theorem dX3_counted_27 : decode cX3_counted 27 = .ok (.putfield 35, 3) := by decide +kernel
theorem dX3_counted_30 : decode cX3_counted 30 = .ok (.return_, 1) := by decide +kernel
theorem dX3_counted_12 : decode cX3_counted 12 = .ok (.new 79, 3) := by decide +kernel
theorem dX3_counted_15 : decode cX3_counted 15 = .ok (.dup, 1) := by decide +kernel
theorem dX3_counted_16 : decode cX3_counted 16 = .ok (.invokespecial 81, 3) := by decide +kernel
theorem dX3_counted_19 : decode cX3_counted 19 = .ok (.athrow, 1) := by decide +kernel
theorem dX3_room_0 : decode cX3_room 0 = .ok (.iload_n 1, 1) := by decide +kernel
theorem dX3_room_1 : decode cX3_room 1 = .ok (.ifCond .gt 6, 3) := by decide +kernel
theorem dX3_room_7 : decode cX3_room 7 = .ok (.aload_n 0, 1) := by decide +kernel
theorem dX3_room_8 : decode cX3_room 8 = .ok (.getfield 32, 3) := by decide +kernel
theorem dX3_room_11 : decode cX3_room 11 = .ok (.istore_n 2, 1) := by decide +kernel
theorem dX3_room_12 : decode cX3_room 12 = .ok (.iload_n 2, 1) := by decide +kernel
theorem dX3_room_13 : decode cX3_room 13 = .ok (.ifCond .lt 14, 3) := by decide +kernel
theorem dX3_room_27 : decode cX3_room 27 = .ok (.new 79, 3) := by decide +kernel
theorem dX3_room_30 : decode cX3_room 30 = .ok (.dup, 1) := by decide +kernel
theorem dX3_room_31 : decode cX3_room 31 = .ok (.invokespecial 81, 3) := by decide +kernel
theorem dX3_room_34 : decode cX3_room 34 = .ok (.athrow, 1) := by decide +kernel
theorem dX3_room_16 : decode cX3_room 16 = .ok (.iload_n 2, 1) := by decide +kernel
theorem dX3_room_17 : decode cX3_room 17 = .ok (.aload_n 0, 1) := by decide +kernel
theorem dX3_room_18 : decode cX3_room 18 = .ok (.getfield 29, 3) := by decide +kernel
theorem dX3_room_21 : decode cX3_room 21 = .ok (.arraylength, 1) := by decide +kernel
theorem dX3_room_22 : decode cX3_room 22 = .ok (.iload_n 1, 1) := by decide +kernel
theorem dX3_room_23 : decode cX3_room 23 = .ok (.isub, 1) := by decide +kernel
theorem dX3_room_24 : decode cX3_room 24 = .ok (.if_icmp .lt 11, 3) := by decide +kernel
theorem dX3_room_35 : decode cX3_room 35 = .ok (.aload_n 0, 1) := by decide +kernel
theorem dX3_room_36 : decode cX3_room 36 = .ok (.getfield 29, 3) := by decide +kernel
theorem dX3_room_39 : decode cX3_room 39 = .ok (.iload_n 2, 1) := by decide +kernel
theorem dX3_room_40 : decode cX3_room 40 = .ok (.iload_n 1, 1) := by decide +kernel
theorem dX3_room_41 : decode cX3_room 41 = .ok (.iastore, 1) := by decide +kernel
theorem dX3_room_42 : decode cX3_room 42 = .ok (.aload_n 0, 1) := by decide +kernel
theorem dX3_room_43 : decode cX3_room 43 = .ok (.dup, 1) := by decide +kernel
theorem dX3_room_44 : decode cX3_room 44 = .ok (.getfield 32, 3) := by decide +kernel
theorem dX3_room_47 : decode cX3_room 47 = .ok (.iload_n 1, 1) := by decide +kernel
theorem dX3_room_48 : decode cX3_room 48 = .ok (.iconst 1, 1) := by decide +kernel
theorem dX3_room_49 : decode cX3_room 49 = .ok (.iadd, 1) := by decide +kernel
theorem dX3_room_50 : decode cX3_room 50 = .ok (.iadd, 1) := by decide +kernel
theorem dX3_room_51 : decode cX3_room 51 = .ok (.putfield 32, 3) := by decide +kernel
theorem dX3_room_54 : decode cX3_room 54 = .ok (.ldc 91, 2) := by decide +kernel
theorem dX3_room_56 : decode cX3_room 56 = .ok (.iload_n 2, 1) := by decide +kernel
theorem dX3_room_57 : decode cX3_room 57 = .ok (.ior, 1) := by decide +kernel
theorem dX3_room_58 : decode cX3_room 58 = .ok (.ireturn, 1) := by decide +kernel
theorem dX3_room_4 : decode cX3_room 4 = .ok (.ldc 91, 2) := by decide +kernel
theorem dX3_room_6 : decode cX3_room 6 = .ok (.ireturn, 1) := by decide +kernel
theorem dX3_newRow_0 : decode cX3_newRow 0 = .ok (.aload_n 0, 1) := by decide +kernel
theorem dX3_newRow_1 : decode cX3_newRow 1 = .ok (.iload_n 1, 1) := by decide +kernel
theorem dX3_newRow_2 : decode cX3_newRow 2 = .ok (.invokevirtual 92, 3) := by decide +kernel
theorem dX3_newRow_5 : decode cX3_newRow 5 = .ok (.aload_n 0, 1) := by decide +kernel
theorem dX3_newRow_6 : decode cX3_newRow 6 = .ok (.iload_n 1, 1) := by decide +kernel
theorem dX3_newRow_7 : decode cX3_newRow 7 = .ok (.invokevirtual 96, 3) := by decide +kernel
theorem dX3_newRow_10 : decode cX3_newRow 10 = .ok (.ireturn, 1) := by decide +kernel
theorem dX3_valueOf_0 : decode cX3_valueOf 0 = .ok (.iload_n 1, 1) := by decide +kernel
theorem dX3_valueOf_1 : decode cX3_valueOf 1 = .ok (.invokestatic 119, 3) := by decide +kernel
theorem dX3_valueOf_4 : decode cX3_valueOf 4 = .ok (.ldc 91, 2) := by decide +kernel
theorem dX3_valueOf_6 : decode cX3_valueOf 6 = .ok (.if_icmp .ne 19, 3) := by decide +kernel
theorem dX3_valueOf_25 : decode cX3_valueOf 25 = .ok (.aload_n 0, 1) := by decide +kernel
theorem dX3_valueOf_26 : decode cX3_valueOf 26 = .ok (.iload_n 1, 1) := by decide +kernel
theorem dX3_valueOf_27 : decode cX3_valueOf 27 = .ok (.invokevirtual 126, 3) := by decide +kernel
theorem dX3_valueOf_30 : decode cX3_valueOf 30 = .ok (.ifCond .eq 22, 3) := by decide +kernel
theorem dX3_valueOf_53 : decode cX3_valueOf 53 = .ok (.ireturn, 1) := by decide +kernel
theorem dX3_valueOf_52 : decode cX3_valueOf 52 = .ok (.iload_n 1, 1) := by decide +kernel
theorem dX3_valueOf_33 : decode cX3_valueOf 33 = .ok (.aload_n 0, 1) := by decide +kernel
theorem dX3_valueOf_34 : decode cX3_valueOf 34 = .ok (.getfield 67, 3) := by decide +kernel
theorem dX3_valueOf_37 : decode cX3_valueOf 37 = .ok (.getfield 133, 3) := by decide +kernel
theorem dX3_valueOf_40 : decode cX3_valueOf 40 = .ok (.iload_n 1, 1) := by decide +kernel
theorem dX3_valueOf_41 : decode cX3_valueOf 41 = .ok (.bipush 100, 2) := by decide +kernel
theorem dX3_valueOf_43 : decode cX3_valueOf 43 = .ok (.imul, 1) := by decide +kernel
theorem dX3_valueOf_44 : decode cX3_valueOf 44 = .ok (.iload_n 2, 1) := by decide +kernel
theorem dX3_valueOf_45 : decode cX3_valueOf 45 = .ok (.iadd, 1) := by decide +kernel
theorem dX3_valueOf_46 : decode cX3_valueOf 46 = .ok (.invokestatic 122, 3) := by decide +kernel
theorem dX3_valueOf_49 : decode cX3_valueOf 49 = .ok (.goto 4, 3) := by decide +kernel
theorem dX3_valueOf_9 : decode cX3_valueOf 9 = .ok (.aload_n 0, 1) := by decide +kernel
theorem dX3_valueOf_10 : decode cX3_valueOf 10 = .ok (.getfield 29, 3) := by decide +kernel
theorem dX3_valueOf_13 : decode cX3_valueOf 13 = .ok (.iload_n 1, 1) := by decide +kernel
theorem dX3_valueOf_14 : decode cX3_valueOf 14 = .ok (.ldc 100, 2) := by decide +kernel
theorem dX3_valueOf_16 : decode cX3_valueOf 16 = .ok (.iand, 1) := by decide +kernel
theorem dX3_valueOf_17 : decode cX3_valueOf 17 = .ok (.iconst 1, 1) := by decide +kernel
theorem dX3_valueOf_18 : decode cX3_valueOf 18 = .ok (.iadd, 1) := by decide +kernel
theorem dX3_valueOf_19 : decode cX3_valueOf 19 = .ok (.iload_n 2, 1) := by decide +kernel
theorem dX3_valueOf_20 : decode cX3_valueOf 20 = .ok (.iadd, 1) := by decide +kernel
theorem dX3_valueOf_21 : decode cX3_valueOf 21 = .ok (.invokestatic 122, 3) := by decide +kernel
theorem dX3_valueOf_24 : decode cX3_valueOf 24 = .ok (.ireturn, 1) := by decide +kernel
theorem dX3_put_0 : decode cX3_put 0 = .ok (.aload_n 0, 1) := by decide +kernel
theorem dX3_put_1 : decode cX3_put 1 = .ok (.getfield 29, 3) := by decide +kernel
theorem dX3_put_4 : decode cX3_put 4 = .ok (.iload_n 1, 1) := by decide +kernel
theorem dX3_put_5 : decode cX3_put 5 = .ok (.ldc 100, 2) := by decide +kernel
theorem dX3_put_7 : decode cX3_put 7 = .ok (.iand, 1) := by decide +kernel
theorem dX3_put_8 : decode cX3_put 8 = .ok (.iconst 1, 1) := by decide +kernel
theorem dX3_put_9 : decode cX3_put 9 = .ok (.iadd, 1) := by decide +kernel
theorem dX3_put_10 : decode cX3_put 10 = .ok (.iload_n 2, 1) := by decide +kernel
theorem dX3_put_11 : decode cX3_put 11 = .ok (.iadd, 1) := by decide +kernel
theorem dX3_put_12 : decode cX3_put 12 = .ok (.iload_n 3, 1) := by decide +kernel
theorem dX3_put_13 : decode cX3_put 13 = .ok (.invokestatic 87, 3) := by decide +kernel
theorem dX3_put_16 : decode cX3_put 16 = .ok (.return_, 1) := by decide +kernel
theorem dX5_spread_0 : decode cX5_spread 0 = .ok (.iload_n 2, 1) := by decide +kernel
theorem dX5_spread_1 : decode cX5_spread 1 = .ok (.istore 6, 2) := by decide +kernel
theorem dX5_spread_3 : decode cX5_spread 3 = .ok (.iload 4, 2) := by decide +kernel
theorem dX5_spread_5 : decode cX5_spread 5 = .ok (.ifCond .eq 14, 3) := by decide +kernel
theorem dX5_spread_20 : decode cX5_spread 20 = .ok (.istore 7, 2) := by decide +kernel
theorem dX5_spread_22 : decode cX5_spread 22 = .ok (.iconst 0, 1) := by decide +kernel
theorem dX5_spread_23 : decode cX5_spread 23 = .ok (.istore 8, 2) := by decide +kernel
theorem dX5_spread_25 : decode cX5_spread 25 = .ok (.iload 8, 2) := by decide +kernel
theorem dX5_spread_27 : decode cX5_spread 27 = .ok (.iload 7, 2) := by decide +kernel
theorem dX5_spread_29 : decode cX5_spread 29 = .ok (.if_icmp .ge 48, 3) := by decide +kernel
theorem dX5_spread_77 : decode cX5_spread 77 = .ok (.iload 6, 2) := by decide +kernel
theorem dX5_spread_79 : decode cX5_spread 79 = .ok (.ireturn, 1) := by decide +kernel
theorem dX5_spread_32 : decode cX5_spread 32 = .ok (.iload 6, 2) := by decide +kernel
theorem dX5_spread_34 : decode cX5_spread 34 = .ok (.iload 5, 2) := by decide +kernel
theorem dX5_spread_36 : decode cX5_spread 36 = .ok (.if_icmp .ge 41, 3) := by decide +kernel
theorem dX5_spread_39 : decode cX5_spread 39 = .ok (.aload_n 0, 1) := by decide +kernel
theorem dX5_spread_40 : decode cX5_spread 40 = .ok (.getfield 83, 3) := by decide +kernel
theorem dX5_spread_43 : decode cX5_spread 43 = .ok (.iload_n 1, 1) := by decide +kernel
theorem dX5_spread_44 : decode cX5_spread 44 = .ok (.iload 6, 2) := by decide +kernel
theorem dX5_spread_46 : decode cX5_spread 46 = .ok (.iload 4, 2) := by decide +kernel
theorem dX5_spread_48 : decode cX5_spread 48 = .ok (.ifCond .eq 16, 3) := by decide +kernel
theorem dX5_spread_65 : decode cX5_spread 65 = .ok (.invokevirtual 233, 3) := by decide +kernel
theorem dX5_spread_68 : decode cX5_spread 68 = .ok (.iinc 6 1, 3) := by decide +kernel
theorem dX5_spread_71 : decode cX5_spread 71 = .ok (.iinc 8 1, 3) := by decide +kernel
theorem dX5_spread_74 : decode cX5_spread 74 = .ok (.goto (-49), 3) := by decide +kernel
theorem dX5_spread_64 : decode cX5_spread 64 = .ok (.iload_n 3, 1) := by decide +kernel
theorem dX5_spread_51 : decode cX5_spread 51 = .ok (.aload_n 0, 1) := by decide +kernel
theorem dX5_spread_52 : decode cX5_spread 52 = .ok (.getfield 83, 3) := by decide +kernel
theorem dX5_spread_55 : decode cX5_spread 55 = .ok (.iload_n 3, 1) := by decide +kernel
theorem dX5_spread_56 : decode cX5_spread 56 = .ok (.iload 8, 2) := by decide +kernel
theorem dX5_spread_58 : decode cX5_spread 58 = .ok (.invokevirtual 230, 3) := by decide +kernel
theorem dX5_spread_61 : decode cX5_spread 61 = .ok (.goto 4, 3) := by decide +kernel
theorem dX5_spread_19 : decode cX5_spread 19 = .ok (.iconst 1, 1) := by decide +kernel
theorem dX5_spread_8 : decode cX5_spread 8 = .ok (.aload_n 0, 1) := by decide +kernel
theorem dX5_spread_9 : decode cX5_spread 9 = .ok (.getfield 83, 3) := by decide +kernel
theorem dX5_spread_12 : decode cX5_spread 12 = .ok (.iload_n 3, 1) := by decide +kernel
theorem dX5_spread_13 : decode cX5_spread 13 = .ok (.invokevirtual 220, 3) := by decide +kernel
theorem dX5_spread_16 : decode cX5_spread 16 = .ok (.goto 4, 3) := by decide +kernel
theorem dX5_valueAdded_0 : decode cX5_valueAdded 0 = .ok (.aload_n 0, 1) := by decide +kernel
theorem dX5_valueAdded_1 : decode cX5_valueAdded 1 = .ok (.getfield 83, 3) := by decide +kernel
theorem dX5_valueAdded_4 : decode cX5_valueAdded 4 = .ok (.getfield 147, 3) := by decide +kernel
theorem dX5_valueAdded_7 : decode cX5_valueAdded 7 = .ok (.astore_n 2, 1) := by decide +kernel
theorem dX5_valueAdded_8 : decode cX5_valueAdded 8 = .ok (.iconst 0, 1) := by decide +kernel
theorem dX5_valueAdded_9 : decode cX5_valueAdded 9 = .ok (.istore_n 3, 1) := by decide +kernel
theorem dX5_valueAdded_10 : decode cX5_valueAdded 10 = .ok (.iconst 0, 1) := by decide +kernel
theorem dX5_valueAdded_11 : decode cX5_valueAdded 11 = .ok (.istore 4, 2) := by decide +kernel
theorem dX5_valueAdded_13 : decode cX5_valueAdded 13 = .ok (.iload_n 1, 1) := by decide +kernel
theorem dX5_valueAdded_14 : decode cX5_valueAdded 14 = .ok (.istore 5, 2) := by decide +kernel
theorem dX5_valueAdded_16 : decode cX5_valueAdded 16 = .ok (.iload 5, 2) := by decide +kernel
theorem dX5_valueAdded_18 : decode cX5_valueAdded 18 = .ok (.aload_n 2, 1) := by decide +kernel
theorem dX5_valueAdded_19 : decode cX5_valueAdded 19 = .ok (.getfield 155, 3) := by decide +kernel
theorem dX5_valueAdded_22 : decode cX5_valueAdded 22 = .ok (.if_icmp .ge 64, 3) := by decide +kernel
theorem dX5_valueAdded_86 : decode cX5_valueAdded 86 = .ok (.iload_n 3, 1) := by decide +kernel
theorem dX5_valueAdded_87 : decode cX5_valueAdded 87 = .ok (.iconst 2, 1) := by decide +kernel
theorem dX5_valueAdded_88 : decode cX5_valueAdded 88 = .ok (.if_icmp .ge 12, 3) := by decide +kernel
theorem dX5_valueAdded_100 : decode cX5_valueAdded 100 = .ok (.aload_n 0, 1) := by decide +kernel
theorem dX5_valueAdded_101 : decode cX5_valueAdded 101 = .ok (.getfield 83, 3) := by decide +kernel
theorem dX5_valueAdded_104 : decode cX5_valueAdded 104 = .ok (.iload 4, 2) := by decide +kernel
theorem dX5_valueAdded_106 : decode cX5_valueAdded 106 = .ok (.invokevirtual 223, 3) := by decide +kernel
theorem dX5_valueAdded_109 : decode cX5_valueAdded 109 = .ok (.istore 5, 2) := by decide +kernel
theorem dX5_valueAdded_111 : decode cX5_valueAdded 111 = .ok (.iconst 0, 1) := by decide +kernel
theorem dX5_valueAdded_112 : decode cX5_valueAdded 112 = .ok (.istore 4, 2) := by decide +kernel
theorem dX5_valueAdded_114 : decode cX5_valueAdded 114 = .ok (.iload_n 1, 1) := by decide +kernel
theorem dX5_valueAdded_115 : decode cX5_valueAdded 115 = .ok (.istore 6, 2) := by decide +kernel
theorem dX5_valueAdded_117 : decode cX5_valueAdded 117 = .ok (.iload 6, 2) := by decide +kernel
theorem dX5_valueAdded_119 : decode cX5_valueAdded 119 = .ok (.aload_n 2, 1) := by decide +kernel
theorem dX5_valueAdded_120 : decode cX5_valueAdded 120 = .ok (.getfield 155, 3) := by decide +kernel
theorem dX5_valueAdded_123 : decode cX5_valueAdded 123 = .ok (.if_icmp .ge 55, 3) := by decide +kernel
theorem dX5_valueAdded_178 : decode cX5_valueAdded 178 = .ok (.iload 5, 2) := by decide +kernel
theorem dX5_valueAdded_180 : decode cX5_valueAdded 180 = .ok (.ireturn, 1) := by decide +kernel
theorem dX5_valueAdded_126 : decode cX5_valueAdded 126 = .ok (.aload_n 2, 1) := by decide +kernel
theorem dX5_valueAdded_127 : decode cX5_valueAdded 127 = .ok (.iload_n 1, 1) := by decide +kernel
theorem dX5_valueAdded_128 : decode cX5_valueAdded 128 = .ok (.iload 6, 2) := by decide +kernel
theorem dX5_valueAdded_130 : decode cX5_valueAdded 130 = .ok (.invokevirtual 210, 3) := by decide +kernel
theorem dX5_valueAdded_133 : decode cX5_valueAdded 133 = .ok (.ifCond .eq 39, 3) := by decide +kernel
theorem dX5_valueAdded_172 : decode cX5_valueAdded 172 = .ok (.iinc 6 1, 3) := by decide +kernel
theorem dX5_valueAdded_175 : decode cX5_valueAdded 175 = .ok (.goto (-58), 3) := by decide +kernel
theorem dX5_valueAdded_136 : decode cX5_valueAdded 136 = .ok (.aload_n 2, 1) := by decide +kernel
theorem dX5_valueAdded_137 : decode cX5_valueAdded 137 = .ok (.getfield 214, 3) := by decide +kernel
theorem dX5_valueAdded_140 : decode cX5_valueAdded 140 = .ok (.iload 6, 2) := by decide +kernel
theorem dX5_valueAdded_142 : decode cX5_valueAdded 142 = .ok (.invokestatic 113, 3) := by decide +kernel
theorem dX5_valueAdded_145 : decode cX5_valueAdded 145 = .ok (.istore 7, 2) := by decide +kernel
theorem dX5_valueAdded_147 : decode cX5_valueAdded 147 = .ok (.aload_n 0, 1) := by decide +kernel
theorem dX5_valueAdded_148 : decode cX5_valueAdded 148 = .ok (.iload 5, 2) := by decide +kernel
theorem dX5_valueAdded_150 : decode cX5_valueAdded 150 = .ok (.iload 4, 2) := by decide +kernel
theorem dX5_valueAdded_152 : decode cX5_valueAdded 152 = .ok (.iload 7, 2) := by decide +kernel
theorem dX5_valueAdded_154 : decode cX5_valueAdded 154 = .ok (.aload_n 0, 1) := by decide +kernel
theorem dX5_valueAdded_155 : decode cX5_valueAdded 155 = .ok (.getfield 83, 3) := by decide +kernel
theorem dX5_valueAdded_158 : decode cX5_valueAdded 158 = .ok (.iload 7, 2) := by decide +kernel
theorem dX5_valueAdded_160 : decode cX5_valueAdded 160 = .ok (.iconst 3, 1) := by decide +kernel
theorem dX5_valueAdded_161 : decode cX5_valueAdded 161 = .ok (.invokevirtual 217, 3) := by decide +kernel
theorem dX5_valueAdded_164 : decode cX5_valueAdded 164 = .ok (.sipush 4000, 3) := by decide +kernel
theorem dX5_valueAdded_167 : decode cX5_valueAdded 167 = .ok (.invokevirtual 226, 3) := by decide +kernel
theorem dX5_valueAdded_170 : decode cX5_valueAdded 170 = .ok (.istore 4, 2) := by decide +kernel
theorem dX5_valueAdded_91 : decode cX5_valueAdded 91 = .ok (.aload_n 2, 1) := by decide +kernel
theorem dX5_valueAdded_92 : decode cX5_valueAdded 92 = .ok (.getfield 214, 3) := by decide +kernel
theorem dX5_valueAdded_95 : decode cX5_valueAdded 95 = .ok (.iload_n 1, 1) := by decide +kernel
theorem dX5_valueAdded_96 : decode cX5_valueAdded 96 = .ok (.invokestatic 113, 3) := by decide +kernel
theorem dX5_valueAdded_99 : decode cX5_valueAdded 99 = .ok (.ireturn, 1) := by decide +kernel
theorem dX5_valueAdded_25 : decode cX5_valueAdded 25 = .ok (.aload_n 2, 1) := by decide +kernel
theorem dX5_valueAdded_26 : decode cX5_valueAdded 26 = .ok (.iload_n 1, 1) := by decide +kernel
theorem dX5_valueAdded_27 : decode cX5_valueAdded 27 = .ok (.iload 5, 2) := by decide +kernel
theorem dX5_valueAdded_29 : decode cX5_valueAdded 29 = .ok (.invokevirtual 210, 3) := by decide +kernel
theorem dX5_valueAdded_32 : decode cX5_valueAdded 32 = .ok (.ifCond .eq 48, 3) := by decide +kernel
theorem dX5_valueAdded_80 : decode cX5_valueAdded 80 = .ok (.iinc 5 1, 3) := by decide +kernel
theorem dX5_valueAdded_83 : decode cX5_valueAdded 83 = .ok (.goto (-67), 3) := by decide +kernel
theorem dX5_valueAdded_35 : decode cX5_valueAdded 35 = .ok (.aload_n 2, 1) := by decide +kernel
theorem dX5_valueAdded_36 : decode cX5_valueAdded 36 = .ok (.getfield 214, 3) := by decide +kernel
theorem dX5_valueAdded_39 : decode cX5_valueAdded 39 = .ok (.iload 5, 2) := by decide +kernel
theorem dX5_valueAdded_41 : decode cX5_valueAdded 41 = .ok (.invokestatic 113, 3) := by decide +kernel
theorem dX5_valueAdded_44 : decode cX5_valueAdded 44 = .ok (.istore 6, 2) := by decide +kernel
theorem dX5_valueAdded_46 : decode cX5_valueAdded 46 = .ok (.iinc 3 1, 3) := by decide +kernel
theorem dX5_valueAdded_49 : decode cX5_valueAdded 49 = .ok (.iload 4, 2) := by decide +kernel
theorem dX5_valueAdded_51 : decode cX5_valueAdded 51 = .ok (.aload_n 0, 1) := by decide +kernel
theorem dX5_valueAdded_52 : decode cX5_valueAdded 52 = .ok (.getfield 83, 3) := by decide +kernel
theorem dX5_valueAdded_55 : decode cX5_valueAdded 55 = .ok (.iload 6, 2) := by decide +kernel
theorem dX5_valueAdded_57 : decode cX5_valueAdded 57 = .ok (.iconst 3, 1) := by decide +kernel
theorem dX5_valueAdded_58 : decode cX5_valueAdded 58 = .ok (.invokevirtual 217, 3) := by decide +kernel
theorem dX5_valueAdded_61 : decode cX5_valueAdded 61 = .ok (.ifCond .eq 15, 3) := by decide +kernel
theorem dX5_valueAdded_77 : decode cX5_valueAdded 77 = .ok (.iadd, 1) := by decide +kernel
theorem dX5_valueAdded_78 : decode cX5_valueAdded 78 = .ok (.istore 4, 2) := by decide +kernel
theorem dX5_valueAdded_76 : decode cX5_valueAdded 76 = .ok (.iconst 1, 1) := by decide +kernel
theorem dX5_valueAdded_64 : decode cX5_valueAdded 64 = .ok (.aload_n 0, 1) := by decide +kernel
theorem dX5_valueAdded_65 : decode cX5_valueAdded 65 = .ok (.getfield 83, 3) := by decide +kernel
theorem dX5_valueAdded_68 : decode cX5_valueAdded 68 = .ok (.iload 6, 2) := by decide +kernel
theorem dX5_valueAdded_70 : decode cX5_valueAdded 70 = .ok (.invokevirtual 220, 3) := by decide +kernel
theorem dX5_valueAdded_73 : decode cX5_valueAdded 73 = .ok (.goto 4, 3) := by decide +kernel
theorem dX3_addToRoot_0 : decode cX3_addToRoot 0 = .ok (.aload_n 0, 1) := by decide +kernel
theorem dX3_addToRoot_1 : decode cX3_addToRoot 1 = .ok (.getfield 46, 3) := by decide +kernel
theorem dX3_addToRoot_4 : decode cX3_addToRoot 4 = .ok (.aload_n 0, 1) := by decide +kernel
theorem dX3_addToRoot_5 : decode cX3_addToRoot 5 = .ok (.getfield 52, 3) := by decide +kernel
theorem dX3_addToRoot_8 : decode cX3_addToRoot 8 = .ok (.iload_n 1, 1) := by decide +kernel
theorem dX3_addToRoot_9 : decode cX3_addToRoot 9 = .ok (.invokestatic 87, 3) := by decide +kernel
theorem dX3_addToRoot_12 : decode cX3_addToRoot 12 = .ok (.aload_n 0, 1) := by decide +kernel
theorem dX3_addToRoot_13 : decode cX3_addToRoot 13 = .ok (.getfield 49, 3) := by decide +kernel
theorem dX3_addToRoot_16 : decode cX3_addToRoot 16 = .ok (.aload_n 0, 1) := by decide +kernel
theorem dX3_addToRoot_17 : decode cX3_addToRoot 17 = .ok (.getfield 52, 3) := by decide +kernel
theorem dX3_addToRoot_20 : decode cX3_addToRoot 20 = .ok (.iload_n 2, 1) := by decide +kernel
theorem dX3_addToRoot_21 : decode cX3_addToRoot 21 = .ok (.invokestatic 87, 3) := by decide +kernel
theorem dX3_addToRoot_24 : decode cX3_addToRoot 24 = .ok (.aload_n 0, 1) := by decide +kernel
theorem dX3_addToRoot_25 : decode cX3_addToRoot 25 = .ok (.dup, 1) := by decide +kernel
theorem dX3_addToRoot_26 : decode cX3_addToRoot 26 = .ok (.getfield 52, 3) := by decide +kernel
theorem dX3_addToRoot_29 : decode cX3_addToRoot 29 = .ok (.iconst 1, 1) := by decide +kernel
theorem dX3_addToRoot_30 : decode cX3_addToRoot 30 = .ok (.iadd, 1) := by decide +kernel
theorem dX3_addToRoot_31 : decode cX3_addToRoot 31 = .ok (.putfield 52, 3) := by decide +kernel
theorem dX3_addToRoot_34 : decode cX3_addToRoot 34 = .ok (.return_, 1) := by decide +kernel
theorem atg_X3_81 : ∀ w ∈ (vx_at0 "TemplateHouse$Heap" 81 "java/lang/IllegalStateException" exn).filter goodWord, w ∈ zT := fun w hw => List.mem_filter.mpr ⟨(show ∀ w ∈ (vx_at0 "TemplateHouse$Heap" 81 "java/lang/IllegalStateException" exn).filter goodWord, w ∈ lw_tbl by decide +kernel) w hw, (List.mem_filter.mp hw).2⟩
theorem atb_X3_81 : ∀ w ∈ (vx_at0 "TemplateHouse$Heap" 81 "java/lang/IllegalStateException" exn).filter (fun w => !goodWord w), w ∈ zNest := by decide +kernel
theorem ato_X3_81 : ∀ w ∈ vx_at0 "TemplateHouse$Heap" 81 "java/lang/IllegalStateException" exn, vx_ot w = true := by decide +kernel
set_option maxRecDepth 20000 in
theorem kX8_addProperty (l : Launch) (G : zG) (T : tT) (κ : Nat → List Nat) (hst : l.stackTraces = false) (hE : tE G T κ) {a0 : Nat} (h0 : a0 ∈ κ 8) {x1 : Int32} {x2 : Int32} {x3 : Int32} {a4 : Nat} (h4 : tRd G κ a4) {x5 : Int32} : tMi l G T yX8_addProperty cX8_addProperty 7 .boolean [] 2 52 0 0 [.ref a0, .int x1, .int x2, .int x3, .ref a4, .int x5] uT (uPz 0x10000000000000000000000000000000000000000000000000000000000000000000000000000000000000000000000000000000000000000000000000000000000) := by
  refine tMi.intro hst rfl (Nat.le_of_ble_eq_true rfl) ?_
  intro w0 hw0 _ X hC hR hO hX
  refine z_aload_n hC (pc := 0) 0 dX8_addProperty_0 rfl rfl ?_
  refine z_iload_n hC (pc := 1) 1 dX8_addProperty_1 rfl rfl ?_
  refine z_iconst hC (pc := 2) (v := 5) dX8_addProperty_2 (by decide) ?_
  obtain ⟨q8, hqq8⟩ := hE.o8 h0
  refine t_callVi hC hw0 (pc := 3) (As := [.int x1, .int 5]) (kX8_is l G T κ hst hE h0) trivial dmX8_is zf8 hqq8 dX8_addProperty_3 zw847 rfl rfl (Nat.le_of_ble_eq_true rfl) (Nat.le_of_ble_eq_true rfl) (Nat.le_of_ble_eq_true rfl) (Nat.le_of_ble_eq_true rfl) (Nat.le_of_ble_eq_true rfl) (fun _ _ _ h => nomatch h) (fun x10 cw9 nw9 w9 hw9 pw9 => ?_)
  obtain ⟨rfl, rfl, kw9, zx10⟩ := pw9
  have j36 : zS X G 7 w9 [] 0 0 36 [] := by
    refine z_iconst hC (pc := 36) (v := 0) dX8_addProperty_36 (by decide) ?_
    exact hR _ _ _ _ _ _ dX8_addProperty_37 rfl (Nat.le_of_ble_eq_true rfl) (Nat.le_of_ble_eq_true rfl) ⟨hw9, rfl, rfl, (tKeep.tr tKeep.rf kw9 rfl), (Or.inl rfl)⟩
  refine z_if_eq hC (pc := 6) 36 dX8_addProperty_6 (by decide) (fun c11 => ?_) (fun c11 => ?_)
  · refine z_lvs [] rfl ?_
    exact j36
  · refine z_iload_n hC (pc := 9) 3 dX8_addProperty_9 rfl rfl ?_
    refine z_bipush hC (pc := 10) (v := (-2)) dX8_addProperty_10 (by decide) ?_
    refine z_icmp_lt hC (pc := 12) 36 dX8_addProperty_12 (by decide) (fun c12 => ?_) (fun c12 => ?_)
    · refine z_lvs [] rfl ?_
      exact j36
    · refine z_iload_n hC (pc := 15) 3 dX8_addProperty_15 rfl rfl ?_
      refine z_aload_n hC (pc := 16) 0 dX8_addProperty_16 rfl rfl ?_
      refine u_get hC hw9 (pc := 17) zf8 7 (hE.o8 h0) rfl dX8_addProperty_17 zw62 (kk := fun vx13 tx13 fx13 => ?_)
      obtain ⟨x13, rfl, nx13⟩ := tx13
      refine z_icmp_ge hC (pc := 20) 36 dX8_addProperty_20 (by decide) (fun c14 => ?_) (fun c14 => ?_)
      · refine z_lvs [] rfl ?_
        exact j36
      · refine z_iload hC (pc := 23) 5 dX8_addProperty_23 rfl ?_
        refine z_iconst hC (pc := 25) (v := 1) dX8_addProperty_25 (by decide) ?_
        refine z_icmp_lt hC (pc := 26) 36 dX8_addProperty_26 (by decide) (fun c15 => ?_) (fun c15 => ?_)
        · refine z_lvs [] rfl ?_
          exact j36
        · refine z_iload hC (pc := 29) 5 dX8_addProperty_29 rfl ?_
          refine z_bipush hC (pc := 31) (v := 16) dX8_addProperty_31 (by decide) ?_
          refine z_icmp_le hC (pc := 33) 38 dX8_addProperty_33 (by decide) (fun c16 => ?_) (fun c16 => ?_)
          · refine z_aload_n hC (pc := 38) 0 dX8_addProperty_38 rfl rfl ?_
            refine u_get hC hw9 (pc := 39) zf8 4 (hE.o8 h0) rfl dX8_addProperty_39 zw55 (kk := fun va17 ta17 fa17 => ?_)
            obtain ⟨a17, ma17, rfl⟩ := ta17
            refine z_iload_n hC (pc := 42) 1 dX8_addProperty_42 rfl rfl ?_
            refine t_callSNi hC hw9 (pc := 43) (As := [.ref a17, .int x1]) (kX12_get l G T κ hst hE ma17) trivial dmX12_get dX8_addProperty_43 zw844 rfl rfl (Nat.le_of_ble_eq_true rfl) (Nat.le_of_ble_eq_true rfl) (Nat.le_of_ble_eq_true rfl) (Nat.le_of_ble_eq_true rfl) (Nat.le_of_ble_eq_true rfl) (fun _ _ _ h => nomatch h) (fun x19 cw18 nw18 w18 hw18 pw18 => ?_)
            obtain ⟨rfl, rfl, kw18⟩ := pw18
            refine z_istore hC (pc := 46) (lv' := [(6, .int x19), (0, .ref a0), (1, .int x1), (2, .int x2), (3, .int x3), (4, .ref a4), (5, .int x5)]) dX8_addProperty_46 (by decide) rfl ?_
            refine z_iload hC (pc := 48) 0 dX8_addProperty_48 rfl ?_
            refine z_bipush hC (pc := 50) (v := 12) dX8_addProperty_50 (by decide) ?_
            have j83 : ∀ (w20 : va_W), tW T w20 → tKeep 0x0 w18 w20 → zS X G 7 w20 [] 0 0 83 [] := by
              intro w20 hw20 kw20
              refine z_iconst hC (pc := 83) (v := 0) dX8_addProperty_83 (by decide) ?_
              exact hR _ _ _ _ _ _ dX8_addProperty_84 rfl (Nat.le_of_ble_eq_true rfl) (Nat.le_of_ble_eq_true rfl) ⟨hw20, rfl, rfl, (tKeep.tr (tKeep.tr (tKeep.tr tKeep.rf kw9 rfl) kw18 rfl) kw20 rfl), (Or.inl rfl)⟩
            refine z_icmp_ge hC (pc := 52) 83 dX8_addProperty_52 (by decide) (fun c21 => ?_) (fun c21 => ?_)
            · refine z_lvs [] rfl ?_
              exact j83 w18 hw18 tKeep.rf
            · refine z_aload_n hC (pc := 55) 1 dX8_addProperty_55 rfl rfl ?_
              refine u_get hC hw18 (pc := 56) zf8 8 (hE.o8 h0) rfl dX8_addProperty_56 zw65 (kk := fun vx22 tx22 fx22 => ?_)
              obtain ⟨x22, rfl⟩ := tx22
              refine z_iload hC (pc := 59) 6 dX8_addProperty_59 rfl ?_
              refine z_iadd hC (pc := 61) (v := (x22 + x5)) dX8_addProperty_61 rfl ?_
              refine z_sipush hC (pc := 62) (v := 16000) dX8_addProperty_62 (by decide) ?_
              refine z_icmp_gt hC (pc := 65) 83 dX8_addProperty_65 (by decide) (fun c23 => ?_) (fun c23 => ?_)
              · refine z_lvs [] rfl ?_
                exact j83 w18 hw18 tKeep.rf
              · refine z_aload_n hC (pc := 68) 1 dX8_addProperty_68 rfl rfl ?_
                refine z_iload_n hC (pc := 69) 2 dX8_addProperty_69 rfl rfl ?_
                refine z_iload_n hC (pc := 70) 3 dX8_addProperty_70 rfl rfl ?_
                refine z_aload hC (pc := 71) 5 dX8_addProperty_71 rfl ?_
                refine z_iconst hC (pc := 73) (v := 0) dX8_addProperty_73 (by decide) ?_
                refine z_iload hC (pc := 74) 6 dX8_addProperty_74 rfl ?_
                refine t_callVi hC hw18 (pc := 76) (As := [.int x1, .int x2, .ref a4, .int 0, .int x5]) (kX8_propertyOf l G T κ hst hE h0 h4) trivial dmX8_propertyOf zf8 hqq8 dX8_addProperty_76 zw879 rfl rfl (Nat.le_of_ble_eq_true rfl) (Nat.le_of_ble_eq_true rfl) (Nat.le_of_ble_eq_true rfl) (Nat.le_of_ble_eq_true rfl) (Nat.le_of_ble_eq_true rfl) (fun _ _ _ h => nomatch h) (fun x25 cw24 nw24 w24 hw24 pw24 => ?_)
                obtain ⟨rfl, rfl, kw24⟩ := pw24
                refine z_iconst hC (pc := 79) (v := (-1)) dX8_addProperty_79 (by decide) ?_
                refine z_icmp_eq hC (pc := 80) 85 dX8_addProperty_80 (by decide) (fun c26 => ?_) (fun c26 => ?_)
                · refine z_aload_n hC (pc := 85) 1 dX8_addProperty_85 rfl rfl ?_
                  refine u_get hC hw24 (pc := 86) zf8 5 (hE.o8 h0) rfl dX8_addProperty_86 zw57 (kk := fun va27 ta27 fa27 => ?_)
                  obtain ⟨a27, ma27, rfl⟩ := ta27
                  refine z_iload_n hC (pc := 89) 2 dX8_addProperty_89 rfl rfl ?_
                  refine z_bipush hC (pc := 90) (v := 100) dX8_addProperty_90 (by decide) ?_
                  refine z_imul hC (pc := 92) (v := (x1 * 100)) dX8_addProperty_92 rfl ?_
                  refine z_iconst hC (pc := 93) (v := 3) dX8_addProperty_93 (by decide) ?_
                  refine z_iload hC (pc := 94) 0 dX8_addProperty_94 rfl ?_
                  refine z_imul hC (pc := 96) (v := ((3 : Int32) * x19)) dX8_addProperty_96 rfl ?_
                  refine z_iadd hC (pc := 97) (v := ((x1 * 100) + ((3 : Int32) * x19))) dX8_addProperty_97 rfl ?_
                  refine z_aload_n hC (pc := 98) 1 dX8_addProperty_98 rfl rfl ?_
                  refine u_getK hC (pc := 99) zf8 8 (tKeep.F kw24 fx22 rfl) dX8_addProperty_99 zw65 (kk := ?_)
                  refine z_iconst hC (pc := 102) (v := 5) dX8_addProperty_102 (by decide) ?_
                  refine z_ishl hC (pc := 103) (v := (x22 <<< (5 &&& 31))) dX8_addProperty_103 rfl ?_
                  refine z_iload hC (pc := 104) 6 dX8_addProperty_104 rfl ?_
                  refine z_ior hC (pc := 106) (v := ((x22 <<< (5 &&& 31)) ||| x5)) dX8_addProperty_106 rfl ?_
                  refine t_callSNv hC hw24 (pc := 107) (As := [.ref a27, .int ((x1 * 100) + ((3 : Int32) * x19)), .int ((x22 <<< (5 &&& 31)) ||| x5)]) (kX12_set l G T κ hst hE ma27) trivial dmX12_set dX8_addProperty_107 zw803 rfl rfl (Nat.le_of_ble_eq_true rfl) (Nat.le_of_ble_eq_true rfl) (Nat.le_of_ble_eq_true rfl) (Nat.le_of_ble_eq_true rfl) (Nat.le_of_ble_eq_true rfl) (fun _ _ _ h => nomatch h) (fun cw28 nw28 w28 hw28 pw28 => ?_)
                  obtain ⟨rfl, rfl, kw28⟩ := pw28
                  refine z_aload_n hC (pc := 110) 1 dX8_addProperty_110 rfl rfl ?_
                  refine u_getK hC (pc := 111) zf8 5 (tKeep.F kw28 fa27 rfl) dX8_addProperty_111 zw57 (kk := ?_)
                  refine z_iload_n hC (pc := 114) 2 dX8_addProperty_114 rfl rfl ?_
                  refine z_bipush hC (pc := 115) (v := 100) dX8_addProperty_115 (by decide) ?_
                  refine z_imul hC (pc := 117) (v := (x1 * 100)) dX8_addProperty_117 rfl ?_
                  refine z_iconst hC (pc := 118) (v := 3) dX8_addProperty_118 (by decide) ?_
                  refine z_iload hC (pc := 119) 0 dX8_addProperty_119 rfl ?_
                  refine z_imul hC (pc := 121) (v := ((3 : Int32) * x19)) dX8_addProperty_121 rfl ?_
                  refine z_iadd hC (pc := 122) (v := ((x1 * 100) + ((3 : Int32) * x19))) dX8_addProperty_122 rfl ?_
                  refine z_iconst hC (pc := 123) (v := 1) dX8_addProperty_123 (by decide) ?_
                  refine z_iadd hC (pc := 124) (v := (((x1 * 100) + ((3 : Int32) * x19)) + 1)) dX8_addProperty_124 rfl ?_
                  refine z_iload_n hC (pc := 125) 3 dX8_addProperty_125 rfl rfl ?_
                  refine t_callSNv hC hw28 (pc := 126) (As := [.ref a27, .int (((x1 * 100) + ((3 : Int32) * x19)) + 1), .int x2]) (kX12_set l G T κ hst hE ma27) trivial dmX12_set dX8_addProperty_126 zw803 rfl rfl (Nat.le_of_ble_eq_true rfl) (Nat.le_of_ble_eq_true rfl) (Nat.le_of_ble_eq_true rfl) (Nat.le_of_ble_eq_true rfl) (Nat.le_of_ble_eq_true rfl) (fun _ _ _ h => nomatch h) (fun cw30 nw30 w30 hw30 pw30 => ?_)
                  obtain ⟨rfl, rfl, kw30⟩ := pw30
                  refine z_aload_n hC (pc := 129) 1 dX8_addProperty_129 rfl rfl ?_
                  refine u_getK hC (pc := 130) zf8 5 (tKeep.F kw30 (tKeep.F kw28 fa27 rfl) rfl) dX8_addProperty_130 zw57 (kk := ?_)
                  refine z_iload_n hC (pc := 133) 2 dX8_addProperty_133 rfl rfl ?_
                  refine z_bipush hC (pc := 134) (v := 100) dX8_addProperty_134 (by decide) ?_
                  refine z_imul hC (pc := 136) (v := (x1 * 100)) dX8_addProperty_136 rfl ?_
                  refine z_iconst hC (pc := 137) (v := 3) dX8_addProperty_137 (by decide) ?_
                  refine z_iload hC (pc := 138) 0 dX8_addProperty_138 rfl ?_
                  refine z_imul hC (pc := 140) (v := ((3 : Int32) * x19)) dX8_addProperty_140 rfl ?_
                  refine z_iadd hC (pc := 141) (v := ((x1 * 100) + ((3 : Int32) * x19))) dX8_addProperty_141 rfl ?_
                  refine z_iconst hC (pc := 142) (v := 2) dX8_addProperty_142 (by decide) ?_
                  refine z_iadd hC (pc := 143) (v := (((x1 * 100) + ((3 : Int32) * x19)) + 2)) dX8_addProperty_143 rfl ?_
                  refine z_iload_n hC (pc := 144) 4 dX8_addProperty_144 rfl rfl ?_
                  refine t_callSNv hC hw30 (pc := 145) (As := [.ref a27, .int (((x1 * 100) + ((3 : Int32) * x19)) + 2), .int x3]) (kX12_set l G T κ hst hE ma27) trivial dmX12_set dX8_addProperty_145 zw803 rfl rfl (Nat.le_of_ble_eq_true rfl) (Nat.le_of_ble_eq_true rfl) (Nat.le_of_ble_eq_true rfl) (Nat.le_of_ble_eq_true rfl) (Nat.le_of_ble_eq_true rfl) (fun _ _ _ h => nomatch h) (fun cw32 nw32 w32 hw32 pw32 => ?_)
                  obtain ⟨rfl, rfl, kw32⟩ := pw32
                  refine z_aload_n hC (pc := 148) 1 dX8_addProperty_148 rfl rfl ?_
                  refine z_aload hC (pc := 149) 5 dX8_addProperty_149 rfl ?_
                  refine z_iload hC (pc := 151) 6 dX8_addProperty_151 rfl ?_
                  refine t_callVv hC hw32 (pc := 153) (As := [.ref a4, .int x5]) (kX8_takeBytes l G T κ hst hE h0 h4) trivial dmX8_takeBytes zf8 hqq8 dX8_addProperty_153 zw870 rfl rfl (Nat.le_of_ble_eq_true rfl) (Nat.le_of_ble_eq_true rfl) (Nat.le_of_ble_eq_true rfl) (Nat.le_of_ble_eq_true rfl) (Nat.le_of_ble_eq_true rfl) (fun _ _ _ h => nomatch h) (fun cw34 nw34 w34 hw34 pw34 => ?_)
                  obtain ⟨rfl, rfl, kw34⟩ := pw34
                  refine z_aload_n hC (pc := 156) 1 dX8_addProperty_156 rfl rfl ?_
                  refine u_getK hC (pc := 157) zf8 4 (tKeep.F kw34 (tKeep.F kw32 (tKeep.F kw30 (tKeep.F kw28 (tKeep.F kw24 (tKeep.F kw18 fa17 rfl) rfl) rfl) rfl) rfl) rfl) dX8_addProperty_157 zw55 (kk := ?_)
                  refine z_iload_n hC (pc := 160) 2 dX8_addProperty_160 rfl rfl ?_
                  refine z_iload hC (pc := 161) 0 dX8_addProperty_161 rfl ?_
                  refine z_iconst hC (pc := 163) (v := 1) dX8_addProperty_163 (by decide) ?_
                  refine z_iadd hC (pc := 164) (v := (x19 + 1)) dX8_addProperty_164 rfl ?_
                  refine t_callSNv hC hw34 (pc := 165) (As := [.ref a17, .int x1, .int (x19 + 1)]) (kX12_set l G T κ hst hE ma17) trivial dmX12_set dX8_addProperty_165 zw803 rfl rfl (Nat.le_of_ble_eq_true rfl) (Nat.le_of_ble_eq_true rfl) (Nat.le_of_ble_eq_true rfl) (Nat.le_of_ble_eq_true rfl) (Nat.le_of_ble_eq_true rfl) (fun _ _ _ h => nomatch h) (fun cw36 nw36 w36 hw36 pw36 => ?_)
                  obtain ⟨rfl, rfl, kw36⟩ := pw36
                  refine z_iconst hC (pc := 168) (v := 1) dX8_addProperty_168 (by decide) ?_
                  exact hR _ _ _ _ _ _ dX8_addProperty_169 rfl (Nat.le_of_ble_eq_true rfl) (Nat.le_of_ble_eq_true rfl) ⟨hw36, rfl, rfl, (tKeep.tr (tKeep.tr (tKeep.tr (tKeep.tr (tKeep.tr (tKeep.tr (tKeep.tr (tKeep.tr tKeep.rf kw9 rfl) kw18 rfl) kw24 rfl) kw28 rfl) kw30 rfl) kw32 rfl) kw34 rfl) kw36 rfl), (Or.inr rfl)⟩
                · refine z_lvs [] rfl ?_
                  exact j83 w24 hw24 (tKeep.tr tKeep.rf kw24 rfl)
          · refine z_lvs [] rfl ?_
            exact j36
set_option maxRecDepth 20000 in
theorem kX12_property (l : Launch) (G : zG) (T : tT) (κ : Nat → List Nat) (hst : l.stackTraces = false) (hE : tE G T κ) {a0 : Nat} (h0 : a0 ∈ κ 12) {x1 : Int32} {x2 : Int32} {x3 : Int32} : tMi l G T yX12_property cX12_property 5 .boolean [] 3 78 0 0 [.ref a0, .int x1, .int x2, .int x3] uT (uPz 0x4000000000000000000000000000000000000000000000000000000000000010000000000000000000000000000000000000000000000000000000000000000000000000000000000000000000000000000000000000000000000000000000000) := by
  refine tMi.intro hst rfl (Nat.le_of_ble_eq_true rfl) ?_
  intro w0 hw0 _ X hC hR hO hX
  refine z_aload_n hC (pc := 0) 0 dX12_property_0 rfl rfl ?_
  refine u_get hC hw0 (pc := 1) zf12 2 (hE.o12 h0) rfl dX12_property_1 zw710 (kk := fun vx6 tx6 fx6 => ?_)
  obtain ⟨x6, rfl⟩ := tx6
  refine z_istore hC (pc := 4) (lv' := [(4, .int x6), (0, .ref a0), (1, .int x1), (2, .int x2), (3, .int x3)]) dX12_property_4 (by decide) rfl ?_
  refine z_aload_n hC (pc := 6) 1 dX12_property_6 rfl rfl ?_
  refine z_iconst hC (pc := 7) (v := 0) dX12_property_7 (by decide) ?_
  refine u_put hC hw0 (pc := 8) zf12 2 (hE.o12 h0) rfl ⟨_, rfl⟩ dX12_property_8 zw710 rfl rfl rfl (kk := fun w7 hw7 fw7 kw7 => ?_)
  refine z_aload_n hC (pc := 11) 1 dX12_property_11 rfl rfl ?_
  refine u_get hC hw7 (pc := 12) zf12 17 (hE.o12 h0) rfl dX12_property_12 zw725 (kk := fun vx8 tx8 fx8 => ?_)
  obtain ⟨x8, rfl⟩ := tx8
  refine z_iconst hC (pc := 15) (v := 1) dX12_property_15 (by decide) ?_
  have j28 : zS X G 5 w7 [] 0 0 28 [] := by
    refine z_iconst hC (pc := 28) (v := 0) dX12_property_28 (by decide) ?_
    exact hR _ _ _ _ _ _ dX12_property_29 rfl (Nat.le_of_ble_eq_true rfl) (Nat.le_of_ble_eq_true rfl) ⟨hw7, rfl, rfl, (tKeep.tr tKeep.rf kw7 rfl), (Or.inl rfl)⟩
  refine z_icmp_eq hC (pc := 16) 28 dX12_property_16 (by decide) (fun c9 => ?_) (fun c9 => ?_)
  · refine z_lvs [] rfl ?_
    exact j28
  · refine z_iload_n hC (pc := 19) 3 dX12_property_19 rfl rfl ?_
    refine z_if_lt hC (pc := 20) 28 dX12_property_20 (by decide) (fun c10 => ?_) (fun c10 => ?_)
    · refine z_lvs [] rfl ?_
      exact j28
    · refine z_iload_n hC (pc := 23) 3 dX12_property_23 rfl rfl ?_
      refine z_iconst hC (pc := 24) (v := 3) dX12_property_24 (by decide) ?_
      refine z_icmp_le hC (pc := 25) 30 dX12_property_25 (by decide) (fun c11 => ?_) (fun c11 => ?_)
      · refine z_aload_n hC (pc := 30) 1 dX12_property_30 rfl rfl ?_
        refine u_get hC hw7 (pc := 31) zf12 5 (hE.o12 h0) rfl dX12_property_31 zw713 (kk := fun va12 ta12 fa12 => ?_)
        obtain ⟨a12, ma12, rfl⟩ := ta12
        refine z_iload_n hC (pc := 34) 2 dX12_property_34 rfl rfl ?_
        refine z_iload_n hC (pc := 35) 3 dX12_property_35 rfl rfl ?_
        refine z_iload_n hC (pc := 36) 4 dX12_property_36 rfl rfl ?_
        refine z_aload_n hC (pc := 37) 1 dX12_property_37 rfl rfl ?_
        refine u_get hC hw7 (pc := 38) zf12 1 (hE.o12 h0) rfl dX12_property_38 zw709 (kk := fun va13 ta13 fa13 => ?_)
        obtain ⟨a13, ma13, rfl⟩ := ta13
        refine z_iload hC (pc := 41) 0 dX12_property_41 rfl ?_
        obtain ⟨q14, hqq14⟩ := hE.o8 ma12
        refine t_callVi hC hw7 (pc := 43) (As := [.int x1, .int x2, .int x3, .ref a13, .int x6]) (kX8_addProperty l G T κ hst hE ma12 (Or.inl ma13)) trivial dmX8_addProperty zf8 hqq14 dX12_property_43 zw875 rfl rfl (Nat.le_of_ble_eq_true rfl) (Nat.le_of_ble_eq_true rfl) (Nat.le_of_ble_eq_true rfl) (Nat.le_of_ble_eq_true rfl) (Nat.le_of_ble_eq_true rfl) (fun _ _ _ h => nomatch h) (fun x16 cw15 nw15 w15 hw15 pw15 => ?_)
        obtain ⟨rfl, rfl, kw15, zx16⟩ := pw15
        exact hR _ _ _ _ _ _ dX12_property_46 (t_nZ zx16) (Nat.le_of_ble_eq_true rfl) (Nat.le_of_ble_eq_true rfl) ⟨hw15, rfl, rfl, (tKeep.tr (tKeep.tr tKeep.rf kw7 rfl) kw15 rfl), zx16⟩
      · refine z_lvs [] rfl ?_
        exact j28
set_option maxRecDepth 20000 in
theorem kX8_addAttribute (l : Launch) (G : zG) (T : tT) (κ : Nat → List Nat) (hst : l.stackTraces = false) (hE : tE G T κ) {a0 : Nat} (h0 : a0 ∈ κ 8) {a1 : Nat} (h1 : tRd G κ a1) {x2 : Int32} {x3 : Int32} : tMi l G T yX8_addAttribute cX8_addAttribute 5 .int [] 1 22 0 0 [.ref a0, .ref a1, .int x2, .int x3] uT (uPi 0x200000000000000000000000000000000000000000000000000000000000000000000000000000000000000000000000000000000000000000000000000000000000) := by
  refine tMi.intro hst rfl (Nat.le_of_ble_eq_true rfl) ?_
  intro w0 hw0 _ X hC hR hO hX
  refine z_iload_n hC (pc := 0) 3 dX8_addAttribute_0 rfl rfl ?_
  refine z_iconst hC (pc := 1) (v := (-1)) dX8_addAttribute_1 (by decide) ?_
  have j13 : zS X G 5 w0 [] 0 0 13 [] := by
    refine z_iconst hC (pc := 13) (v := (-1)) dX8_addAttribute_13 (by decide) ?_
    exact hR _ _ _ _ _ _ dX8_addAttribute_14 rfl (Nat.le_of_ble_eq_true rfl) (Nat.le_of_ble_eq_true rfl) ⟨hw0, rfl, rfl, tKeep.rf⟩
  refine z_icmp_lt hC (pc := 2) 13 dX8_addAttribute_2 (by decide) (fun c6 => ?_) (fun c6 => ?_)
  · refine z_lvs [] rfl ?_
    exact j13
  · refine z_iload_n hC (pc := 5) 3 dX8_addAttribute_5 rfl rfl ?_
    refine z_aload_n hC (pc := 6) 0 dX8_addAttribute_6 rfl rfl ?_
    refine u_get hC hw0 (pc := 7) zf8 7 (hE.o8 h0) rfl dX8_addAttribute_7 zw62 (kk := fun vx7 tx7 fx7 => ?_)
    obtain ⟨x7, rfl, nx7⟩ := tx7
    refine z_icmp_lt hC (pc := 10) 15 dX8_addAttribute_10 (by decide) (fun c8 => ?_) (fun c8 => ?_)
    · refine z_iload_n hC (pc := 15) 2 dX8_addAttribute_15 rfl rfl ?_
      refine z_iconst hC (pc := 16) (v := 1) dX8_addAttribute_16 (by decide) ?_
      have j35 : zS X G 5 w0 [] 0 0 35 [] := by
        refine z_iconst hC (pc := 35) (v := (-1)) dX8_addAttribute_35 (by decide) ?_
        exact hR _ _ _ _ _ _ dX8_addAttribute_36 rfl (Nat.le_of_ble_eq_true rfl) (Nat.le_of_ble_eq_true rfl) ⟨hw0, rfl, rfl, tKeep.rf⟩
      refine z_icmp_lt hC (pc := 17) 35 dX8_addAttribute_17 (by decide) (fun c9 => ?_) (fun c9 => ?_)
      · refine z_lvs [] rfl ?_
        exact j35
      · refine z_iload_n hC (pc := 20) 2 dX8_addAttribute_20 rfl rfl ?_
        refine z_bipush hC (pc := 21) (v := 16) dX8_addAttribute_21 (by decide) ?_
        refine z_icmp_gt hC (pc := 23) 35 dX8_addAttribute_23 (by decide) (fun c10 => ?_) (fun c10 => ?_)
        · refine z_lvs [] rfl ?_
          exact j35
        · refine z_aload_n hC (pc := 26) 0 dX8_addAttribute_26 rfl rfl ?_
          refine u_get hC hw0 (pc := 27) zf8 13 (hE.o8 h0) rfl dX8_addAttribute_27 zw74 (kk := fun vx11 tx11 fx11 => ?_)
          obtain ⟨x11, rfl⟩ := tx11
          refine z_bipush hC (pc := 30) (v := 40) dX8_addAttribute_30 (by decide) ?_
          refine z_icmp_lt hC (pc := 32) 37 dX8_addAttribute_32 (by decide) (fun c12 => ?_) (fun c12 => ?_)
          · refine z_iconst hC (pc := 37) (v := 0) dX8_addAttribute_37 (by decide) ?_
            refine z_istore hC (pc := 38) (lv' := [(4, .int 0), (0, .ref a0), (1, .ref a1), (2, .int x2), (3, .int x3)]) dX8_addAttribute_38 (by decide) rfl ?_
            have j40 : ∀ (d40 : Nat), ∀ (w13 : va_W), tW T w13 → tKeep 0x0 w0 w13 → ∀ (x14 : Int32), ¬ x14 < 0 → (2 ^ 31 - (x14 : Int32).toInt).toNat ≤ d40 → zS X G 5 w13 [(0, .ref a0), (1, .ref a1), (2, .int x2), (3, .int x3), (4, .int x14)] 0 0 40 [] := by
              intro d40
              induction d40 with
              | zero => intro w13 hw13 kw13 x14 v15 hd40; exact (t_zero hd40).elim
              | succ d40 ih40 =>
                intro w13 hw13 kw13 x14 v15 hd40
                refine z_iload hC (pc := 40) 4 dX8_addAttribute_40 rfl ?_
                refine z_iload_n hC (pc := 42) 2 dX8_addAttribute_42 rfl rfl ?_
                refine z_icmp_ge hC (pc := 43) 75 dX8_addAttribute_43 (by decide) (fun c16 => ?_) (fun c16 => ?_)
                · refine z_aload_n hC (pc := 75) 0 dX8_addAttribute_75 rfl rfl ?_
                  refine u_get hC hw13 (pc := 76) zf8 11 (hE.o8 h0) rfl dX8_addAttribute_76 zw70 (kk := fun va17 ta17 fa17 => ?_)
                  obtain ⟨a17, ma17, rfl⟩ := ta17
                  refine z_aload_n hC (pc := 79) 0 dX8_addAttribute_79 rfl rfl ?_
                  refine u_getK hC (pc := 80) zf8 13 (tKeep.F kw13 fx11 rfl) dX8_addAttribute_80 zw74 (kk := ?_)
                  refine z_iload_n hC (pc := 83) 2 dX8_addAttribute_83 rfl rfl ?_
                  refine t_callSNv hC hw13 (pc := 84) (As := [.ref a17, .int x11, .int x2]) (kX12_set l G T κ hst hE ma17) trivial dmX12_set dX8_addAttribute_84 zw803 rfl rfl (Nat.le_of_ble_eq_true rfl) (Nat.le_of_ble_eq_true rfl) (Nat.le_of_ble_eq_true rfl) (Nat.le_of_ble_eq_true rfl) (Nat.le_of_ble_eq_true rfl) (fun _ _ _ h => nomatch h) (fun cw18 nw18 w18 hw18 pw18 => ?_)
                  obtain ⟨rfl, rfl, kw18⟩ := pw18
                  refine z_aload_n hC (pc := 87) 0 dX8_addAttribute_87 rfl rfl ?_
                  refine u_get hC hw18 (pc := 88) zf8 12 (hE.o8 h0) rfl dX8_addAttribute_88 zw72 (kk := fun va20 ta20 fa20 => ?_)
                  obtain ⟨a20, ma20, rfl⟩ := ta20
                  refine z_aload_n hC (pc := 91) 0 dX8_addAttribute_91 rfl rfl ?_
                  refine u_getK hC (pc := 92) zf8 13 (tKeep.F kw18 (tKeep.F kw13 fx11 rfl) rfl) dX8_addAttribute_92 zw74 (kk := ?_)
                  refine z_iload_n hC (pc := 95) 3 dX8_addAttribute_95 rfl rfl ?_
                  refine t_callSNv hC hw18 (pc := 96) (As := [.ref a20, .int x11, .int x3]) (kX12_set l G T κ hst hE ma20) trivial dmX12_set dX8_addAttribute_96 zw803 rfl rfl (Nat.le_of_ble_eq_true rfl) (Nat.le_of_ble_eq_true rfl) (Nat.le_of_ble_eq_true rfl) (Nat.le_of_ble_eq_true rfl) (Nat.le_of_ble_eq_true rfl) (fun _ _ _ h => nomatch h) (fun cw21 nw21 w21 hw21 pw21 => ?_)
                  obtain ⟨rfl, rfl, kw21⟩ := pw21
                  refine z_aload_n hC (pc := 99) 0 dX8_addAttribute_99 rfl rfl ?_
                  refine z_dup hC (pc := 100) dX8_addAttribute_100 rfl ?_
                  refine u_getK hC (pc := 101) zf8 13 (tKeep.F kw21 (tKeep.F kw18 (tKeep.F kw13 fx11 rfl) rfl) rfl) dX8_addAttribute_101 zw74 (kk := ?_)
                  refine z_iconst hC (pc := 104) (v := 1) dX8_addAttribute_104 (by decide) ?_
                  refine z_iadd hC (pc := 105) (v := (x11 + 1)) dX8_addAttribute_105 rfl ?_
                  refine u_put hC hw21 (pc := 106) zf8 13 (hE.o8 h0) rfl ⟨_, rfl⟩ dX8_addAttribute_106 zw74 rfl rfl rfl (kk := fun w23 hw23 fw23 kw23 => ?_)
                  refine z_aload_n hC (pc := 109) 0 dX8_addAttribute_109 rfl rfl ?_
                  refine u_getK hC (pc := 110) zf8 13 fw23 dX8_addAttribute_110 zw74 (kk := ?_)
                  exact hR _ _ _ _ _ _ dX8_addAttribute_113 rfl (Nat.le_of_ble_eq_true rfl) (Nat.le_of_ble_eq_true rfl) ⟨hw23, rfl, rfl, (tKeep.tr (tKeep.tr (tKeep.tr (tKeep.tr tKeep.rf kw13 rfl) kw18 rfl) kw21 rfl) kw23 rfl)⟩
                · refine z_aload_n hC (pc := 46) 0 dX8_addAttribute_46 rfl rfl ?_
                  refine u_get hC hw13 (pc := 47) zf8 10 (hE.o8 h0) rfl dX8_addAttribute_47 zw68 (kk := fun va24 ta24 fa24 => ?_)
                  obtain ⟨a24, ma24, rfl⟩ := ta24
                  refine z_aload_n hC (pc := 50) 0 dX8_addAttribute_50 rfl rfl ?_
                  refine u_getK hC (pc := 51) zf8 13 (tKeep.F kw13 fx11 rfl) dX8_addAttribute_51 zw74 (kk := ?_)
                  refine z_bipush hC (pc := 54) (v := 16) dX8_addAttribute_54 (by decide) ?_
                  refine z_imul hC (pc := 56) (v := (x11 * 16)) dX8_addAttribute_56 rfl ?_
                  refine z_iload hC (pc := 57) 4 dX8_addAttribute_57 rfl ?_
                  refine z_iadd hC (pc := 59) (v := ((x11 * 16) + x14)) dX8_addAttribute_59 rfl ?_
                  refine z_aload_n hC (pc := 60) 1 dX8_addAttribute_60 rfl rfl ?_
                  refine z_iload hC (pc := 61) 4 dX8_addAttribute_61 rfl ?_
                  refine t_callSNi hC hw13 (pc := 63) (As := [.ref a1, .int x14]) (kX12_getByte l G T κ hst hE h1) trivial dmX12_getByte dX8_addAttribute_63 zw822 rfl rfl (Nat.le_of_ble_eq_true rfl) (Nat.le_of_ble_eq_true rfl) (Nat.le_of_ble_eq_true rfl) (Nat.le_of_ble_eq_true rfl) (Nat.le_of_ble_eq_true rfl) (fun _ _ _ h => nomatch h) (fun x26 cw25 nw25 w25 hw25 pw25 => ?_)
                  obtain ⟨rfl, rfl, kw25⟩ := pw25
                  refine t_callSNv hC hw25 (pc := 66) (As := [.ref a24, .int ((x11 * 16) + x14), .int x26]) (kX12_setByte l G T κ hst hE ma24) trivial dmX12_setByte dX8_addAttribute_66 zw823 rfl rfl (Nat.le_of_ble_eq_true rfl) (Nat.le_of_ble_eq_true rfl) (Nat.le_of_ble_eq_true rfl) (Nat.le_of_ble_eq_true rfl) (Nat.le_of_ble_eq_true rfl) (fun _ _ _ h => nomatch h) (fun cw27 nw27 w27 hw27 pw27 => ?_)
                  obtain ⟨rfl, rfl, kw27⟩ := pw27
                  refine z_iinc hC (pc := 69) (v := (x14 + 1)) (lv' := [(4, .int (x14 + 1)), (0, .ref a0), (1, .ref a1), (2, .int x2), (3, .int x3)]) 4 dX8_addAttribute_69 rfl (congrArg _ (by decide)) (by decide) rfl ?_
                  refine z_goto hC (pc := 72) 40 dX8_addAttribute_72 (by decide) ?_
                  refine z_lvs [1, 2, 3, 4, 0] rfl ?_
                  exact ih40 w27 hw27 (tKeep.tr (tKeep.tr (tKeep.tr tKeep.rf kw13 rfl) kw25 rfl) kw27 rfl) (x14 + 1) (t_nnI v15 (Int32.not_le.mp c16)) (t_up (Int32.not_le.mp c16) hd40)
            refine z_lvs [1, 2, 3, 4, 0] rfl ?_
            exact j40 _ w0 hw0 tKeep.rf 0 (by decide) (Nat.le_refl _)
          · refine z_lvs [] rfl ?_
            exact j35
    · refine z_lvs [] rfl ?_
      exact j13
set_option maxRecDepth 20000 in
theorem kX12_attribute (l : Launch) (G : zG) (T : tT) (κ : Nat → List Nat) (hst : l.stackTraces = false) (hE : tE G T κ) {a0 : Nat} (h0 : a0 ∈ κ 12) {x1 : Int32} : tMi l G T yX12_attribute cX12_attribute 3 .int [] 2 46 0 0 [.ref a0, .int x1] uT (uPi 0x4000000000000000000000000000000000000000000000000000000000000200000000000000000000000000000000000000000000000000000000000000000000000000000000000000000000000000000000000000000000000000000000000) := by
  refine tMi.intro hst rfl (Nat.le_of_ble_eq_true rfl) ?_
  intro w0 hw0 _ X hC hR hO hX
  refine z_aload_n hC (pc := 0) 0 dX12_attribute_0 rfl rfl ?_
  refine u_get hC hw0 (pc := 1) zf12 2 (hE.o12 h0) rfl dX12_attribute_1 zw710 (kk := fun vx4 tx4 fx4 => ?_)
  obtain ⟨x4, rfl⟩ := tx4
  refine z_istore_n hC (pc := 4) (lv' := [(2, .int x4), (0, .ref a0), (1, .int x1)]) dX12_attribute_4 rfl (by decide) rfl ?_
  refine z_aload_n hC (pc := 5) 1 dX12_attribute_5 rfl rfl ?_
  refine z_iconst hC (pc := 6) (v := 0) dX12_attribute_6 (by decide) ?_
  refine u_put hC hw0 (pc := 7) zf12 2 (hE.o12 h0) rfl ⟨_, rfl⟩ dX12_attribute_7 zw710 rfl rfl rfl (kk := fun w5 hw5 fw5 kw5 => ?_)
  refine z_aload_n hC (pc := 10) 1 dX12_attribute_10 rfl rfl ?_
  refine u_get hC hw5 (pc := 11) zf12 17 (hE.o12 h0) rfl dX12_attribute_11 zw725 (kk := fun vx6 tx6 fx6 => ?_)
  obtain ⟨x6, rfl⟩ := tx6
  refine z_iconst hC (pc := 14) (v := 1) dX12_attribute_14 (by decide) ?_
  have j35 : ∀ (w7 : va_W), tW T w7 → tKeep 0x200000000000000000000000000000000000000000000000000000000000000000000000000000000000000000000000000000000000000000000000000000000000 w5 w7 → ∀ (x8 : Int32), zS X G 3 w7 [] 0 0 35 [.int x8] := by
    intro w7 hw7 kw7 x8
    exact hR _ _ _ _ _ _ dX12_attribute_35 rfl (Nat.le_of_ble_eq_true rfl) (Nat.le_of_ble_eq_true rfl) ⟨hw7, rfl, rfl, (tKeep.tr (tKeep.tr tKeep.rf kw5 rfl) kw7 rfl)⟩
  refine z_icmp_ne hC (pc := 15) 22 dX12_attribute_15 (by decide) (fun c9 => ?_) (fun c9 => ?_)
  · refine z_aload_n hC (pc := 22) 1 dX12_attribute_22 rfl rfl ?_
    refine u_get hC hw5 (pc := 23) zf12 5 (hE.o12 h0) rfl dX12_attribute_23 zw713 (kk := fun va10 ta10 fa10 => ?_)
    obtain ⟨a10, ma10, rfl⟩ := ta10
    refine z_aload_n hC (pc := 26) 1 dX12_attribute_26 rfl rfl ?_
    refine u_get hC hw5 (pc := 27) zf12 1 (hE.o12 h0) rfl dX12_attribute_27 zw709 (kk := fun va11 ta11 fa11 => ?_)
    obtain ⟨a11, ma11, rfl⟩ := ta11
    refine z_iload_n hC (pc := 30) 0 dX12_attribute_30 rfl rfl ?_
    refine z_iload_n hC (pc := 31) 2 dX12_attribute_31 rfl rfl ?_
    obtain ⟨q12, hqq12⟩ := hE.o8 ma10
    refine t_callVi hC hw5 (pc := 32) (As := [.ref a11, .int x4, .int x1]) (kX8_addAttribute l G T κ hst hE ma10 (Or.inl ma11)) trivial dmX8_addAttribute zf8 hqq12 dX12_attribute_32 zw887 rfl rfl (Nat.le_of_ble_eq_true rfl) (Nat.le_of_ble_eq_true rfl) (Nat.le_of_ble_eq_true rfl) (Nat.le_of_ble_eq_true rfl) (Nat.le_of_ble_eq_true rfl) (fun _ _ _ h => nomatch h) (fun x14 cw13 nw13 w13 hw13 pw13 => ?_)
    obtain ⟨rfl, rfl, kw13⟩ := pw13
    refine z_lvs [] rfl ?_
    exact j35 w13 hw13 (tKeep.tr tKeep.rf kw13 rfl) x14
  · refine z_iconst hC (pc := 18) (v := (-1)) dX12_attribute_18 (by decide) ?_
    refine z_goto hC (pc := 19) 35 dX12_attribute_19 (by decide) ?_
    refine z_lvs [] rfl ?_
    exact j35 w5 hw5 tKeep.rf (-1)
set_option maxRecDepth 20000 in
theorem kX12_clear (l : Launch) (G : zG) (T : tT) (κ : Nat → List Nat) (hst : l.stackTraces = false) (hE : tE G T κ) {a0 : Nat} (h0 : a0 ∈ κ 12) : tMi l G T yX12_clear cX12_clear 1 .boolean [] 0 0 0 0 [.ref a0] uT (uPz 0x200000000000000000000000000000000000000000000000000000000000000000000000000000000000000000000000000000000000000000000000000000000000) := by
  refine tMi.intro hst rfl (Nat.le_of_ble_eq_true rfl) ?_
  intro w0 hw0 _ X hC hR hO hX
  refine z_aload_n hC (pc := 0) 0 dX12_clear_0 rfl rfl ?_
  refine u_get hC hw0 (pc := 1) zf12 17 (hE.o12 h0) rfl dX12_clear_1 zw725 (kk := fun vx3 tx3 fx3 => ?_)
  obtain ⟨x3, rfl⟩ := tx3
  refine z_iconst hC (pc := 4) (v := 1) dX12_clear_4 (by decide) ?_
  refine z_icmp_ne hC (pc := 5) 10 dX12_clear_5 (by decide) (fun c4 => ?_) (fun c4 => ?_)
  · refine z_aload_n hC (pc := 10) 0 dX12_clear_10 rfl rfl ?_
    refine u_get hC hw0 (pc := 11) zf12 5 (hE.o12 h0) rfl dX12_clear_11 zw713 (kk := fun va5 ta5 fa5 => ?_)
    obtain ⟨a5, ma5, rfl⟩ := ta5
    refine z_iconst hC (pc := 14) (v := 0) dX12_clear_14 (by decide) ?_
    refine u_put hC hw0 (pc := 15) zf8 13 (hE.o8 ma5) rfl ⟨_, rfl⟩ dX12_clear_15 zw76 rfl rfl rfl (kk := fun w6 hw6 fw6 kw6 => ?_)
    refine z_iconst hC (pc := 18) (v := 1) dX12_clear_18 (by decide) ?_
    exact hR _ _ _ _ _ _ dX12_clear_19 rfl (Nat.le_of_ble_eq_true rfl) (Nat.le_of_ble_eq_true rfl) ⟨hw6, rfl, rfl, (tKeep.tr tKeep.rf kw6 rfl), (Or.inr rfl)⟩
  · refine z_iconst hC (pc := 8) (v := 0) dX12_clear_8 (by decide) ?_
    exact hR _ _ _ _ _ _ dX12_clear_9 rfl (Nat.le_of_ble_eq_true rfl) (Nat.le_of_ble_eq_true rfl) ⟨hw0, rfl, rfl, tKeep.rf, (Or.inl rfl)⟩
set_option maxRecDepth 20000 in
theorem kX12_width (l : Launch) (G : zG) (T : tT) (κ : Nat → List Nat) (hst : l.stackTraces = false) (hE : tE G T κ) {a0 : Nat} (h0 : a0 ∈ κ 12) {x1 : Int32} : tMi l G T yX12_width cX12_width 2 .boolean [] 0 0 0 0 [.ref a0, .int x1] uT (uPz 0x10000000000000000000000000000000000000000000000000000000000000000000000000000000000000000000000000000000000000000000000000000000000000000000000000000000000000000000000000000000000000000000000000000) := by
  refine tMi.intro hst rfl (Nat.le_of_ble_eq_true rfl) ?_
  intro w0 hw0 _ X hC hR hO hX
  refine z_iload_n hC (pc := 0) 1 dX12_width_0 rfl rfl ?_
  have j11 : zS X G 2 w0 [] 0 0 11 [] := by
    refine z_iconst hC (pc := 11) (v := 0) dX12_width_11 (by decide) ?_
    exact hR _ _ _ _ _ _ dX12_width_12 rfl (Nat.le_of_ble_eq_true rfl) (Nat.le_of_ble_eq_true rfl) ⟨hw0, rfl, rfl, tKeep.rf, (Or.inl rfl)⟩
  refine z_if_lt hC (pc := 1) 11 dX12_width_1 (by decide) (fun c4 => ?_) (fun c4 => ?_)
  · refine z_lvs [] rfl ?_
    exact j11
  · refine z_iload_n hC (pc := 4) 1 dX12_width_4 rfl rfl ?_
    refine z_sipush hC (pc := 5) (v := 1000) dX12_width_5 (by decide) ?_
    refine z_icmp_le hC (pc := 8) 13 dX12_width_8 (by decide) (fun c5 => ?_) (fun c5 => ?_)
    · refine z_aload_n hC (pc := 13) 0 dX12_width_13 rfl rfl ?_
      refine z_iload_n hC (pc := 14) 1 dX12_width_14 rfl rfl ?_
      refine u_put hC hw0 (pc := 15) zf12 16 (hE.o12 h0) rfl ⟨_, rfl⟩ dX12_width_15 zw724 rfl rfl rfl (kk := fun w6 hw6 fw6 kw6 => ?_)
      refine z_iconst hC (pc := 18) (v := 1) dX12_width_18 (by decide) ?_
      exact hR _ _ _ _ _ _ dX12_width_19 rfl (Nat.le_of_ble_eq_true rfl) (Nat.le_of_ble_eq_true rfl) ⟨hw6, rfl, rfl, (tKeep.tr tKeep.rf kw6 rfl), (Or.inr rfl)⟩
    · refine z_lvs [] rfl ?_
      exact j11
set_option maxRecDepth 20000 in
theorem kX2_templateOf (l : Launch) (G : zG) (T : tT) (κ : Nat → List Nat) (hst : l.stackTraces = false) (hE : tE G T κ) {a0 : Nat} (h0 : a0 ∈ κ 2) {a1 : Nat} (h1 : tRd G κ a1) {x2 : Int32} {x3 : Int32} : tMi l G T yX2_templateOf cX2_templateOf 5 .int [] 2 50 0 0 [.ref a0, .ref a1, .int x2, .int x3] uT (uPi 0x0) := by
  refine tMi.intro hst rfl (Nat.le_of_ble_eq_true rfl) ?_
  intro w0 hw0 _ X hC hR hO hX
  refine z_iload_n hC (pc := 0) 3 dX2_templateOf_0 rfl rfl ?_
  refine z_iconst hC (pc := 1) (v := 1) dX2_templateOf_1 (by decide) ?_
  have j25 : ∀ (w6 : va_W), tW T w6 → tKeep 0x0 w0 w6 → ∀ (x7 : Int32), zS X G 5 w6 [(0, .ref a0)] 0 0 25 [.int x7] := by
    intro w6 hw6 kw6 x7
    refine z_istore hC (pc := 25) (lv' := [(4, .int x7), (0, .ref a0)]) dX2_templateOf_25 (by decide) rfl ?_
    refine z_iload hC (pc := 27) 0 dX2_templateOf_27 rfl ?_
    refine z_iconst hC (pc := 29) (v := (-1)) dX2_templateOf_29 (by decide) ?_
    have j50 : ∀ (w8 : va_W), tW T w8 → tKeep 0x0 w6 w8 → ∀ (x9 : Int32), zS X G 5 w8 [] 0 0 50 [.int x9] := by
      intro w8 hw8 kw8 x9
      exact hR _ _ _ _ _ _ dX2_templateOf_50 rfl (Nat.le_of_ble_eq_true rfl) (Nat.le_of_ble_eq_true rfl) ⟨hw8, rfl, rfl, (tKeep.tr (tKeep.tr tKeep.rf kw6 rfl) kw8 rfl)⟩
    refine z_icmp_ne hC (pc := 30) 37 dX2_templateOf_30 (by decide) (fun c10 => ?_) (fun c10 => ?_)
    · refine z_aload_n hC (pc := 37) 1 dX2_templateOf_37 rfl rfl ?_
      refine z_aload_n hC (pc := 38) 1 dX2_templateOf_38 rfl rfl ?_
      refine u_get hC hw6 (pc := 39) zf2 14 (hE.o2 h0) rfl dX2_templateOf_39 zw274 (kk := fun va11 ta11 fa11 => ?_)
      obtain ⟨a11, ma11, rfl⟩ := ta11
      refine z_iload hC (pc := 42) 0 dX2_templateOf_42 rfl ?_
      refine t_callSNi hC hw6 (pc := 44) (As := [.ref a11, .int x7]) (kX12_get l G T κ hst hE ma11) trivial dmX12_get dX2_templateOf_44 zw1559 rfl rfl (Nat.le_of_ble_eq_true rfl) (Nat.le_of_ble_eq_true rfl) (Nat.le_of_ble_eq_true rfl) (Nat.le_of_ble_eq_true rfl) (Nat.le_of_ble_eq_true rfl) (fun _ _ _ h => nomatch h) (fun x13 cw12 nw12 w12 hw12 pw12 => ?_)
      obtain ⟨rfl, rfl, kw12⟩ := pw12
      obtain ⟨q14, hqq14⟩ := hE.o2 h0
      refine t_callVi hC hw12 (pc := 47) (As := [.int x13]) (kX2_textOf l G T κ hst hE h0) trivial dmX2_textOf zf2 hqq14 dX2_templateOf_47 zw1770 rfl rfl (Nat.le_of_ble_eq_true rfl) (Nat.le_of_ble_eq_true rfl) (Nat.le_of_ble_eq_true rfl) (Nat.le_of_ble_eq_true rfl) (Nat.le_of_ble_eq_true rfl) (fun _ _ _ h => nomatch h) (fun x16 cw15 nw15 w15 hw15 pw15 => ?_)
      obtain ⟨rfl, rfl, kw15⟩ := pw15
      refine z_lvs [] rfl ?_
      exact j50 w15 hw15 (tKeep.tr (tKeep.tr tKeep.rf kw12 rfl) kw15 rfl) x16
    · refine z_iconst hC (pc := 33) (v := (-1)) dX2_templateOf_33 (by decide) ?_
      refine z_goto hC (pc := 34) 50 dX2_templateOf_34 (by decide) ?_
      refine z_lvs [] rfl ?_
      exact j50 w6 hw6 tKeep.rf (-1)
  have j11 : zS X G 5 w0 [(0, .ref a0)] 0 0 11 [] := by
    refine z_iconst hC (pc := 11) (v := (-1)) dX2_templateOf_11 (by decide) ?_
    refine z_goto hC (pc := 12) 25 dX2_templateOf_12 (by decide) ?_
    exact j25 w0 hw0 tKeep.rf (-1)
  refine z_icmp_lt hC (pc := 2) 11 dX2_templateOf_2 (by decide) (fun c17 => ?_) (fun c17 => ?_)
  · refine z_lvs [0] rfl ?_
    exact j11
  · refine z_iload_n hC (pc := 5) 3 dX2_templateOf_5 rfl rfl ?_
    refine z_bipush hC (pc := 6) (v := 16) dX2_templateOf_6 (by decide) ?_
    refine z_icmp_le hC (pc := 8) 15 dX2_templateOf_8 (by decide) (fun c18 => ?_) (fun c18 => ?_)
    · refine z_aload_n hC (pc := 15) 0 dX2_templateOf_15 rfl rfl ?_
      refine u_get hC hw0 (pc := 16) zf2 0 (hE.o2 h0) rfl dX2_templateOf_16 zw230 (kk := fun va19 ta19 fa19 => ?_)
      obtain ⟨a19, ma19, rfl⟩ := ta19
      refine z_aload_n hC (pc := 19) 1 dX2_templateOf_19 rfl rfl ?_
      refine z_iload_n hC (pc := 20) 2 dX2_templateOf_20 rfl rfl ?_
      refine z_iload_n hC (pc := 21) 3 dX2_templateOf_21 rfl rfl ?_
      obtain ⟨q20, hqq20⟩ := hE.o6 ma19
      refine t_callVi hC hw0 (pc := 22) (As := [.ref a1, .int x2, .int x3]) (kX6_find l G T κ hst hE ma19 h1) trivial dmX6_find zf6 hqq20 dX2_templateOf_22 zw1769 rfl rfl (Nat.le_of_ble_eq_true rfl) (Nat.le_of_ble_eq_true rfl) (Nat.le_of_ble_eq_true rfl) (Nat.le_of_ble_eq_true rfl) (Nat.le_of_ble_eq_true rfl) (fun _ _ _ h => nomatch h) (fun x22 cw21 nw21 w21 hw21 pw21 => ?_)
      obtain ⟨rfl, rfl, kw21⟩ := pw21
      refine z_lvs [0] rfl ?_
      exact j25 w21 hw21 (tKeep.tr tKeep.rf kw21 rfl) x22
    · refine z_lvs [0] rfl ?_
      exact j11
set_option maxRecDepth 20000 in
theorem kX9_forget (l : Launch) (G : zG) (T : tT) (κ : Nat → List Nat) (hst : l.stackTraces = false) (hE : tE G T κ) {a0 : Nat} (h0 : a0 ∈ κ 9) : tMv l G T yX9_forget cX9_forget 1 [] 1 23 0 0 [.ref a0] uT (uPv 0x0) := by
  refine tMv.intro hst rfl (Nat.le_of_ble_eq_true rfl) ?_
  intro w0 hw0 _ X hC hR hO hX
  refine z_aload_n hC (pc := 0) 0 dX9_forget_0 rfl rfl ?_
  refine u_get hC hw0 (pc := 1) zf9 2 (hE.o9 h0) rfl dX9_forget_1 zw482 (kk := fun va3 ta3 fa3 => ?_)
  obtain ⟨a3, ma3, rfl⟩ := ta3
  refine z_iconst hC (pc := 4) (v := 0) dX9_forget_4 (by decide) ?_
  refine t_callSv hC hw0 (pc := 5) (As := [.ref a3, .int 0]) (kJ7_fill_53178 l G T κ hst hE (hE.sub3 ma3)) trivial dmJ7_fill_53178 dX9_forget_5 zw1795 rfl rfl (Nat.le_of_ble_eq_true rfl) (Nat.le_of_ble_eq_true rfl) (Nat.le_of_ble_eq_true rfl) (Nat.le_of_ble_eq_true rfl) (Nat.le_of_ble_eq_true rfl) (fun _ _ _ h => nomatch h) (fun cw4 nw4 w4 hw4 pw4 => ?_)
  obtain ⟨rfl, rfl, kw4⟩ := pw4
  exact hR _ _ _ _ _ dX9_forget_8 (Nat.le_of_ble_eq_true rfl) (Nat.le_of_ble_eq_true rfl) ⟨hw4, rfl, rfl, (tKeep.tr tKeep.rf kw4 rfl)⟩
set_option maxRecDepth 20000 in
theorem kX3_forget (l : Launch) (G : zG) (T : tT) (κ : Nat → List Nat) (hst : l.stackTraces = false) (hE : tE G T κ) {a0 : Nat} (h0 : a0 ∈ κ 3) {a1 : Nat} (h1 : a1 ∈ κ 2) : tMv l G T yX3_forget cX3_forget 2 [] 0 0 0 0 [.ref a0, .ref a1] uT (uPv 0x9684000000000000000000000000000000000000000000000000) := by
  refine tMv.intro hst rfl (Nat.le_of_ble_eq_true rfl) ?_
  intro w0 hw0 _ X hC hR hO hX
  refine z_aload_n hC (pc := 0) 0 dX3_forget_0 rfl rfl ?_
  refine z_aload_n hC (pc := 1) 1 dX3_forget_1 rfl rfl ?_
  refine u_put hC hw0 (pc := 2) zf3 2 (hE.o3 h0) rfl ⟨_, h1, rfl⟩ dX3_forget_2 zw505 rfl rfl rfl (kk := fun w4 hw4 fw4 kw4 => ?_)
  refine z_aload_n hC (pc := 5) 0 dX3_forget_5 rfl rfl ?_
  refine z_iconst hC (pc := 6) (v := 0) dX3_forget_6 (by decide) ?_
  refine u_put hC hw4 (pc := 7) zf3 7 (hE.o3 h0) rfl ⟨_, rfl⟩ dX3_forget_7 zw513 rfl rfl rfl (kk := fun w5 hw5 fw5 kw5 => ?_)
  refine z_aload_n hC (pc := 10) 0 dX3_forget_10 rfl rfl ?_
  refine z_iconst hC (pc := 11) (v := 1) dX3_forget_11 (by decide) ?_
  refine u_put hC hw5 (pc := 12) zf3 9 (hE.o3 h0) rfl ⟨_, rfl⟩ dX3_forget_12 zw515 rfl rfl rfl (kk := fun w6 hw6 fw6 kw6 => ?_)
  refine z_aload_n hC (pc := 15) 0 dX3_forget_15 rfl rfl ?_
  refine z_iconst hC (pc := 16) (v := 0) dX3_forget_16 (by decide) ?_
  refine u_put hC hw6 (pc := 17) zf3 10 (hE.o3 h0) rfl ⟨_, rfl⟩ dX3_forget_17 zw516 rfl rfl rfl (kk := fun w7 hw7 fw7 kw7 => ?_)
  refine z_aload_n hC (pc := 20) 0 dX3_forget_20 rfl rfl ?_
  refine z_iconst hC (pc := 21) (v := 0) dX3_forget_21 (by decide) ?_
  refine u_put hC hw7 (pc := 22) zf3 12 (hE.o3 h0) rfl ⟨_, rfl⟩ dX3_forget_22 zw519 rfl rfl rfl (kk := fun w8 hw8 fw8 kw8 => ?_)
  refine z_aload_n hC (pc := 25) 0 dX3_forget_25 rfl rfl ?_
  refine z_iconst hC (pc := 26) (v := 0) dX3_forget_26 (by decide) ?_
  refine u_put hC hw8 (pc := 27) zf3 15 (hE.o3 h0) rfl ⟨_, rfl⟩ dX3_forget_27 zw522 rfl rfl rfl (kk := fun w9 hw9 fw9 kw9 => ?_)
  exact hR _ _ _ _ _ dX3_forget_30 (Nat.le_of_ble_eq_true rfl) (Nat.le_of_ble_eq_true rfl) ⟨hw9, rfl, rfl, (tKeep.tr (tKeep.tr (tKeep.tr (tKeep.tr (tKeep.tr (tKeep.tr tKeep.rf kw4 rfl) kw5 rfl) kw6 rfl) kw7 rfl) kw8 rfl) kw9 rfl)⟩
set_option maxRecDepth 20000 in
theorem kX11_freshLine (l : Launch) (G : zG) (T : tT) (κ : Nat → List Nat) (hst : l.stackTraces = false) (hE : tE G T κ) {a0 : Nat} (h0 : a0 ∈ κ 11) : tMv l G T yX11_freshLine cX11_freshLine 1 [] 0 0 0 0 [.ref a0] uT (uPv 0xa4e000000000000000000000000000000000000000000000000000000000000000000000000000000000000000000000000000000000000000000000000000000000000000000000000000000000000000000000000000000000) := by
  refine tMv.intro hst rfl (Nat.le_of_ble_eq_true rfl) ?_
  intro w0 hw0 _ X hC hR hO hX
  refine z_aload_n hC (pc := 0) 0 dX11_freshLine_0 rfl rfl ?_
  refine z_iconst hC (pc := 1) (v := 0) dX11_freshLine_1 (by decide) ?_
  refine u_put hC hw0 (pc := 2) zf11 5 (hE.o11 h0) rfl ⟨_, rfl⟩ dX11_freshLine_2 zw587 rfl rfl rfl (kk := fun w3 hw3 fw3 kw3 => ?_)
  refine z_aload_n hC (pc := 5) 0 dX11_freshLine_5 rfl rfl ?_
  refine z_iconst hC (pc := 6) (v := 1) dX11_freshLine_6 (by decide) ?_
  refine u_put hC hw3 (pc := 7) zf11 6 (hE.o11 h0) rfl (Or.inr rfl) dX11_freshLine_7 zw589 rfl rfl rfl (kk := fun w4 hw4 fw4 kw4 => ?_)
  refine z_aload_n hC (pc := 10) 0 dX11_freshLine_10 rfl rfl ?_
  refine z_iconst hC (pc := 11) (v := 0) dX11_freshLine_11 (by decide) ?_
  refine u_put hC hw4 (pc := 12) zf11 7 (hE.o11 h0) rfl ⟨_, rfl⟩ dX11_freshLine_12 zw591 rfl rfl rfl (kk := fun w5 hw5 fw5 kw5 => ?_)
  refine z_aload_n hC (pc := 15) 0 dX11_freshLine_15 rfl rfl ?_
  refine z_iconst hC (pc := 16) (v := 0) dX11_freshLine_16 (by decide) ?_
  refine u_put hC hw5 (pc := 17) zf11 10 (hE.o11 h0) rfl ⟨_, rfl⟩ dX11_freshLine_17 zw597 rfl rfl rfl (kk := fun w6 hw6 fw6 kw6 => ?_)
  refine z_aload_n hC (pc := 20) 0 dX11_freshLine_20 rfl rfl ?_
  refine z_aload_n hC (pc := 21) 0 dX11_freshLine_21 rfl rfl ?_
  refine u_get hC hw6 (pc := 22) zf11 14 (hE.o11 h0) rfl dX11_freshLine_22 zw603 (kk := fun vx7 tx7 fx7 => ?_)
  obtain ⟨x7, rfl⟩ := tx7
  refine u_put hC hw6 (pc := 25) zf11 13 (hE.o11 h0) rfl ⟨_, rfl⟩ dX11_freshLine_25 zw601 rfl rfl rfl (kk := fun w8 hw8 fw8 kw8 => ?_)
  refine z_aload_n hC (pc := 28) 0 dX11_freshLine_28 rfl rfl ?_
  refine z_iconst hC (pc := 29) (v := 0) dX11_freshLine_29 (by decide) ?_
  refine u_put hC hw8 (pc := 30) zf11 15 (hE.o11 h0) rfl ⟨_, rfl⟩ dX11_freshLine_30 zw605 rfl rfl rfl (kk := fun w9 hw9 fw9 kw9 => ?_)
  exact hR _ _ _ _ _ dX11_freshLine_33 (Nat.le_of_ble_eq_true rfl) (Nat.le_of_ble_eq_true rfl) ⟨hw9, rfl, rfl, (tKeep.tr (tKeep.tr (tKeep.tr (tKeep.tr (tKeep.tr (tKeep.tr tKeep.rf kw3 rfl) kw4 rfl) kw5 rfl) kw6 rfl) kw8 rfl) kw9 rfl)⟩
set_option maxRecDepth 20000 in
theorem kX11_forget (l : Launch) (G : zG) (T : tT) (κ : Nat → List Nat) (hst : l.stackTraces = false) (hE : tE G T κ) {a0 : Nat} (h0 : a0 ∈ κ 11) {a1 : Nat} (h1 : a1 ∈ κ 2) {x2 : Int32} : tMv l G T yX11_forget cX11_forget 3 [] 1 20 0 0 [.ref a0, .ref a1, .int x2] uT (uPv 0xedf800000000000000000000000000000000000000000000000000000000000000000000000000000000000000000000000000000000000000000000000000000000000000000000000000000000000000000000000000000000) := by
  refine tMv.intro hst rfl (Nat.le_of_ble_eq_true rfl) ?_
  intro w0 hw0 _ X hC hR hO hX
  refine z_aload_n hC (pc := 0) 0 dX11_forget_0 rfl rfl ?_
  refine z_aload_n hC (pc := 1) 1 dX11_forget_1 rfl rfl ?_
  refine u_get hC hw0 (pc := 2) zf2 4 (hE.o2 h1) rfl dX11_forget_2 zw248 (kk := fun va5 ta5 fa5 => ?_)
  obtain ⟨a5, ma5, rfl⟩ := ta5
  refine u_put hC hw0 (pc := 5) zf11 11 (hE.o11 h0) rfl ⟨_, ma5, rfl⟩ dX11_forget_5 zw599 rfl rfl rfl (kk := fun w6 hw6 fw6 kw6 => ?_)
  refine z_aload_n hC (pc := 8) 0 dX11_forget_8 rfl rfl ?_
  refine z_iconst hC (pc := 9) (v := 0) dX11_forget_9 (by decide) ?_
  refine u_put hC hw6 (pc := 10) zf11 3 (hE.o11 h0) rfl ⟨_, rfl⟩ dX11_forget_10 zw584 rfl rfl rfl (kk := fun w7 hw7 fw7 kw7 => ?_)
  refine z_aload_n hC (pc := 13) 0 dX11_forget_13 rfl rfl ?_
  refine z_iload_n hC (pc := 14) 2 dX11_forget_14 rfl rfl ?_
  refine u_put hC hw7 (pc := 15) zf11 4 (hE.o11 h0) rfl ⟨_, rfl⟩ dX11_forget_15 zw586 rfl rfl rfl (kk := fun w8 hw8 fw8 kw8 => ?_)
  refine z_aload_n hC (pc := 18) 0 dX11_forget_18 rfl rfl ?_
  refine z_iconst hC (pc := 19) (v := 0) dX11_forget_19 (by decide) ?_
  refine u_put hC hw8 (pc := 20) zf11 8 (hE.o11 h0) rfl ⟨_, rfl⟩ dX11_forget_20 zw593 rfl rfl rfl (kk := fun w9 hw9 fw9 kw9 => ?_)
  refine z_aload_n hC (pc := 23) 0 dX11_forget_23 rfl rfl ?_
  refine z_iconst hC (pc := 24) (v := 0) dX11_forget_24 (by decide) ?_
  refine u_put hC hw9 (pc := 25) zf11 14 (hE.o11 h0) rfl ⟨_, rfl⟩ dX11_forget_25 zw603 rfl rfl rfl (kk := fun w10 hw10 fw10 kw10 => ?_)
  refine z_aload_n hC (pc := 28) 0 dX11_forget_28 rfl rfl ?_
  obtain ⟨q11, hqq11⟩ := hE.o11 h0
  refine t_callVv hC hw10 (pc := 29) (As := []) (kX11_freshLine l G T κ hst hE h0) trivial dmX11_freshLine zf11 hqq11 dX11_forget_29 zw1804 rfl rfl (Nat.le_of_ble_eq_true rfl) (Nat.le_of_ble_eq_true rfl) (Nat.le_of_ble_eq_true rfl) (Nat.le_of_ble_eq_true rfl) (Nat.le_of_ble_eq_true rfl) (fun _ _ _ h => nomatch h) (fun cw12 nw12 w12 hw12 pw12 => ?_)
  obtain ⟨rfl, rfl, kw12⟩ := pw12
  exact hR _ _ _ _ _ dX11_forget_32 (Nat.le_of_ble_eq_true rfl) (Nat.le_of_ble_eq_true rfl) ⟨hw12, rfl, rfl, (tKeep.tr (tKeep.tr (tKeep.tr (tKeep.tr (tKeep.tr (tKeep.tr tKeep.rf kw6 rfl) kw7 rfl) kw8 rfl) kw9 rfl) kw10 rfl) kw12 rfl)⟩
set_option maxRecDepth 20000 in
theorem kX5_plain (l : Launch) (G : zG) (T : tT) (κ : Nat → List Nat) (hst : l.stackTraces = false) (hE : tE G T κ) {a0 : Nat} (h0 : a0 ∈ κ 5) : tMv l G T yX5_plain cX5_plain 1 [] 0 0 0 0 [.ref a0] uT (uPv 0x7800000000000000000000000000000000000000000000000000000000000000000000000000000000000) := by
  refine tMv.intro hst rfl (Nat.le_of_ble_eq_true rfl) ?_
  intro w0 hw0 _ X hC hR hO hX
  refine z_aload_n hC (pc := 0) 0 dX5_plain_0 rfl rfl ?_
  refine z_iconst hC (pc := 1) (v := (-1)) dX5_plain_1 (by decide) ?_
  refine u_put hC hw0 (pc := 2) zf5 15 (hE.o5 h0) rfl ⟨_, rfl⟩ dX5_plain_2 zw657 rfl rfl rfl (kk := fun w3 hw3 fw3 kw3 => ?_)
  refine z_aload_n hC (pc := 5) 0 dX5_plain_5 rfl rfl ?_
  refine z_iconst hC (pc := 6) (v := (-1)) dX5_plain_6 (by decide) ?_
  refine u_put hC hw3 (pc := 7) zf5 16 (hE.o5 h0) rfl ⟨_, rfl⟩ dX5_plain_7 zw658 rfl rfl rfl (kk := fun w4 hw4 fw4 kw4 => ?_)
  refine z_aload_n hC (pc := 10) 0 dX5_plain_10 rfl rfl ?_
  refine z_iconst hC (pc := 11) (v := 0) dX5_plain_11 (by decide) ?_
  refine u_put hC hw4 (pc := 12) zf5 17 (hE.o5 h0) rfl ⟨_, rfl⟩ dX5_plain_12 zw659 rfl rfl rfl (kk := fun w5 hw5 fw5 kw5 => ?_)
  refine z_aload_n hC (pc := 15) 0 dX5_plain_15 rfl rfl ?_
  refine z_iconst hC (pc := 16) (v := (-1)) dX5_plain_16 (by decide) ?_
  refine u_put hC hw5 (pc := 17) zf5 18 (hE.o5 h0) rfl ⟨_, rfl⟩ dX5_plain_17 zw660 rfl rfl rfl (kk := fun w6 hw6 fw6 kw6 => ?_)
  exact hR _ _ _ _ _ dX5_plain_20 (Nat.le_of_ble_eq_true rfl) (Nat.le_of_ble_eq_true rfl) ⟨hw6, rfl, rfl, (tKeep.tr (tKeep.tr (tKeep.tr (tKeep.tr tKeep.rf kw3 rfl) kw4 rfl) kw5 rfl) kw6 rfl)⟩
set_option maxRecDepth 20000 in
theorem kX8_sameName (l : Launch) (G : zG) (T : tT) (κ : Nat → List Nat) (hst : l.stackTraces = false) (hE : tE G T κ) {a0 : Nat} (h0 : a0 ∈ κ 8) {x1 : Int32} {x2 : Int32} : tMi l G T yX8_sameName cX8_sameName 4 .boolean [] 1 25 0 0 [.ref a0, .int x1, .int x2] uT (uPz 0x0) := by
  refine tMi.intro hst rfl (Nat.le_of_ble_eq_true rfl) ?_
  intro w0 hw0 _ X hC hR hO hX
  refine z_aload_n hC (pc := 0) 0 dX8_sameName_0 rfl rfl ?_
  refine u_get hC hw0 (pc := 1) zf8 11 (hE.o8 h0) rfl dX8_sameName_1 zw70 (kk := fun va5 ta5 fa5 => ?_)
  obtain ⟨a5, ma5, rfl⟩ := ta5
  refine z_iload_n hC (pc := 4) 1 dX8_sameName_4 rfl rfl ?_
  refine t_callSNi hC hw0 (pc := 5) (As := [.ref a5, .int x1]) (kX12_get l G T κ hst hE ma5) trivial dmX12_get dX8_sameName_5 zw844 rfl rfl (Nat.le_of_ble_eq_true rfl) (Nat.le_of_ble_eq_true rfl) (Nat.le_of_ble_eq_true rfl) (Nat.le_of_ble_eq_true rfl) (Nat.le_of_ble_eq_true rfl) (fun _ _ _ h => nomatch h) (fun x7 cw6 nw6 w6 hw6 pw6 => ?_)
  obtain ⟨rfl, rfl, kw6⟩ := pw6
  refine z_istore_n hC (pc := 8) (lv' := [(3, .int x7), (0, .ref a0), (1, .int x1), (2, .int x2)]) dX8_sameName_8 rfl (by decide) rfl ?_
  refine z_iload_n hC (pc := 9) 0 dX8_sameName_9 rfl rfl ?_
  refine z_aload_n hC (pc := 10) 1 dX8_sameName_10 rfl rfl ?_
  refine u_getK hC (pc := 11) zf8 11 (tKeep.F kw6 fa5 rfl) dX8_sameName_11 zw70 (kk := ?_)
  refine z_iload_n hC (pc := 14) 3 dX8_sameName_14 rfl rfl ?_
  refine t_callSNi hC hw6 (pc := 15) (As := [.ref a5, .int x2]) (kX12_get l G T κ hst hE ma5) trivial dmX12_get dX8_sameName_15 zw844 rfl rfl (Nat.le_of_ble_eq_true rfl) (Nat.le_of_ble_eq_true rfl) (Nat.le_of_ble_eq_true rfl) (Nat.le_of_ble_eq_true rfl) (Nat.le_of_ble_eq_true rfl) (fun _ _ _ h => nomatch h) (fun x9 cw8 nw8 w8 hw8 pw8 => ?_)
  obtain ⟨rfl, rfl, kw8⟩ := pw8
  have j49 : ∀ (w10 : va_W), tW T w10 → tKeep 0x0 w8 w10 → ∀ (x11 : Int32), tZ (.int x11) → zS X G 4 w10 [] 0 0 49 [.int x11] := by
    intro w10 hw10 kw10 x11 zx11
    exact hR _ _ _ _ _ _ dX8_sameName_49 (t_nZ zx11) (Nat.le_of_ble_eq_true rfl) (Nat.le_of_ble_eq_true rfl) ⟨hw10, rfl, rfl, (tKeep.tr (tKeep.tr (tKeep.tr tKeep.rf kw6 rfl) kw8 rfl) kw10 rfl), zx11⟩
  have j48 : ∀ (w12 : va_W), tW T w12 → tKeep 0x0 w8 w12 → zS X G 4 w12 [] 0 0 48 [] := by
    intro w12 hw12 kw12
    refine z_iconst hC (pc := 48) (v := 0) dX8_sameName_48 (by decide) ?_
    exact j49 w12 hw12 (tKeep.tr tKeep.rf kw12 rfl) 0 (Or.inl rfl)
  refine z_icmp_ne hC (pc := 18) 48 dX8_sameName_18 (by decide) (fun c13 => ?_) (fun c13 => ?_)
  · refine z_lvs [] rfl ?_
    exact j48 w8 hw8 tKeep.rf
  · refine z_aload_n hC (pc := 21) 1 dX8_sameName_21 rfl rfl ?_
    refine u_get hC hw8 (pc := 22) zf8 10 (hE.o8 h0) rfl dX8_sameName_22 zw68 (kk := fun va14 ta14 fa14 => ?_)
    obtain ⟨a14, ma14, rfl⟩ := ta14
    refine z_iload_n hC (pc := 25) 2 dX8_sameName_25 rfl rfl ?_
    refine z_bipush hC (pc := 26) (v := 16) dX8_sameName_26 (by decide) ?_
    refine z_imul hC (pc := 28) (v := (x1 * 16)) dX8_sameName_28 rfl ?_
    refine z_aload_n hC (pc := 29) 1 dX8_sameName_29 rfl rfl ?_
    refine u_getK hC (pc := 30) zf8 10 fa14 dX8_sameName_30 zw68 (kk := ?_)
    refine z_iload_n hC (pc := 33) 3 dX8_sameName_33 rfl rfl ?_
    refine z_bipush hC (pc := 34) (v := 16) dX8_sameName_34 (by decide) ?_
    refine z_imul hC (pc := 36) (v := (x2 * 16)) dX8_sameName_36 rfl ?_
    refine z_iload_n hC (pc := 37) 0 dX8_sameName_37 rfl rfl ?_
    refine t_callSNi hC hw8 (pc := 38) (As := [.ref a14, .int (x1 * 16), .ref a14, .int (x2 * 16), .int x7]) (kX12_same l G T κ hst hE (Or.inl ma14) (Or.inl ma14)) trivial dmX12_same dX8_sameName_38 zw867 rfl rfl (Nat.le_of_ble_eq_true rfl) (Nat.le_of_ble_eq_true rfl) (Nat.le_of_ble_eq_true rfl) (Nat.le_of_ble_eq_true rfl) (Nat.le_of_ble_eq_true rfl) (fun _ _ _ h => nomatch h) (fun x16 cw15 nw15 w15 hw15 pw15 => ?_)
    obtain ⟨rfl, rfl, kw15, zx16⟩ := pw15
    refine z_if_eq hC (pc := 41) 48 dX8_sameName_41 (by decide) (fun c17 => ?_) (fun c17 => ?_)
    · refine z_lvs [] rfl ?_
      exact j48 w15 hw15 (tKeep.tr tKeep.rf kw15 rfl)
    · refine z_iconst hC (pc := 44) (v := 1) dX8_sameName_44 (by decide) ?_
      refine z_goto hC (pc := 45) 49 dX8_sameName_45 (by decide) ?_
      refine z_lvs [] rfl ?_
      exact j49 w15 hw15 (tKeep.tr tKeep.rf kw15 rfl) 1 (Or.inr rfl)
set_option maxRecDepth 20000 in
theorem kX8_isLater (l : Launch) (G : zG) (T : tT) (κ : Nat → List Nat) (hst : l.stackTraces = false) (hE : tE G T κ) {a0 : Nat} (h0 : a0 ∈ κ 8) {x1 : Int32} : tMi l G T yX8_isLater cX8_isLater 3 .boolean [] 2 48 0 0 [.ref a0, .int x1] uT (uPz 0x0) := by
  refine tMi.intro hst rfl (Nat.le_of_ble_eq_true rfl) ?_
  intro w0 hw0 _ X hC hR hO hX
  refine z_iconst hC (pc := 0) (v := 0) dX8_isLater_0 (by decide) ?_
  refine z_istore_n hC (pc := 1) (lv' := [(2, .int 0), (0, .ref a0), (1, .int x1)]) dX8_isLater_1 rfl (by decide) rfl ?_
  have j2 : ∀ (d2 : Nat), ∀ (w4 : va_W), tW T w4 → tKeep 0x0 w0 w4 → ∀ (x5 : Int32), ¬ x5 < 0 → (2 ^ 31 - (x5 : Int32).toInt).toNat ≤ d2 → zS X G 3 w4 [(0, .ref a0), (1, .int x1), (2, .int x5)] 0 0 2 [] := by
    intro d2
    induction d2 with
    | zero => intro w4 hw4 kw4 x5 v6 hd2; exact (t_zero hd2).elim
    | succ d2 ih2 =>
      intro w4 hw4 kw4 x5 v6 hd2
      refine z_iload_n hC (pc := 2) 2 dX8_isLater_2 rfl rfl ?_
      refine z_iload_n hC (pc := 3) 1 dX8_isLater_3 rfl rfl ?_
      refine z_icmp_ge hC (pc := 4) 24 dX8_isLater_4 (by decide) (fun c7 => ?_) (fun c7 => ?_)
      · refine z_iconst hC (pc := 24) (v := 0) dX8_isLater_24 (by decide) ?_
        exact hR _ _ _ _ _ _ dX8_isLater_25 rfl (Nat.le_of_ble_eq_true rfl) (Nat.le_of_ble_eq_true rfl) ⟨hw4, rfl, rfl, (tKeep.tr tKeep.rf kw4 rfl), (Or.inl rfl)⟩
      · refine z_aload_n hC (pc := 7) 0 dX8_isLater_7 rfl rfl ?_
        refine z_iload_n hC (pc := 8) 1 dX8_isLater_8 rfl rfl ?_
        refine z_iload_n hC (pc := 9) 2 dX8_isLater_9 rfl rfl ?_
        obtain ⟨q8, hqq8⟩ := hE.o8 h0
        refine t_callVi hC hw4 (pc := 10) (As := [.int x1, .int x5]) (kX8_sameName l G T κ hst hE h0) trivial dmX8_sameName zf8 hqq8 dX8_isLater_10 zw1826 rfl rfl (Nat.le_of_ble_eq_true rfl) (Nat.le_of_ble_eq_true rfl) (Nat.le_of_ble_eq_true rfl) (Nat.le_of_ble_eq_true rfl) (Nat.le_of_ble_eq_true rfl) (fun _ _ _ h => nomatch h) (fun x10 cw9 nw9 w9 hw9 pw9 => ?_)
        obtain ⟨rfl, rfl, kw9, zx10⟩ := pw9
        refine z_if_eq hC (pc := 13) 18 dX8_isLater_13 (by decide) (fun c11 => ?_) (fun c11 => ?_)
        · refine z_iinc hC (pc := 18) (v := (x5 + 1)) (lv' := [(2, .int (x5 + 1)), (0, .ref a0), (1, .int x1)]) 2 dX8_isLater_18 rfl (congrArg _ (by decide)) (by decide) rfl ?_
          refine z_goto hC (pc := 21) 2 dX8_isLater_21 (by decide) ?_
          refine z_lvs [1, 2, 0] rfl ?_
          exact ih2 w9 hw9 (tKeep.tr (tKeep.tr tKeep.rf kw4 rfl) kw9 rfl) (x5 + 1) (t_nnI v6 (Int32.not_le.mp c7)) (t_up (Int32.not_le.mp c7) hd2)
        · refine z_iconst hC (pc := 16) (v := 1) dX8_isLater_16 (by decide) ?_
          exact hR _ _ _ _ _ _ dX8_isLater_17 rfl (Nat.le_of_ble_eq_true rfl) (Nat.le_of_ble_eq_true rfl) ⟨hw9, rfl, rfl, (tKeep.tr (tKeep.tr tKeep.rf kw4 rfl) kw9 rfl), (Or.inr rfl)⟩
  refine z_lvs [1, 2, 0] rfl ?_
  exact j2 _ w0 hw0 tKeep.rf 0 (by decide) (Nat.le_refl _)
set_option maxRecDepth 20000 in
theorem kX3_isHouse (l : Launch) (G : zG) (T : tT) (κ : Nat → List Nat) (hst : l.stackTraces = false) (hE : tE G T κ) {a0 : Nat} (h0 : a0 ∈ κ 3) {x1 : Int32} {x2 : Int32} : tMi l G T yX3_isHouse cX3_isHouse 3 .boolean [] 0 0 0 0 [.ref a0, .int x1, .int x2] uT (uPz 0x0) := by
  refine tMi.intro hst rfl (Nat.le_of_ble_eq_true rfl) ?_
  intro w0 hw0 _ X hC hR hO hX
  refine z_iload_n hC (pc := 0) 1 dX3_isHouse_0 rfl rfl ?_
  have j45 : ∀ (x5 : Int32), tZ (.int x5) → zS X G 3 w0 [] 0 0 45 [.int x5] := by
    intro x5 zx5
    exact hR _ _ _ _ _ _ dX3_isHouse_45 (t_nZ zx5) (Nat.le_of_ble_eq_true rfl) (Nat.le_of_ble_eq_true rfl) ⟨hw0, rfl, rfl, tKeep.rf, zx5⟩
  have j44 : zS X G 3 w0 [] 0 0 44 [] := by
    refine z_iconst hC (pc := 44) (v := 0) dX3_isHouse_44 (by decide) ?_
    exact j45 0 (Or.inl rfl)
  refine z_if_lt hC (pc := 1) 44 dX3_isHouse_1 (by decide) (fun c6 => ?_) (fun c6 => ?_)
  · refine z_lvs [] rfl ?_
    exact j44
  · refine z_iload_n hC (pc := 4) 1 dX3_isHouse_4 rfl rfl ?_
    refine z_aload_n hC (pc := 5) 0 dX3_isHouse_5 rfl rfl ?_
    refine u_get hC hw0 (pc := 6) zf3 0 (hE.o3 h0) rfl dX3_isHouse_6 zw502 (kk := fun va7 ta7 fa7 => ?_)
    obtain ⟨a7, ma7, rfl⟩ := ta7
    refine u_get hC hw0 (pc := 9) zf8 7 (hE.o8 ma7) rfl dX3_isHouse_9 zw63 (kk := fun vx8 tx8 fx8 => ?_)
    obtain ⟨x8, rfl, nx8⟩ := tx8
    refine z_icmp_ge hC (pc := 12) 44 dX3_isHouse_12 (by decide) (fun c9 => ?_) (fun c9 => ?_)
    · refine z_lvs [] rfl ?_
      exact j44
    · refine z_iload_n hC (pc := 15) 1 dX3_isHouse_15 rfl rfl ?_
      refine z_aload_n hC (pc := 16) 0 dX3_isHouse_16 rfl rfl ?_
      refine u_getK hC (pc := 17) zf3 0 fa7 dX3_isHouse_17 zw502 (kk := ?_)
      refine u_get hC hw0 (pc := 20) zf8 0 (hE.o8 ma7) rfl dX3_isHouse_20 zw48 (kk := fun va10 ta10 fa10 => ?_)
      obtain ⟨a10, ma10, rfl⟩ := ta10
      obtain ⟨N11, gN11, AN11⟩ := hE.ints ma10
      have hN11 : N11 < 2 ^ 31 := Nat.lt_trans gN11 (by decide)
      refine u_alenI hC hw0 (pc := 23) AN11 dX3_isHouse_23 ?_
      refine z_icmp_ge hC (pc := 24) 44 dX3_isHouse_24 (by decide) (fun c12 => ?_) (fun c12 => ?_)
      · refine z_lvs [] rfl ?_
        exact j44
      · refine z_aload_n hC (pc := 27) 0 dX3_isHouse_27 rfl rfl ?_
        refine u_getK hC (pc := 28) zf3 0 fa7 dX3_isHouse_28 zw502 (kk := ?_)
        refine u_getK hC (pc := 31) zf8 0 fa10 dX3_isHouse_31 zw48 (kk := ?_)
        refine z_iload_n hC (pc := 34) 1 dX3_isHouse_34 rfl rfl ?_
        refine t_iald hC hw0 (pc := 35) AN11 dX3_isHouse_35 (t_inB hN11 c6 c12) (fun x13 _ => ?_)
        refine z_iload_n hC (pc := 36) 2 dX3_isHouse_36 rfl rfl ?_
        refine z_icmp_ne hC (pc := 37) 44 dX3_isHouse_37 (by decide) (fun c14 => ?_) (fun c14 => ?_)
        · refine z_lvs [] rfl ?_
          exact j44
        · refine z_iconst hC (pc := 40) (v := 1) dX3_isHouse_40 (by decide) ?_
          refine z_goto hC (pc := 41) 45 dX3_isHouse_41 (by decide) ?_
          refine z_lvs [] rfl ?_
          exact j45 1 (Or.inr rfl)
set_option maxRecDepth 20000 in
theorem kX3_sortOf (l : Launch) (G : zG) (T : tT) (κ : Nat → List Nat) (hst : l.stackTraces = false) (hE : tE G T κ) {x0 : Int32} : tMi l G T yX3_sortOf cX3_sortOf 1 .int [] 0 0 0 0 [.int x0] uT (uPi 0x0) := by
  refine tMi.intro hst rfl (Nat.le_of_ble_eq_true rfl) ?_
  intro w0 hw0 _ X hC hR hO hX
  refine z_iload_n hC (pc := 0) 0 dX3_sortOf_0 rfl rfl ?_
  have j12 : ∀ (x3 : Int32), zS X G 1 w0 [] 0 0 12 [.int x3] := by
    intro x3
    exact hR _ _ _ _ _ _ dX3_sortOf_12 rfl (Nat.le_of_ble_eq_true rfl) (Nat.le_of_ble_eq_true rfl) ⟨hw0, rfl, rfl, tKeep.rf⟩
  refine z_if_ge hC (pc := 1) 8 dX3_sortOf_1 (by decide) (fun c4 => ?_) (fun c4 => ?_)
  · refine z_iload_n hC (pc := 8) 0 dX3_sortOf_8 rfl rfl ?_
    refine z_ldc hC (pc := 9) (v := (-134217728)) dX3_sortOf_9 zw1847 ?_
    refine z_iand hC (pc := 11) (v := (x0 &&& (-134217728))) dX3_sortOf_11 rfl ?_
    refine z_lvs [] rfl ?_
    exact j12 (x0 &&& (-134217728))
  · refine z_iload_n hC (pc := 4) 0 dX3_sortOf_4 rfl rfl ?_
    refine z_goto hC (pc := 5) 12 dX3_sortOf_5 (by decide) ?_
    refine z_lvs [] rfl ?_
    exact j12 x0
set_option maxRecDepth 20000 in
theorem kX3_isMany (l : Launch) (G : zG) (T : tT) (κ : Nat → List Nat) (hst : l.stackTraces = false) (hE : tE G T κ) {a0 : Nat} (h0 : a0 ∈ κ 3) {x1 : Int32} : tMi l G T yX3_isMany cX3_isMany 2 .boolean [] 0 0 0 0 [.ref a0, .int x1] uT (uPz 0x0) := by
  refine tMi.intro hst rfl (Nat.le_of_ble_eq_true rfl) ?_
  intro w0 hw0 _ X hC hR hO hX
  refine z_iload_n hC (pc := 0) 1 dX3_isMany_0 rfl rfl ?_
  have j27 : zS X G 2 w0 [(1, .int x1)] 0 0 27 [] := by
    refine z_iload_n hC (pc := 27) 0 dX3_isMany_27 rfl rfl ?_
    have j45 : ∀ (x4 : Int32), tZ (.int x4) → zS X G 2 w0 [] 0 0 45 [.int x4] := by
      intro x4 zx4
      exact hR _ _ _ _ _ _ dX3_isMany_45 (t_nZ zx4) (Nat.le_of_ble_eq_true rfl) (Nat.le_of_ble_eq_true rfl) ⟨hw0, rfl, rfl, tKeep.rf, zx4⟩
    have j44 : zS X G 2 w0 [] 0 0 44 [] := by
      refine z_iconst hC (pc := 44) (v := 0) dX3_isMany_44 (by decide) ?_
      exact j45 0 (Or.inl rfl)
    refine z_if_lt hC (pc := 28) 44 dX3_isMany_28 (by decide) (fun c5 => ?_) (fun c5 => ?_)
    · refine z_lvs [] rfl ?_
      exact j44
    · refine z_iload_n hC (pc := 31) 0 dX3_isMany_31 rfl rfl ?_
      refine z_ldc hC (pc := 32) (v := (-134217728)) dX3_isMany_32 zw1847 ?_
      refine z_iand hC (pc := 34) (v := (x1 &&& (-134217728))) dX3_isMany_34 rfl ?_
      refine z_ldc hC (pc := 35) (v := 805306368) dX3_isMany_35 zw1848 ?_
      refine z_icmp_ne hC (pc := 37) 44 dX3_isMany_37 (by decide) (fun c6 => ?_) (fun c6 => ?_)
      · refine z_lvs [] rfl ?_
        exact j44
      · refine z_iconst hC (pc := 40) (v := 1) dX3_isMany_40 (by decide) ?_
        refine z_goto hC (pc := 41) 45 dX3_isMany_41 (by decide) ?_
        refine z_lvs [] rfl ?_
        exact j45 1 (Or.inr rfl)
  refine z_if_lt hC (pc := 1) 27 dX3_isMany_1 (by decide) (fun c7 => ?_) (fun c7 => ?_)
  · refine z_lvs [1] rfl ?_
    exact j27
  · refine z_iload_n hC (pc := 4) 1 dX3_isMany_4 rfl rfl ?_
    refine z_aload_n hC (pc := 5) 0 dX3_isMany_5 rfl rfl ?_
    refine u_get hC hw0 (pc := 6) zf3 0 (hE.o3 h0) rfl dX3_isMany_6 zw502 (kk := fun va8 ta8 fa8 => ?_)
    obtain ⟨a8, ma8, rfl⟩ := ta8
    refine u_get hC hw0 (pc := 9) zf8 7 (hE.o8 ma8) rfl dX3_isMany_9 zw63 (kk := fun vx9 tx9 fx9 => ?_)
    obtain ⟨x9, rfl, nx9⟩ := tx9
    refine z_icmp_ge hC (pc := 12) 27 dX3_isMany_12 (by decide) (fun c10 => ?_) (fun c10 => ?_)
    · refine z_lvs [1] rfl ?_
      exact j27
    · refine z_iload_n hC (pc := 15) 1 dX3_isMany_15 rfl rfl ?_
      refine z_aload_n hC (pc := 16) 0 dX3_isMany_16 rfl rfl ?_
      refine u_getK hC (pc := 17) zf3 0 fa8 dX3_isMany_17 zw502 (kk := ?_)
      refine u_get hC hw0 (pc := 20) zf8 0 (hE.o8 ma8) rfl dX3_isMany_20 zw48 (kk := fun va11 ta11 fa11 => ?_)
      obtain ⟨a11, ma11, rfl⟩ := ta11
      obtain ⟨N12, gN12, AN12⟩ := hE.ints ma11
      have hN12 : N12 < 2 ^ 31 := Nat.lt_trans gN12 (by decide)
      refine u_alenI hC hw0 (pc := 23) AN12 dX3_isMany_23 ?_
      refine z_icmp_lt hC (pc := 24) 46 dX3_isMany_24 (by decide) (fun c13 => ?_) (fun c13 => ?_)
      · refine z_aload_n hC (pc := 46) 0 dX3_isMany_46 rfl rfl ?_
        refine u_getK hC (pc := 47) zf3 0 fa8 dX3_isMany_47 zw502 (kk := ?_)
        refine u_getK hC (pc := 50) zf8 0 fa11 dX3_isMany_50 zw48 (kk := ?_)
        refine z_iload_n hC (pc := 53) 1 dX3_isMany_53 rfl rfl ?_
        refine t_iald hC hw0 (pc := 54) AN12 dX3_isMany_54 (t_inB hN12 c7 (Int32.not_le.mpr c13)) (fun x14 _ => ?_)
        refine z_iconst hC (pc := 55) (v := 3) dX3_isMany_55 (by decide) ?_
        have j77 : ∀ (x15 : Int32), tZ (.int x15) → zS X G 2 w0 [] 0 0 77 [.int x15] := by
          intro x15 zx15
          exact hR _ _ _ _ _ _ dX3_isMany_77 (t_nZ zx15) (Nat.le_of_ble_eq_true rfl) (Nat.le_of_ble_eq_true rfl) ⟨hw0, rfl, rfl, tKeep.rf, zx15⟩
        have j72 : zS X G 2 w0 [] 0 0 72 [] := by
          refine z_iconst hC (pc := 72) (v := 1) dX3_isMany_72 (by decide) ?_
          refine z_goto hC (pc := 73) 77 dX3_isMany_73 (by decide) ?_
          exact j77 1 (Or.inr rfl)
        refine z_icmp_eq hC (pc := 56) 72 dX3_isMany_56 (by decide) (fun c16 => ?_) (fun c16 => ?_)
        · refine z_lvs [] rfl ?_
          exact j72
        · refine z_aload_n hC (pc := 59) 0 dX3_isMany_59 rfl rfl ?_
          refine u_getK hC (pc := 60) zf3 0 fa8 dX3_isMany_60 zw502 (kk := ?_)
          refine u_getK hC (pc := 63) zf8 0 fa11 dX3_isMany_63 zw48 (kk := ?_)
          refine z_iload_n hC (pc := 66) 1 dX3_isMany_66 rfl rfl ?_
          refine t_iald hC hw0 (pc := 67) AN12 dX3_isMany_67 (t_inB hN12 c7 (Int32.not_le.mpr c13)) (fun x17 _ => ?_)
          refine z_iconst hC (pc := 68) (v := 4) dX3_isMany_68 (by decide) ?_
          refine z_icmp_ne hC (pc := 69) 76 dX3_isMany_69 (by decide) (fun c18 => ?_) (fun c18 => ?_)
          · refine z_iconst hC (pc := 76) (v := 0) dX3_isMany_76 (by decide) ?_
            refine z_lvs [] rfl ?_
            exact j77 0 (Or.inl rfl)
          · refine z_lvs [] rfl ?_
            exact j72
      · refine z_lvs [1] rfl ?_
        exact j27
set_option maxRecDepth 20000 in
theorem kX3_countOf (l : Launch) (G : zG) (T : tT) (κ : Nat → List Nat) (hst : l.stackTraces = false) (hE : tE G T κ) {a0 : Nat} (h0 : a0 ∈ κ 3) {x1 : Int32} : tMi l G T yX3_countOf cX3_countOf 2 .int [] 1 21 0 0 [.ref a0, .int x1] uT (uPi 0x0) := by
  refine tMi.intro hst rfl (Nat.le_of_ble_eq_true rfl) ?_
  intro w0 hw0 _ X hC hR hO hX
  refine z_iload_n hC (pc := 0) 1 dX3_countOf_0 rfl rfl ?_
  refine z_if_ge hC (pc := 1) 6 dX3_countOf_1 (by decide) (fun c4 => ?_) (fun c4 => ?_)
  · refine z_iload_n hC (pc := 6) 1 dX3_countOf_6 rfl rfl ?_
    refine t_callSi hC hw0 (pc := 7) (As := [.int x1]) (kX3_sortOf l G T κ hst hE) trivial dmX3_sortOf dX3_countOf_7 zw1844 rfl rfl (Nat.le_of_ble_eq_true rfl) (Nat.le_of_ble_eq_true rfl) (Nat.le_of_ble_eq_true rfl) (Nat.le_of_ble_eq_true rfl) (Nat.le_of_ble_eq_true rfl) (fun _ _ _ h => nomatch h) (fun x6 cw5 nw5 w5 hw5 pw5 => ?_)
    obtain ⟨rfl, rfl, kw5⟩ := pw5
    refine z_ldc hC (pc := 10) (v := 805306368) dX3_countOf_10 zw1848 ?_
    refine z_icmp_ne hC (pc := 12) 37 dX3_countOf_12 (by decide) (fun c7 => ?_) (fun c7 => ?_)
    · refine z_aload_n hC (pc := 37) 0 dX3_countOf_37 rfl rfl ?_
      refine z_iload_n hC (pc := 38) 1 dX3_countOf_38 rfl rfl ?_
      obtain ⟨q8, hqq8⟩ := hE.o3 h0
      refine t_callVi hC hw5 (pc := 39) (As := [.int x1]) (kX3_isMany l G T κ hst hE h0) trivial dmX3_isMany zf3 hqq8 dX3_countOf_39 zw1851 rfl rfl (Nat.le_of_ble_eq_true rfl) (Nat.le_of_ble_eq_true rfl) (Nat.le_of_ble_eq_true rfl) (Nat.le_of_ble_eq_true rfl) (Nat.le_of_ble_eq_true rfl) (fun _ _ _ h => nomatch h) (fun x10 cw9 nw9 w9 hw9 pw9 => ?_)
      obtain ⟨rfl, rfl, kw9, zx10⟩ := pw9
      have j60 : ∀ (w11 : va_W), tW T w11 → tKeep 0x0 w9 w11 → ∀ (x12 : Int32), zS X G 2 w11 [] 0 0 60 [.int x12] := by
        intro w11 hw11 kw11 x12
        exact hR _ _ _ _ _ _ dX3_countOf_60 rfl (Nat.le_of_ble_eq_true rfl) (Nat.le_of_ble_eq_true rfl) ⟨hw11, rfl, rfl, (tKeep.tr (tKeep.tr (tKeep.tr tKeep.rf kw5 rfl) kw9 rfl) kw11 rfl)⟩
      refine z_if_eq hC (pc := 42) 59 dX3_countOf_42 (by decide) (fun c13 => ?_) (fun c13 => ?_)
      · refine z_iconst hC (pc := 59) (v := 1) dX3_countOf_59 (by decide) ?_
        refine z_lvs [] rfl ?_
        exact j60 w9 hw9 tKeep.rf 1
      · refine z_aload_n hC (pc := 45) 0 dX3_countOf_45 rfl rfl ?_
        refine u_get hC hw9 (pc := 46) zf3 0 (hE.o3 h0) rfl dX3_countOf_46 zw502 (kk := fun va14 ta14 fa14 => ?_)
        obtain ⟨a14, ma14, rfl⟩ := ta14
        refine u_get hC hw9 (pc := 49) zf8 4 (hE.o8 ma14) rfl dX3_countOf_49 zw56 (kk := fun va15 ta15 fa15 => ?_)
        obtain ⟨a15, ma15, rfl⟩ := ta15
        refine z_iload_n hC (pc := 52) 1 dX3_countOf_52 rfl rfl ?_
        refine t_callSNi hC hw9 (pc := 53) (As := [.ref a15, .int x1]) (kX12_get l G T κ hst hE ma15) trivial dmX12_get dX3_countOf_53 zw1850 rfl rfl (Nat.le_of_ble_eq_true rfl) (Nat.le_of_ble_eq_true rfl) (Nat.le_of_ble_eq_true rfl) (Nat.le_of_ble_eq_true rfl) (Nat.le_of_ble_eq_true rfl) (fun _ _ _ h => nomatch h) (fun x17 cw16 nw16 w16 hw16 pw16 => ?_)
        obtain ⟨rfl, rfl, kw16⟩ := pw16
        refine z_goto hC (pc := 56) 60 dX3_countOf_56 (by decide) ?_
        refine z_lvs [] rfl ?_
        exact j60 w16 hw16 (tKeep.tr tKeep.rf kw16 rfl) x17
    · refine z_iload_n hC (pc := 15) 1 dX3_countOf_15 rfl rfl ?_
      refine z_ldc hC (pc := 16) (v := 805306368) dX3_countOf_16 zw1848 ?_
      have j36 : ∀ (w18 : va_W), tW T w18 → tKeep 0x0 w5 w18 → ∀ (x19 : Int32), zS X G 2 w18 [] 0 0 36 [.int x19] := by
        intro w18 hw18 kw18 x19
        exact hR _ _ _ _ _ _ dX3_countOf_36 rfl (Nat.le_of_ble_eq_true rfl) (Nat.le_of_ble_eq_true rfl) ⟨hw18, rfl, rfl, (tKeep.tr (tKeep.tr tKeep.rf kw5 rfl) kw18 rfl)⟩
      refine z_icmp_ne hC (pc := 18) 25 dX3_countOf_18 (by decide) (fun c20 => ?_) (fun c20 => ?_)
      · refine z_aload_n hC (pc := 25) 0 dX3_countOf_25 rfl rfl ?_
        refine u_get hC hw5 (pc := 26) zf3 8 (hE.o3 h0) rfl dX3_countOf_26 zw514 (kk := fun va21 ta21 fa21 => ?_)
        obtain ⟨a21, ma21, rfl⟩ := ta21
        refine z_iload_n hC (pc := 29) 1 dX3_countOf_29 rfl rfl ?_
        refine z_ldc hC (pc := 30) (v := 134217727) dX3_countOf_30 zw1849 ?_
        refine z_iand hC (pc := 32) (v := (x1 &&& 134217727)) dX3_countOf_32 rfl ?_
        refine t_callSNi hC hw5 (pc := 33) (As := [.ref a21, .int (x1 &&& 134217727)]) (kX12_get l G T κ hst hE ma21) trivial dmX12_get dX3_countOf_33 zw1850 rfl rfl (Nat.le_of_ble_eq_true rfl) (Nat.le_of_ble_eq_true rfl) (Nat.le_of_ble_eq_true rfl) (Nat.le_of_ble_eq_true rfl) (Nat.le_of_ble_eq_true rfl) (fun _ _ _ h => nomatch h) (fun x23 cw22 nw22 w22 hw22 pw22 => ?_)
        obtain ⟨rfl, rfl, kw22⟩ := pw22
        refine z_lvs [] rfl ?_
        exact j36 w22 hw22 (tKeep.tr tKeep.rf kw22 rfl) x23
      · refine z_iconst hC (pc := 21) (v := 0) dX3_countOf_21 (by decide) ?_
        refine z_goto hC (pc := 22) 36 dX3_countOf_22 (by decide) ?_
        refine z_lvs [] rfl ?_
        exact j36 w5 hw5 tKeep.rf 0
  · refine z_iconst hC (pc := 4) (v := 0) dX3_countOf_4 (by decide) ?_
    exact hR _ _ _ _ _ _ dX3_countOf_5 rfl (Nat.le_of_ble_eq_true rfl) (Nat.le_of_ble_eq_true rfl) ⟨hw0, rfl, rfl, tKeep.rf⟩
set_option maxRecDepth 20000 in
theorem kX3_counted (l : Launch) (G : zG) (T : tT) (κ : Nat → List Nat) (hst : l.stackTraces = false) (hE : tE G T κ) {a0 : Nat} (h0 : a0 ∈ κ 3) {x1 : Int32} : tMv l G T yX3_counted cX3_counted 2 ["java/lang/IllegalStateException"] 6 81 1 6 [.ref a0, .int x1] uT (uPv 0x400000000000000000000000000000000000000000000000000) := by
  refine tMv.intro hst rfl (Nat.le_of_ble_eq_true rfl) ?_
  intro w0 hw0 _ X hC hR hO hX
  refine z_aload_n hC (pc := 0) 0 dX3_counted_0 rfl rfl ?_
  refine u_get hC hw0 (pc := 1) zf3 10 (hE.o3 h0) rfl dX3_counted_1 zw516 (kk := fun vx4 tx4 fx4 => ?_)
  obtain ⟨x4, rfl⟩ := tx4
  refine z_iload_n hC (pc := 4) 1 dX3_counted_4 rfl rfl ?_
  refine z_iadd hC (pc := 5) (v := (x4 + x1)) dX3_counted_5 rfl ?_
  refine z_sipush hC (pc := 6) (v := 20000) dX3_counted_6 (by decide) ?_
  refine z_icmp_le hC (pc := 9) 20 dX3_counted_9 (by decide) (fun c5 => ?_) (fun c5 => ?_)
  · refine z_aload_n hC (pc := 20) 0 dX3_counted_20 rfl rfl ?_
    refine z_dup hC (pc := 21) dX3_counted_21 rfl ?_
    refine u_getK hC (pc := 22) zf3 10 fx4 dX3_counted_22 zw516 (kk := ?_)
    refine z_iload_n hC (pc := 25) 1 dX3_counted_25 rfl rfl ?_
    refine z_iadd hC (pc := 26) (v := (x4 + x1)) dX3_counted_26 rfl ?_
    refine u_put hC hw0 (pc := 27) zf3 10 (hE.o3 h0) rfl ⟨_, rfl⟩ dX3_counted_27 zw516 rfl rfl rfl (kk := fun w6 hw6 fw6 kw6 => ?_)
    exact hR _ _ _ _ _ dX3_counted_30 (Nat.le_of_ble_eq_true rfl) (Nat.le_of_ble_eq_true rfl) ⟨hw6, rfl, rfl, (tKeep.tr tKeep.rf kw6 rfl)⟩
  · exact hX "java/lang/IllegalStateException" _ _ _ _ _ _ 79 81 exn (by decide) hw0 dX3_counted_12 dX3_counted_15 dX3_counted_16 dX3_counted_19 (by decide +kernel) (by decide +kernel) zw1820 zw20 atg_X3_81 atb_X3_81 ato_X3_81 (by decide) (Nat.le_of_ble_eq_true rfl) (Nat.le_of_ble_eq_true rfl) (Nat.le_of_ble_eq_true rfl)
set_option maxRecDepth 20000 in
theorem kX3_room (l : Launch) (G : zG) (T : tT) (κ : Nat → List Nat) (hst : l.stackTraces = false) (hE : tE G T κ) {a0 : Nat} (h0 : a0 ∈ κ 3) {x1 : Int32} : tMi l G T yX3_room cX3_room 3 .int ["java/lang/IllegalStateException"] 6 81 1 6 [.ref a0, .int x1] uT (uPi 0x200000000000000000000000000000000000000000000000000) := by
  refine tMi.intro hst rfl (Nat.le_of_ble_eq_true rfl) ?_
  intro w0 hw0 _ X hC hR hO hX
  refine z_iload_n hC (pc := 0) 1 dX3_room_0 rfl rfl ?_
  refine z_if_gt hC (pc := 1) 7 dX3_room_1 (by decide) (fun c4 => ?_) (fun c4 => ?_)
  · refine z_aload_n hC (pc := 7) 0 dX3_room_7 rfl rfl ?_
    refine u_get hC hw0 (pc := 8) zf3 9 (hE.o3 h0) rfl dX3_room_8 zw515 (kk := fun vx5 tx5 fx5 => ?_)
    obtain ⟨x5, rfl⟩ := tx5
    refine z_istore_n hC (pc := 11) (lv' := [(2, .int x5), (0, .ref a0), (1, .int x1)]) dX3_room_11 rfl (by decide) rfl ?_
    refine z_iload_n hC (pc := 12) 0 dX3_room_12 rfl rfl ?_
    have j27 : zS X G 3 w0 [] 0 0 27 [] := by
      exact hX "java/lang/IllegalStateException" _ _ _ _ _ _ 79 81 exn (by decide) hw0 dX3_room_27 dX3_room_30 dX3_room_31 dX3_room_34 (by decide +kernel) (by decide +kernel) zw1820 zw20 atg_X3_81 atb_X3_81 ato_X3_81 (by decide) (Nat.le_of_ble_eq_true rfl) (Nat.le_of_ble_eq_true rfl) (Nat.le_of_ble_eq_true rfl)
    refine z_if_lt hC (pc := 13) 27 dX3_room_13 (by decide) (fun c6 => ?_) (fun c6 => ?_)
    · refine z_lvs [] rfl ?_
      exact j27
    · refine z_iload_n hC (pc := 16) 0 dX3_room_16 rfl rfl ?_
      refine z_aload_n hC (pc := 17) 1 dX3_room_17 rfl rfl ?_
      refine u_get hC hw0 (pc := 18) zf3 8 (hE.o3 h0) rfl dX3_room_18 zw514 (kk := fun va7 ta7 fa7 => ?_)
      obtain ⟨a7, ma7, rfl⟩ := ta7
      obtain ⟨N8, gN8, AN8⟩ := hE.ints ma7
      have hN8 : N8 < 2 ^ 31 := Nat.lt_trans gN8 (by decide)
      refine u_alenI hC hw0 (pc := 21) AN8 dX3_room_21 ?_
      refine z_iload_n hC (pc := 22) 2 dX3_room_22 rfl rfl ?_
      refine z_isub hC (pc := 23) (v := ((Int32.ofNat N8) - x1)) dX3_room_23 rfl ?_
      refine z_icmp_lt hC (pc := 24) 35 dX3_room_24 (by decide) (fun c9 => ?_) (fun c9 => ?_)
      · refine z_aload_n hC (pc := 35) 1 dX3_room_35 rfl rfl ?_
        refine u_getK hC (pc := 36) zf3 8 fa7 dX3_room_36 zw514 (kk := ?_)
        refine z_iload_n hC (pc := 39) 0 dX3_room_39 rfl rfl ?_
        refine z_iload_n hC (pc := 40) 2 dX3_room_40 rfl rfl ?_
        refine u_iast hC hw0 (pc := 41) AN8 dX3_room_41 (by have o1 := Int32.le_toInt x1; have o2 := Int32.toInt_lt x1; have o3 : (0 : Int32).toInt = 0 := (by decide); have o4 := t_fl c4; have o5 := Int32.le_toInt x5; have o6 := Int32.toInt_lt x5; have o7 := t_fnl c6; have o8 : (Int32.ofNat N8).toInt = N8 := nI_toInt hN8; have o9 := hN8; have o10 := t_subO (Int32.ofNat N8) x1; have o11 := t_fl c9; rw [vp_in_iff]; omega) trivial (fun w10 hw10 kw10 => ?_)
        refine z_aload_n hC (pc := 42) 1 dX3_room_42 rfl rfl ?_
        refine z_dup hC (pc := 43) dX3_room_43 rfl ?_
        refine u_getK hC (pc := 44) zf3 9 (tKeep.F kw10 fx5 rfl) dX3_room_44 zw515 (kk := ?_)
        refine z_iload_n hC (pc := 47) 2 dX3_room_47 rfl rfl ?_
        refine z_iconst hC (pc := 48) (v := 1) dX3_room_48 (by decide) ?_
        refine z_iadd hC (pc := 49) (v := (x1 + 1)) dX3_room_49 rfl ?_
        refine z_iadd hC (pc := 50) (v := (x5 + (x1 + 1))) dX3_room_50 rfl ?_
        refine u_put hC hw10 (pc := 51) zf3 9 (hE.o3 h0) rfl ⟨_, rfl⟩ dX3_room_51 zw515 rfl rfl rfl (kk := fun w11 hw11 fw11 kw11 => ?_)
        refine z_ldc hC (pc := 54) (v := 805306368) dX3_room_54 zw1848 ?_
        refine z_iload_n hC (pc := 56) 0 dX3_room_56 rfl rfl ?_
        refine z_ior hC (pc := 57) (v := ((805306368 : Int32) ||| x5)) dX3_room_57 rfl ?_
        exact hR _ _ _ _ _ _ dX3_room_58 rfl (Nat.le_of_ble_eq_true rfl) (Nat.le_of_ble_eq_true rfl) ⟨hw11, rfl, rfl, (tKeep.tr (tKeep.tr tKeep.rf kw10 rfl) kw11 rfl)⟩
      · refine z_lvs [] rfl ?_
        exact j27
  · refine z_ldc hC (pc := 4) (v := 805306368) dX3_room_4 zw1848 ?_
    exact hR _ _ _ _ _ _ dX3_room_6 rfl (Nat.le_of_ble_eq_true rfl) (Nat.le_of_ble_eq_true rfl) ⟨hw0, rfl, rfl, tKeep.rf⟩
set_option maxRecDepth 20000 in
theorem kX3_newRow (l : Launch) (G : zG) (T : tT) (κ : Nat → List Nat) (hst : l.stackTraces = false) (hE : tE G T κ) {a0 : Nat} (h0 : a0 ∈ κ 3) {x1 : Int32} : tMi l G T yX3_newRow cX3_newRow 2 .int ["java/lang/IllegalStateException"] 7 103 1 6 [.ref a0, .int x1] uT (uPi 0x600000000000000000000000000000000000000000000000000) := by
  refine tMi.intro hst rfl (Nat.le_of_ble_eq_true rfl) ?_
  intro w0 hw0 _ X hC hR hO hX
  refine z_aload_n hC (pc := 0) 0 dX3_newRow_0 rfl rfl ?_
  refine z_iload_n hC (pc := 1) 1 dX3_newRow_1 rfl rfl ?_
  obtain ⟨q4, hqq4⟩ := hE.o3 h0
  refine t_callVv hC hw0 (pc := 2) (As := [.int x1]) (kX3_counted l G T κ hst hE h0) trivial dmX3_counted zf3 hqq4 dX3_newRow_2 zw1859 rfl rfl (Nat.le_of_ble_eq_true rfl) (Nat.le_of_ble_eq_true rfl) (Nat.le_of_ble_eq_true rfl) (Nat.le_of_ble_eq_true rfl) (Nat.le_of_ble_eq_true rfl) (fun E w q hE hw => hO E w _ _ _ _ _ q hE (Nat.le_of_ble_eq_true rfl) (Nat.le_of_ble_eq_true rfl) hw) (fun cw5 nw5 w5 hw5 pw5 => ?_)
  obtain ⟨rfl, rfl, kw5⟩ := pw5
  refine z_aload_n hC (pc := 5) 0 dX3_newRow_5 rfl rfl ?_
  refine z_iload_n hC (pc := 6) 1 dX3_newRow_6 rfl rfl ?_
  refine t_callVi hC hw5 (pc := 7) (As := [.int x1]) (kX3_room l G T κ hst hE h0) trivial dmX3_room zf3 hqq4 dX3_newRow_7 zw1863 rfl rfl (Nat.le_of_ble_eq_true rfl) (Nat.le_of_ble_eq_true rfl) (Nat.le_of_ble_eq_true rfl) (Nat.le_of_ble_eq_true rfl) (Nat.le_of_ble_eq_true rfl) (fun E w q hE hw => hO E w _ _ _ _ _ q hE (Nat.le_of_ble_eq_true rfl) (Nat.le_of_ble_eq_true rfl) hw) (fun x8 cw7 nw7 w7 hw7 pw7 => ?_)
  obtain ⟨rfl, rfl, kw7⟩ := pw7
  exact hR _ _ _ _ _ _ dX3_newRow_10 rfl (Nat.le_of_ble_eq_true rfl) (Nat.le_of_ble_eq_true rfl) ⟨hw7, rfl, rfl, (tKeep.tr (tKeep.tr tKeep.rf kw5 rfl) kw7 rfl)⟩
set_option maxRecDepth 20000 in
theorem kX3_valueOf (l : Launch) (G : zG) (T : tT) (κ : Nat → List Nat) (hst : l.stackTraces = false) (hE : tE G T κ) {a0 : Nat} (h0 : a0 ∈ κ 3) {x1 : Int32} {x2 : Int32} : tMi l G T yX3_valueOf cX3_valueOf 3 .int [] 1 21 0 0 [.ref a0, .int x1, .int x2] uT (uPi 0x0) := by
  refine tMi.intro hst rfl (Nat.le_of_ble_eq_true rfl) ?_
  intro w0 hw0 _ X hC hR hO hX
  refine z_iload_n hC (pc := 0) 1 dX3_valueOf_0 rfl rfl ?_
  refine t_callSi hC hw0 (pc := 1) (As := [.int x1]) (kX3_sortOf l G T κ hst hE) trivial dmX3_sortOf dX3_valueOf_1 zw1844 rfl rfl (Nat.le_of_ble_eq_true rfl) (Nat.le_of_ble_eq_true rfl) (Nat.le_of_ble_eq_true rfl) (Nat.le_of_ble_eq_true rfl) (Nat.le_of_ble_eq_true rfl) (fun _ _ _ h => nomatch h) (fun x6 cw5 nw5 w5 hw5 pw5 => ?_)
  obtain ⟨rfl, rfl, kw5⟩ := pw5
  refine z_ldc hC (pc := 4) (v := 805306368) dX3_valueOf_4 zw1848 ?_
  refine z_icmp_ne hC (pc := 6) 25 dX3_valueOf_6 (by decide) (fun c7 => ?_) (fun c7 => ?_)
  · refine z_aload_n hC (pc := 25) 0 dX3_valueOf_25 rfl rfl ?_
    refine z_iload_n hC (pc := 26) 1 dX3_valueOf_26 rfl rfl ?_
    obtain ⟨q8, hqq8⟩ := hE.o3 h0
    refine t_callVi hC hw5 (pc := 27) (As := [.int x1]) (kX3_isMany l G T κ hst hE h0) trivial dmX3_isMany zf3 hqq8 dX3_valueOf_27 zw1851 rfl rfl (Nat.le_of_ble_eq_true rfl) (Nat.le_of_ble_eq_true rfl) (Nat.le_of_ble_eq_true rfl) (Nat.le_of_ble_eq_true rfl) (Nat.le_of_ble_eq_true rfl) (fun _ _ _ h => nomatch h) (fun x10 cw9 nw9 w9 hw9 pw9 => ?_)
    obtain ⟨rfl, rfl, kw9, zx10⟩ := pw9
    have j53 : ∀ (w11 : va_W), tW T w11 → tKeep 0x0 w9 w11 → ∀ (x12 : Int32), zS X G 3 w11 [] 0 0 53 [.int x12] := by
      intro w11 hw11 kw11 x12
      exact hR _ _ _ _ _ _ dX3_valueOf_53 rfl (Nat.le_of_ble_eq_true rfl) (Nat.le_of_ble_eq_true rfl) ⟨hw11, rfl, rfl, (tKeep.tr (tKeep.tr (tKeep.tr tKeep.rf kw5 rfl) kw9 rfl) kw11 rfl)⟩
    refine z_if_eq hC (pc := 30) 52 dX3_valueOf_30 (by decide) (fun c13 => ?_) (fun c13 => ?_)
    · refine z_iload_n hC (pc := 52) 1 dX3_valueOf_52 rfl rfl ?_
      refine z_lvs [] rfl ?_
      exact j53 w9 hw9 tKeep.rf x1
    · refine z_aload_n hC (pc := 33) 0 dX3_valueOf_33 rfl rfl ?_
      refine u_get hC hw9 (pc := 34) zf3 0 (hE.o3 h0) rfl dX3_valueOf_34 zw502 (kk := fun va14 ta14 fa14 => ?_)
      obtain ⟨a14, ma14, rfl⟩ := ta14
      refine u_get hC hw9 (pc := 37) zf8 5 (hE.o8 ma14) rfl dX3_valueOf_37 zw58 (kk := fun va15 ta15 fa15 => ?_)
      obtain ⟨a15, ma15, rfl⟩ := ta15
      refine z_iload_n hC (pc := 40) 1 dX3_valueOf_40 rfl rfl ?_
      refine z_bipush hC (pc := 41) (v := 100) dX3_valueOf_41 (by decide) ?_
      refine z_imul hC (pc := 43) (v := (x1 * 100)) dX3_valueOf_43 rfl ?_
      refine z_iload_n hC (pc := 44) 2 dX3_valueOf_44 rfl rfl ?_
      refine z_iadd hC (pc := 45) (v := ((x1 * 100) + x2)) dX3_valueOf_45 rfl ?_
      refine t_callSNi hC hw9 (pc := 46) (As := [.ref a15, .int ((x1 * 100) + x2)]) (kX12_get l G T κ hst hE ma15) trivial dmX12_get dX3_valueOf_46 zw1850 rfl rfl (Nat.le_of_ble_eq_true rfl) (Nat.le_of_ble_eq_true rfl) (Nat.le_of_ble_eq_true rfl) (Nat.le_of_ble_eq_true rfl) (Nat.le_of_ble_eq_true rfl) (fun _ _ _ h => nomatch h) (fun x17 cw16 nw16 w16 hw16 pw16 => ?_)
      obtain ⟨rfl, rfl, kw16⟩ := pw16
      refine z_goto hC (pc := 49) 53 dX3_valueOf_49 (by decide) ?_
      refine z_lvs [] rfl ?_
      exact j53 w16 hw16 (tKeep.tr tKeep.rf kw16 rfl) x17
  · refine z_aload_n hC (pc := 9) 0 dX3_valueOf_9 rfl rfl ?_
    refine u_get hC hw5 (pc := 10) zf3 8 (hE.o3 h0) rfl dX3_valueOf_10 zw514 (kk := fun va18 ta18 fa18 => ?_)
    obtain ⟨a18, ma18, rfl⟩ := ta18
    refine z_iload_n hC (pc := 13) 1 dX3_valueOf_13 rfl rfl ?_
    refine z_ldc hC (pc := 14) (v := 134217727) dX3_valueOf_14 zw1849 ?_
    refine z_iand hC (pc := 16) (v := (x1 &&& 134217727)) dX3_valueOf_16 rfl ?_
    refine z_iconst hC (pc := 17) (v := 1) dX3_valueOf_17 (by decide) ?_
    refine z_iadd hC (pc := 18) (v := ((x1 &&& 134217727) + 1)) dX3_valueOf_18 rfl ?_
    refine z_iload_n hC (pc := 19) 2 dX3_valueOf_19 rfl rfl ?_
    refine z_iadd hC (pc := 20) (v := (((x1 &&& 134217727) + 1) + x2)) dX3_valueOf_20 rfl ?_
    refine t_callSNi hC hw5 (pc := 21) (As := [.ref a18, .int (((x1 &&& 134217727) + 1) + x2)]) (kX12_get l G T κ hst hE ma18) trivial dmX12_get dX3_valueOf_21 zw1850 rfl rfl (Nat.le_of_ble_eq_true rfl) (Nat.le_of_ble_eq_true rfl) (Nat.le_of_ble_eq_true rfl) (Nat.le_of_ble_eq_true rfl) (Nat.le_of_ble_eq_true rfl) (fun _ _ _ h => nomatch h) (fun x20 cw19 nw19 w19 hw19 pw19 => ?_)
    obtain ⟨rfl, rfl, kw19⟩ := pw19
    exact hR _ _ _ _ _ _ dX3_valueOf_24 rfl (Nat.le_of_ble_eq_true rfl) (Nat.le_of_ble_eq_true rfl) ⟨hw19, rfl, rfl, (tKeep.tr (tKeep.tr tKeep.rf kw5 rfl) kw19 rfl)⟩
set_option maxRecDepth 20000 in
theorem kX3_put (l : Launch) (G : zG) (T : tT) (κ : Nat → List Nat) (hst : l.stackTraces = false) (hE : tE G T κ) {a0 : Nat} (h0 : a0 ∈ κ 3) {x1 : Int32} {x2 : Int32} {x3 : Int32} : tMv l G T yX3_put cX3_put 4 [] 1 22 0 0 [.ref a0, .int x1, .int x2, .int x3] uT (uPv 0x0) := by
  refine tMv.intro hst rfl (Nat.le_of_ble_eq_true rfl) ?_
  intro w0 hw0 _ X hC hR hO hX
  refine z_aload_n hC (pc := 0) 0 dX3_put_0 rfl rfl ?_
  refine u_get hC hw0 (pc := 1) zf3 8 (hE.o3 h0) rfl dX3_put_1 zw514 (kk := fun va6 ta6 fa6 => ?_)
  obtain ⟨a6, ma6, rfl⟩ := ta6
  refine z_iload_n hC (pc := 4) 1 dX3_put_4 rfl rfl ?_
  refine z_ldc hC (pc := 5) (v := 134217727) dX3_put_5 zw1849 ?_
  refine z_iand hC (pc := 7) (v := (x1 &&& 134217727)) dX3_put_7 rfl ?_
  refine z_iconst hC (pc := 8) (v := 1) dX3_put_8 (by decide) ?_
  refine z_iadd hC (pc := 9) (v := ((x1 &&& 134217727) + 1)) dX3_put_9 rfl ?_
  refine z_iload_n hC (pc := 10) 2 dX3_put_10 rfl rfl ?_
  refine z_iadd hC (pc := 11) (v := (((x1 &&& 134217727) + 1) + x2)) dX3_put_11 rfl ?_
  refine z_iload_n hC (pc := 12) 3 dX3_put_12 rfl rfl ?_
  refine t_callSNv hC hw0 (pc := 13) (As := [.ref a6, .int (((x1 &&& 134217727) + 1) + x2), .int x3]) (kX12_set l G T κ hst hE ma6) trivial dmX12_set dX3_put_13 zw1879 rfl rfl (Nat.le_of_ble_eq_true rfl) (Nat.le_of_ble_eq_true rfl) (Nat.le_of_ble_eq_true rfl) (Nat.le_of_ble_eq_true rfl) (Nat.le_of_ble_eq_true rfl) (fun _ _ _ h => nomatch h) (fun cw7 nw7 w7 hw7 pw7 => ?_)
  obtain ⟨rfl, rfl, kw7⟩ := pw7
  exact hR _ _ _ _ _ dX3_put_16 (Nat.le_of_ble_eq_true rfl) (Nat.le_of_ble_eq_true rfl) ⟨hw7, rfl, rfl, (tKeep.tr tKeep.rf kw7 rfl)⟩
set_option maxRecDepth 20000 in
theorem kX5_spread (l : Launch) (G : zG) (T : tT) (κ : Nat → List Nat) (hst : l.stackTraces = false) (hE : tE G T κ) {a0 : Nat} (h0 : a0 ∈ κ 5) {x1 : Int32} {x2 : Int32} {x3 : Int32} {x4 : Int32} {x5 : Int32} : tMi l G T yX5_spread cX5_spread 9 .int [] 2 45 0 0 [.ref a0, .int x1, .int x2, .int x3, .int x4, .int x5] uT (uPi 0x0) := by
  refine tMi.intro hst rfl (Nat.le_of_ble_eq_true rfl) ?_
  intro w0 hw0 _ X hC hR hO hX
  refine z_iload_n hC (pc := 0) 2 dX5_spread_0 rfl rfl ?_
  refine z_istore hC (pc := 1) (lv' := [(6, .int x2), (0, .ref a0), (1, .int x1), (2, .int x2), (3, .int x3), (4, .int x4), (5, .int x5)]) dX5_spread_1 (by decide) rfl ?_
  refine z_iload hC (pc := 3) 5 dX5_spread_3 rfl ?_
  have j20 : ∀ (w8 : va_W), tW T w8 → tKeep 0x0 w0 w8 → ∀ (x9 : Int32), zS X G 9 w8 [(0, .ref a0), (1, .int x1), (3, .int x3), (4, .int x4), (5, .int x5), (6, .int x2)] 0 0 20 [.int x9] := by
    intro w8 hw8 kw8 x9
    refine z_istore hC (pc := 20) (lv' := [(7, .int x9), (0, .ref a0), (1, .int x1), (3, .int x3), (4, .int x4), (5, .int x5), (6, .int x2)]) dX5_spread_20 (by decide) rfl ?_
    refine z_iconst hC (pc := 22) (v := 0) dX5_spread_22 (by decide) ?_
    refine z_istore hC (pc := 23) (lv' := [(8, .int 0), (7, .int x9), (0, .ref a0), (1, .int x1), (3, .int x3), (4, .int x4), (5, .int x5), (6, .int x2)]) dX5_spread_23 (by decide) rfl ?_
    have j25 : ∀ (d25 : Nat), ∀ (w10 : va_W), tW T w10 → tKeep 0x0 w8 w10 → ∀ (x11 : Int32), ∀ (x12 : Int32), ¬ x12 < 0 → (2 ^ 31 - (x12 : Int32).toInt).toNat ≤ d25 → zS X G 9 w10 [(0, .ref a0), (1, .int x1), (3, .int x3), (4, .int x4), (5, .int x5), (6, .int x11), (7, .int x9), (8, .int x12)] 0 0 25 [] := by
      intro d25
      induction d25 with
      | zero => intro w10 hw10 kw10 x11 x12 v13 hd25; exact (t_zero hd25).elim
      | succ d25 ih25 =>
        intro w10 hw10 kw10 x11 x12 v13 hd25
        refine z_iload hC (pc := 25) 7 dX5_spread_25 rfl ?_
        refine z_iload hC (pc := 27) 6 dX5_spread_27 rfl ?_
        have j77 : zS X G 9 w10 [(6, .int x11)] 0 0 77 [] := by
          refine z_iload hC (pc := 77) 0 dX5_spread_77 rfl ?_
          exact hR _ _ _ _ _ _ dX5_spread_79 rfl (Nat.le_of_ble_eq_true rfl) (Nat.le_of_ble_eq_true rfl) ⟨hw10, rfl, rfl, (tKeep.tr (tKeep.tr tKeep.rf kw8 rfl) kw10 rfl)⟩
        refine z_icmp_ge hC (pc := 29) 77 dX5_spread_29 (by decide) (fun c14 => ?_) (fun c14 => ?_)
        · refine z_lvs [5] rfl ?_
          exact j77
        · refine z_iload hC (pc := 32) 5 dX5_spread_32 rfl ?_
          refine z_iload hC (pc := 34) 4 dX5_spread_34 rfl ?_
          refine z_icmp_ge hC (pc := 36) 77 dX5_spread_36 (by decide) (fun c15 => ?_) (fun c15 => ?_)
          · refine z_lvs [5] rfl ?_
            exact j77
          · refine z_aload_n hC (pc := 39) 0 dX5_spread_39 rfl rfl ?_
            refine u_get hC hw10 (pc := 40) zf5 2 (hE.o5 h0) rfl dX5_spread_40 zw644 (kk := fun va16 ta16 fa16 => ?_)
            obtain ⟨a16, ma16, rfl⟩ := ta16
            refine z_iload_n hC (pc := 43) 1 dX5_spread_43 rfl rfl ?_
            refine z_iload hC (pc := 44) 5 dX5_spread_44 rfl ?_
            refine z_iload hC (pc := 46) 3 dX5_spread_46 rfl ?_
            have j65 : ∀ (w17 : va_W), tW T w17 → tKeep 0x0 w10 w17 → ∀ (x18 : Int32), zS X G 9 w17 [(0, .ref a0), (1, .int x1), (3, .int x3), (4, .int x4), (5, .int x5), (6, .int x11), (7, .int x9), (8, .int x12)] 0 0 65 [.int x18, .int x11, .int x1, .ref a16] := by
              intro w17 hw17 kw17 x18
              obtain ⟨q19, hqq19⟩ := hE.o3 ma16
              refine t_callVv hC hw17 (pc := 65) (As := [.int x1, .int x11, .int x18]) (kX3_put l G T κ hst hE ma16) trivial dmX3_put zf3 hqq19 dX5_spread_65 zw1875 rfl rfl (Nat.le_of_ble_eq_true rfl) (Nat.le_of_ble_eq_true rfl) (Nat.le_of_ble_eq_true rfl) (Nat.le_of_ble_eq_true rfl) (Nat.le_of_ble_eq_true rfl) (fun _ _ _ h => nomatch h) (fun cw20 nw20 w20 hw20 pw20 => ?_)
              obtain ⟨rfl, rfl, kw20⟩ := pw20
              refine z_iinc hC (pc := 68) (v := (x11 + 1)) (lv' := [(6, .int (x11 + 1)), (0, .ref a0), (1, .int x1), (3, .int x3), (4, .int x4), (5, .int x5), (7, .int x9), (8, .int x12)]) 5 dX5_spread_68 rfl (congrArg _ (by decide)) (by decide) rfl ?_
              refine z_iinc hC (pc := 71) (v := (x12 + 1)) (lv' := [(8, .int (x12 + 1)), (6, .int (x11 + 1)), (0, .ref a0), (1, .int x1), (3, .int x3), (4, .int x4), (5, .int x5), (7, .int x9)]) 7 dX5_spread_71 rfl (congrArg _ (by decide)) (by decide) rfl ?_
              refine z_goto hC (pc := 74) 25 dX5_spread_74 (by decide) ?_
              refine z_lvs [2, 3, 4, 5, 6, 1, 7, 0] rfl ?_
              exact ih25 w20 hw20 (tKeep.tr (tKeep.tr (tKeep.tr tKeep.rf kw10 rfl) kw17 rfl) kw20 rfl) (x11 + 1) (x12 + 1) (t_nnI v13 (Int32.not_le.mp c14)) (t_up (Int32.not_le.mp c14) hd25)
            refine z_if_eq hC (pc := 48) 64 dX5_spread_48 (by decide) (fun c22 => ?_) (fun c22 => ?_)
            · refine z_iload_n hC (pc := 64) 2 dX5_spread_64 rfl rfl ?_
              exact j65 w10 hw10 tKeep.rf x3
            · refine z_aload_n hC (pc := 51) 0 dX5_spread_51 rfl rfl ?_
              refine u_getK hC (pc := 52) zf5 2 fa16 dX5_spread_52 zw644 (kk := ?_)
              refine z_iload_n hC (pc := 55) 2 dX5_spread_55 rfl rfl ?_
              refine z_iload hC (pc := 56) 7 dX5_spread_56 rfl ?_
              obtain ⟨q23, hqq23⟩ := hE.o3 ma16
              refine t_callVi hC hw10 (pc := 58) (As := [.int x3, .int x12]) (kX3_valueOf l G T κ hst hE ma16) trivial dmX3_valueOf zf3 hqq23 dX5_spread_58 zw1871 rfl rfl (Nat.le_of_ble_eq_true rfl) (Nat.le_of_ble_eq_true rfl) (Nat.le_of_ble_eq_true rfl) (Nat.le_of_ble_eq_true rfl) (Nat.le_of_ble_eq_true rfl) (fun _ _ _ h => nomatch h) (fun x25 cw24 nw24 w24 hw24 pw24 => ?_)
              obtain ⟨rfl, rfl, kw24⟩ := pw24
              refine z_goto hC (pc := 61) 65 dX5_spread_61 (by decide) ?_
              exact j65 w24 hw24 (tKeep.tr tKeep.rf kw24 rfl) x25
    refine z_lvs [2, 3, 4, 5, 6, 7, 1, 0] rfl ?_
    exact j25 _ w8 hw8 tKeep.rf x2 0 (by decide) (Nat.le_refl _)
  refine z_if_eq hC (pc := 5) 19 dX5_spread_5 (by decide) (fun c26 => ?_) (fun c26 => ?_)
  · refine z_iconst hC (pc := 19) (v := 1) dX5_spread_19 (by decide) ?_
    refine z_lvs [1, 2, 4, 5, 6, 0] rfl ?_
    exact j20 w0 hw0 tKeep.rf 1
  · refine z_aload_n hC (pc := 8) 1 dX5_spread_8 rfl rfl ?_
    refine u_get hC hw0 (pc := 9) zf5 2 (hE.o5 h0) rfl dX5_spread_9 zw644 (kk := fun va27 ta27 fa27 => ?_)
    obtain ⟨a27, ma27, rfl⟩ := ta27
    refine z_iload_n hC (pc := 12) 4 dX5_spread_12 rfl rfl ?_
    obtain ⟨q28, hqq28⟩ := hE.o3 ma27
    refine t_callVi hC hw0 (pc := 13) (As := [.int x3]) (kX3_countOf l G T κ hst hE ma27) trivial dmX3_countOf zf3 hqq28 dX5_spread_13 zw1840 rfl rfl (Nat.le_of_ble_eq_true rfl) (Nat.le_of_ble_eq_true rfl) (Nat.le_of_ble_eq_true rfl) (Nat.le_of_ble_eq_true rfl) (Nat.le_of_ble_eq_true rfl) (fun _ _ _ h => nomatch h) (fun x30 cw29 nw29 w29 hw29 pw29 => ?_)
    obtain ⟨rfl, rfl, kw29⟩ := pw29
    refine z_goto hC (pc := 16) 20 dX5_spread_16 (by decide) ?_
    refine z_lvs [1, 2, 4, 5, 6, 0] rfl ?_
    exact j20 w29 hw29 (tKeep.tr tKeep.rf kw29 rfl) x30
set_option maxRecDepth 20000 in
theorem kX5_valueAdded (l : Launch) (G : zG) (T : tT) (κ : Nat → List Nat) (hst : l.stackTraces = false) (hE : tE G T κ) {a0 : Nat} (h0 : a0 ∈ κ 5) {x1 : Int32} : tMi l G T yX5_valueAdded cX5_valueAdded 8 .int ["java/lang/IllegalStateException"] 8 124 1 6 [.ref a0, .int x1] uT (uPi 0x600000000000000000000000000000000000000000000000000) := by
  refine tMi.intro hst rfl (Nat.le_of_ble_eq_true rfl) ?_
  intro w0 hw0 _ X hC hR hO hX
  refine z_aload_n hC (pc := 0) 0 dX5_valueAdded_0 rfl rfl ?_
  refine u_get hC hw0 (pc := 1) zf5 2 (hE.o5 h0) rfl dX5_valueAdded_1 zw644 (kk := fun va4 ta4 fa4 => ?_)
  obtain ⟨a4, ma4, rfl⟩ := ta4
  refine u_get hC hw0 (pc := 4) zf3 0 (hE.o3 ma4) rfl dX5_valueAdded_4 zw503 (kk := fun va5 ta5 fa5 => ?_)
  obtain ⟨a5, ma5, rfl⟩ := ta5
  refine z_astore_n hC (pc := 7) (lv' := [(2, .ref a5), (0, .ref a0), (1, .int x1)]) dX5_valueAdded_7 rfl (by decide) rfl ?_
  refine z_iconst hC (pc := 8) (v := 0) dX5_valueAdded_8 (by decide) ?_
  refine z_istore_n hC (pc := 9) (lv' := [(3, .int 0), (2, .ref a5), (0, .ref a0), (1, .int x1)]) dX5_valueAdded_9 rfl (by decide) rfl ?_
  refine z_iconst hC (pc := 10) (v := 0) dX5_valueAdded_10 (by decide) ?_
  refine z_istore hC (pc := 11) (lv' := [(4, .int 0), (3, .int 0), (2, .ref a5), (0, .ref a0), (1, .int x1)]) dX5_valueAdded_11 (by decide) rfl ?_
  refine z_iload_n hC (pc := 13) 4 dX5_valueAdded_13 rfl rfl ?_
  refine z_istore hC (pc := 14) (lv' := [(5, .int x1), (4, .int 0), (3, .int 0), (2, .ref a5), (0, .ref a0), (1, .int x1)]) dX5_valueAdded_14 (by decide) rfl ?_
  have j16 : ∀ (d16 : Nat), ∀ (w6 : va_W), tW T w6 → tKeep 0x0 w0 w6 → ∀ (x7 : Int32), ∀ (x8 : Int32), ∀ (x9 : Int32), (2 ^ 31 - (x9 : Int32).toInt).toNat ≤ d16 → zS X G 8 w6 [(0, .ref a0), (1, .int x1), (2, .ref a5), (3, .int x7), (4, .int x8), (5, .int x9)] 0 0 16 [] := by
    intro d16
    induction d16 with
    | zero => intro w6 hw6 kw6 x7 x8 x9 hd16; exact (t_zero hd16).elim
    | succ d16 ih16 =>
      intro w6 hw6 kw6 x7 x8 x9 hd16
      refine z_iload hC (pc := 16) 5 dX5_valueAdded_16 rfl ?_
      refine z_aload_n hC (pc := 18) 2 dX5_valueAdded_18 rfl rfl ?_
      refine u_get hC hw6 (pc := 19) zf8 13 (hE.o8 ma5) rfl dX5_valueAdded_19 zw75 (kk := fun vx10 tx10 fx10 => ?_)
      obtain ⟨x10, rfl⟩ := tx10
      refine z_icmp_ge hC (pc := 22) 86 dX5_valueAdded_22 (by decide) (fun c11 => ?_) (fun c11 => ?_)
      · refine z_iload_n hC (pc := 86) 3 dX5_valueAdded_86 rfl rfl ?_
        refine z_iconst hC (pc := 87) (v := 2) dX5_valueAdded_87 (by decide) ?_
        refine z_icmp_ge hC (pc := 88) 100 dX5_valueAdded_88 (by decide) (fun c12 => ?_) (fun c12 => ?_)
        · refine z_aload_n hC (pc := 100) 0 dX5_valueAdded_100 rfl rfl ?_
          refine u_getK hC (pc := 101) zf5 2 (tKeep.F kw6 fa4 rfl) dX5_valueAdded_101 zw644 (kk := ?_)
          refine z_iload hC (pc := 104) 4 dX5_valueAdded_104 rfl ?_
          obtain ⟨q13, hqq13⟩ := hE.o3 ma4
          refine t_callVi hC hw6 (pc := 106) (As := [.int x8]) (kX3_newRow l G T κ hst hE ma4) trivial dmX3_newRow zf3 hqq13 dX5_valueAdded_106 zw1855 rfl rfl (Nat.le_of_ble_eq_true rfl) (Nat.le_of_ble_eq_true rfl) (Nat.le_of_ble_eq_true rfl) (Nat.le_of_ble_eq_true rfl) (Nat.le_of_ble_eq_true rfl) (fun E w q hE hw => hO E w _ _ _ _ _ q hE (Nat.le_of_ble_eq_true rfl) (Nat.le_of_ble_eq_true rfl) hw) (fun x15 cw14 nw14 w14 hw14 pw14 => ?_)
          obtain ⟨rfl, rfl, kw14⟩ := pw14
          refine z_istore hC (pc := 109) (lv' := [(5, .int x15), (0, .ref a0), (1, .int x1), (2, .ref a5), (3, .int x7), (4, .int x8)]) dX5_valueAdded_109 (by decide) rfl ?_
          refine z_iconst hC (pc := 111) (v := 0) dX5_valueAdded_111 (by decide) ?_
          refine z_istore hC (pc := 112) (lv' := [(4, .int 0), (5, .int x15), (0, .ref a0), (1, .int x1), (2, .ref a5), (3, .int x7)]) dX5_valueAdded_112 (by decide) rfl ?_
          refine z_iload_n hC (pc := 114) 3 dX5_valueAdded_114 rfl rfl ?_
          refine z_istore hC (pc := 115) (lv' := [(6, .int x1), (4, .int 0), (5, .int x15), (0, .ref a0), (1, .int x1), (2, .ref a5), (3, .int x7)]) dX5_valueAdded_115 (by decide) rfl ?_
          have j117 : ∀ (d117 : Nat), ∀ (w16 : va_W), tW T w16 → tKeep 0x0 w14 w16 → ∀ (x17 : Int32), ∀ (x18 : Int32), (2 ^ 31 - (x18 : Int32).toInt).toNat ≤ d117 → zS X G 8 w16 [(0, .ref a0), (1, .int x1), (2, .ref a5), (4, .int x17), (5, .int x15), (6, .int x18)] 0 0 117 [] := by
            intro d117
            induction d117 with
            | zero => intro w16 hw16 kw16 x17 x18 hd117; exact (t_zero hd117).elim
            | succ d117 ih117 =>
              intro w16 hw16 kw16 x17 x18 hd117
              refine z_iload hC (pc := 117) 5 dX5_valueAdded_117 rfl ?_
              refine z_aload_n hC (pc := 119) 2 dX5_valueAdded_119 rfl rfl ?_
              refine u_getK hC (pc := 120) zf8 13 (tKeep.F kw16 (tKeep.F kw14 fx10 rfl) rfl) dX5_valueAdded_120 zw75 (kk := ?_)
              refine z_icmp_ge hC (pc := 123) 178 dX5_valueAdded_123 (by decide) (fun c19 => ?_) (fun c19 => ?_)
              · refine z_iload hC (pc := 178) 4 dX5_valueAdded_178 rfl ?_
                exact hR _ _ _ _ _ _ dX5_valueAdded_180 rfl (Nat.le_of_ble_eq_true rfl) (Nat.le_of_ble_eq_true rfl) ⟨hw16, rfl, rfl, (tKeep.tr (tKeep.tr (tKeep.tr tKeep.rf kw6 rfl) kw14 rfl) kw16 rfl)⟩
              · refine z_aload_n hC (pc := 126) 2 dX5_valueAdded_126 rfl rfl ?_
                refine z_iload_n hC (pc := 127) 1 dX5_valueAdded_127 rfl rfl ?_
                refine z_iload hC (pc := 128) 5 dX5_valueAdded_128 rfl ?_
                obtain ⟨q20, hqq20⟩ := hE.o8 ma5
                refine t_callVi hC hw16 (pc := 130) (As := [.int x1, .int x18]) (kX8_sameName l G T κ hst hE ma5) trivial dmX8_sameName zf8 hqq20 dX5_valueAdded_130 zw1834 rfl rfl (Nat.le_of_ble_eq_true rfl) (Nat.le_of_ble_eq_true rfl) (Nat.le_of_ble_eq_true rfl) (Nat.le_of_ble_eq_true rfl) (Nat.le_of_ble_eq_true rfl) (fun _ _ _ h => nomatch h) (fun x22 cw21 nw21 w21 hw21 pw21 => ?_)
                obtain ⟨rfl, rfl, kw21, zx22⟩ := pw21
                have j172 : ∀ (w23 : va_W), tW T w23 → tKeep 0x0 w21 w23 → ∀ (x24 : Int32), zS X G 8 w23 [(0, .ref a0), (1, .int x1), (2, .ref a5), (4, .int x24), (5, .int x15), (6, .int x18)] 0 0 172 [] := by
                  intro w23 hw23 kw23 x24
                  refine z_iinc hC (pc := 172) (v := (x18 + 1)) (lv' := [(6, .int (x18 + 1)), (0, .ref a0), (1, .int x1), (2, .ref a5), (4, .int x24), (5, .int x15)]) 5 dX5_valueAdded_172 rfl (congrArg _ (by decide)) (by decide) rfl ?_
                  refine z_goto hC (pc := 175) 117 dX5_valueAdded_175 (by decide) ?_
                  refine z_lvs [1, 2, 3, 4, 5, 0] rfl ?_
                  exact ih117 w23 hw23 (tKeep.tr (tKeep.tr (tKeep.tr tKeep.rf kw16 rfl) kw21 rfl) kw23 rfl) x24 (x18 + 1) (t_up (Int32.not_le.mp c19) hd117)
                refine z_if_eq hC (pc := 133) 172 dX5_valueAdded_133 (by decide) (fun c25 => ?_) (fun c25 => ?_)
                · exact j172 w21 hw21 tKeep.rf x17
                · refine z_aload_n hC (pc := 136) 2 dX5_valueAdded_136 rfl rfl ?_
                  refine u_get hC hw21 (pc := 137) zf8 12 (hE.o8 ma5) rfl dX5_valueAdded_137 zw73 (kk := fun va26 ta26 fa26 => ?_)
                  obtain ⟨a26, ma26, rfl⟩ := ta26
                  refine z_iload hC (pc := 140) 5 dX5_valueAdded_140 rfl ?_
                  refine t_callSNi hC hw21 (pc := 142) (As := [.ref a26, .int x18]) (kX12_get l G T κ hst hE ma26) trivial dmX12_get dX5_valueAdded_142 zw1835 rfl rfl (Nat.le_of_ble_eq_true rfl) (Nat.le_of_ble_eq_true rfl) (Nat.le_of_ble_eq_true rfl) (Nat.le_of_ble_eq_true rfl) (Nat.le_of_ble_eq_true rfl) (fun _ _ _ h => nomatch h) (fun x28 cw27 nw27 w27 hw27 pw27 => ?_)
                  obtain ⟨rfl, rfl, kw27⟩ := pw27
                  refine z_istore hC (pc := 145) (lv' := [(7, .int x28), (0, .ref a0), (1, .int x1), (2, .ref a5), (4, .int x17), (5, .int x15), (6, .int x18)]) dX5_valueAdded_145 (by decide) rfl ?_
                  refine z_aload_n hC (pc := 147) 1 dX5_valueAdded_147 rfl rfl ?_
                  refine z_iload hC (pc := 148) 5 dX5_valueAdded_148 rfl ?_
                  refine z_iload hC (pc := 150) 4 dX5_valueAdded_150 rfl ?_
                  refine z_iload hC (pc := 152) 0 dX5_valueAdded_152 rfl ?_
                  refine z_aload_n hC (pc := 154) 1 dX5_valueAdded_154 rfl rfl ?_
                  refine u_getK hC (pc := 155) zf5 2 (tKeep.F kw27 (tKeep.F kw21 (tKeep.F kw16 (tKeep.F kw14 (tKeep.F kw6 fa4 rfl) rfl) rfl) rfl) rfl) dX5_valueAdded_155 zw644 (kk := ?_)
                  refine z_iload hC (pc := 158) 0 dX5_valueAdded_158 rfl ?_
                  refine z_iconst hC (pc := 160) (v := 3) dX5_valueAdded_160 (by decide) ?_
                  refine t_callVi hC hw27 (pc := 161) (As := [.int x28, .int 3]) (kX3_isHouse l G T κ hst hE ma4) trivial dmX3_isHouse zf3 hqq13 dX5_valueAdded_161 zw1836 rfl rfl (Nat.le_of_ble_eq_true rfl) (Nat.le_of_ble_eq_true rfl) (Nat.le_of_ble_eq_true rfl) (Nat.le_of_ble_eq_true rfl) (Nat.le_of_ble_eq_true rfl) (fun _ _ _ h => nomatch h) (fun x30 cw29 nw29 w29 hw29 pw29 => ?_)
                  obtain ⟨rfl, rfl, kw29, zx30⟩ := pw29
                  refine z_sipush hC (pc := 164) (v := 4000) dX5_valueAdded_164 (by decide) ?_
                  obtain ⟨q31, hqq31⟩ := hE.o5 h0
                  refine t_callVi hC hw29 (pc := 167) (As := [.int x15, .int x17, .int x28, .int x30, .int 4000]) (kX5_spread l G T κ hst hE h0) trivial dmX5_spread zf5 hqq31 dX5_valueAdded_167 zw1867 rfl rfl (Nat.le_of_ble_eq_true rfl) (Nat.le_of_ble_eq_true rfl) (Nat.le_of_ble_eq_true rfl) (Nat.le_of_ble_eq_true rfl) (Nat.le_of_ble_eq_true rfl) (fun _ _ _ h => nomatch h) (fun x33 cw32 nw32 w32 hw32 pw32 => ?_)
                  obtain ⟨rfl, rfl, kw32⟩ := pw32
                  refine z_istore hC (pc := 170) (lv' := [(4, .int x33), (7, .int x28), (0, .ref a0), (1, .int x1), (2, .ref a5), (5, .int x15), (6, .int x18)]) dX5_valueAdded_170 (by decide) rfl ?_
                  refine z_lvs [2, 3, 4, 0, 5, 6] rfl ?_
                  exact j172 w32 hw32 (tKeep.tr (tKeep.tr (tKeep.tr tKeep.rf kw27 rfl) kw29 rfl) kw32 rfl) x33
          refine z_lvs [3, 4, 5, 1, 2, 0] rfl ?_
          exact j117 _ w14 hw14 tKeep.rf 0 x1 (Nat.le_refl _)
        · refine z_aload_n hC (pc := 91) 2 dX5_valueAdded_91 rfl rfl ?_
          refine u_get hC hw6 (pc := 92) zf8 12 (hE.o8 ma5) rfl dX5_valueAdded_92 zw73 (kk := fun va34 ta34 fa34 => ?_)
          obtain ⟨a34, ma34, rfl⟩ := ta34
          refine z_iload_n hC (pc := 95) 1 dX5_valueAdded_95 rfl rfl ?_
          refine t_callSNi hC hw6 (pc := 96) (As := [.ref a34, .int x1]) (kX12_get l G T κ hst hE ma34) trivial dmX12_get dX5_valueAdded_96 zw1835 rfl rfl (Nat.le_of_ble_eq_true rfl) (Nat.le_of_ble_eq_true rfl) (Nat.le_of_ble_eq_true rfl) (Nat.le_of_ble_eq_true rfl) (Nat.le_of_ble_eq_true rfl) (fun _ _ _ h => nomatch h) (fun x36 cw35 nw35 w35 hw35 pw35 => ?_)
          obtain ⟨rfl, rfl, kw35⟩ := pw35
          exact hR _ _ _ _ _ _ dX5_valueAdded_99 rfl (Nat.le_of_ble_eq_true rfl) (Nat.le_of_ble_eq_true rfl) ⟨hw35, rfl, rfl, (tKeep.tr (tKeep.tr tKeep.rf kw6 rfl) kw35 rfl)⟩
      · refine z_aload_n hC (pc := 25) 2 dX5_valueAdded_25 rfl rfl ?_
        refine z_iload_n hC (pc := 26) 1 dX5_valueAdded_26 rfl rfl ?_
        refine z_iload hC (pc := 27) 5 dX5_valueAdded_27 rfl ?_
        obtain ⟨q37, hqq37⟩ := hE.o8 ma5
        refine t_callVi hC hw6 (pc := 29) (As := [.int x1, .int x9]) (kX8_sameName l G T κ hst hE ma5) trivial dmX8_sameName zf8 hqq37 dX5_valueAdded_29 zw1834 rfl rfl (Nat.le_of_ble_eq_true rfl) (Nat.le_of_ble_eq_true rfl) (Nat.le_of_ble_eq_true rfl) (Nat.le_of_ble_eq_true rfl) (Nat.le_of_ble_eq_true rfl) (fun _ _ _ h => nomatch h) (fun x39 cw38 nw38 w38 hw38 pw38 => ?_)
        obtain ⟨rfl, rfl, kw38, zx39⟩ := pw38
        have j80 : ∀ (w40 : va_W), tW T w40 → tKeep 0x0 w38 w40 → ∀ (x41 : Int32), ∀ (x42 : Int32), zS X G 8 w40 [(0, .ref a0), (1, .int x1), (2, .ref a5), (3, .int x41), (4, .int x42), (5, .int x9)] 0 0 80 [] := by
          intro w40 hw40 kw40 x41 x42
          refine z_iinc hC (pc := 80) (v := (x9 + 1)) (lv' := [(5, .int (x9 + 1)), (0, .ref a0), (1, .int x1), (2, .ref a5), (3, .int x41), (4, .int x42)]) 5 dX5_valueAdded_80 rfl (congrArg _ (by decide)) (by decide) rfl ?_
          refine z_goto hC (pc := 83) 16 dX5_valueAdded_83 (by decide) ?_
          refine z_lvs [1, 2, 3, 4, 5, 0] rfl ?_
          exact ih16 w40 hw40 (tKeep.tr (tKeep.tr (tKeep.tr tKeep.rf kw6 rfl) kw38 rfl) kw40 rfl) x41 x42 (x9 + 1) (t_up (Int32.not_le.mp c11) hd16)
        refine z_if_eq hC (pc := 32) 80 dX5_valueAdded_32 (by decide) (fun c43 => ?_) (fun c43 => ?_)
        · exact j80 w38 hw38 tKeep.rf x7 x8
        · refine z_aload_n hC (pc := 35) 2 dX5_valueAdded_35 rfl rfl ?_
          refine u_get hC hw38 (pc := 36) zf8 12 (hE.o8 ma5) rfl dX5_valueAdded_36 zw73 (kk := fun va44 ta44 fa44 => ?_)
          obtain ⟨a44, ma44, rfl⟩ := ta44
          refine z_iload hC (pc := 39) 5 dX5_valueAdded_39 rfl ?_
          refine t_callSNi hC hw38 (pc := 41) (As := [.ref a44, .int x9]) (kX12_get l G T κ hst hE ma44) trivial dmX12_get dX5_valueAdded_41 zw1835 rfl rfl (Nat.le_of_ble_eq_true rfl) (Nat.le_of_ble_eq_true rfl) (Nat.le_of_ble_eq_true rfl) (Nat.le_of_ble_eq_true rfl) (Nat.le_of_ble_eq_true rfl) (fun _ _ _ h => nomatch h) (fun x46 cw45 nw45 w45 hw45 pw45 => ?_)
          obtain ⟨rfl, rfl, kw45⟩ := pw45
          refine z_istore hC (pc := 44) (lv' := [(6, .int x46), (0, .ref a0), (1, .int x1), (2, .ref a5), (3, .int x7), (4, .int x8), (5, .int x9)]) dX5_valueAdded_44 (by decide) rfl ?_
          refine z_iinc hC (pc := 46) (v := (x7 + 1)) (lv' := [(3, .int (x7 + 1)), (6, .int x46), (0, .ref a0), (1, .int x1), (2, .ref a5), (4, .int x8), (5, .int x9)]) 4 dX5_valueAdded_46 rfl (congrArg _ (by decide)) (by decide) rfl ?_
          refine z_iload hC (pc := 49) 5 dX5_valueAdded_49 rfl ?_
          refine z_aload_n hC (pc := 51) 2 dX5_valueAdded_51 rfl rfl ?_
          refine u_getK hC (pc := 52) zf5 2 (tKeep.F kw45 (tKeep.F kw38 (tKeep.F kw6 fa4 rfl) rfl) rfl) dX5_valueAdded_52 zw644 (kk := ?_)
          refine z_iload hC (pc := 55) 1 dX5_valueAdded_55 rfl ?_
          refine z_iconst hC (pc := 57) (v := 3) dX5_valueAdded_57 (by decide) ?_
          obtain ⟨q47, hqq47⟩ := hE.o3 ma4
          refine t_callVi hC hw45 (pc := 58) (As := [.int x46, .int 3]) (kX3_isHouse l G T κ hst hE ma4) trivial dmX3_isHouse zf3 hqq47 dX5_valueAdded_58 zw1836 rfl rfl (Nat.le_of_ble_eq_true rfl) (Nat.le_of_ble_eq_true rfl) (Nat.le_of_ble_eq_true rfl) (Nat.le_of_ble_eq_true rfl) (Nat.le_of_ble_eq_true rfl) (fun _ _ _ h => nomatch h) (fun x49 cw48 nw48 w48 hw48 pw48 => ?_)
          obtain ⟨rfl, rfl, kw48, zx49⟩ := pw48
          have j77 : ∀ (w50 : va_W), tW T w50 → tKeep 0x0 w48 w50 → ∀ (x51 : Int32), zS X G 8 w50 [(0, .ref a0), (1, .int x1), (2, .ref a5), (3, .int (x7 + 1)), (5, .int x9)] 0 0 77 [.int x51, .int x8] := by
            intro w50 hw50 kw50 x51
            refine z_iadd hC (pc := 77) (v := (x8 + x51)) dX5_valueAdded_77 rfl ?_
            refine z_istore hC (pc := 78) (lv' := [(4, .int (x8 + x51)), (0, .ref a0), (1, .int x1), (2, .ref a5), (3, .int (x7 + 1)), (5, .int x9)]) dX5_valueAdded_78 (by decide) rfl ?_
            refine z_lvs [1, 2, 3, 4, 0, 5] rfl ?_
            exact j80 w50 hw50 (tKeep.tr (tKeep.tr (tKeep.tr tKeep.rf kw45 rfl) kw48 rfl) kw50 rfl) (x7 + 1) (x8 + x51)
          refine z_if_eq hC (pc := 61) 76 dX5_valueAdded_61 (by decide) (fun c52 => ?_) (fun c52 => ?_)
          · refine z_iconst hC (pc := 76) (v := 1) dX5_valueAdded_76 (by decide) ?_
            refine z_lvs [2, 3, 4, 0, 6] rfl ?_
            exact j77 w48 hw48 tKeep.rf 1
          · refine z_aload_n hC (pc := 64) 2 dX5_valueAdded_64 rfl rfl ?_
            refine u_getK hC (pc := 65) zf5 2 (tKeep.F kw48 (tKeep.F kw45 (tKeep.F kw38 (tKeep.F kw6 fa4 rfl) rfl) rfl) rfl) dX5_valueAdded_65 zw644 (kk := ?_)
            refine z_iload hC (pc := 68) 1 dX5_valueAdded_68 rfl ?_
            refine t_callVi hC hw48 (pc := 70) (As := [.int x46]) (kX3_countOf l G T κ hst hE ma4) trivial dmX3_countOf zf3 hqq47 dX5_valueAdded_70 zw1840 rfl rfl (Nat.le_of_ble_eq_true rfl) (Nat.le_of_ble_eq_true rfl) (Nat.le_of_ble_eq_true rfl) (Nat.le_of_ble_eq_true rfl) (Nat.le_of_ble_eq_true rfl) (fun _ _ _ h => nomatch h) (fun x54 cw53 nw53 w53 hw53 pw53 => ?_)
            obtain ⟨rfl, rfl, kw53⟩ := pw53
            refine z_goto hC (pc := 73) 77 dX5_valueAdded_73 (by decide) ?_
            refine z_lvs [2, 3, 4, 0, 6] rfl ?_
            exact j77 w53 hw53 (tKeep.tr tKeep.rf kw53 rfl) x54
  refine z_lvs [4, 5, 3, 2, 1, 0] rfl ?_
  exact j16 _ w0 hw0 tKeep.rf 0 0 x1 (Nat.le_refl _)
set_option maxRecDepth 20000 in
theorem kX3_addToRoot (l : Launch) (G : zG) (T : tT) (κ : Nat → List Nat) (hst : l.stackTraces = false) (hE : tE G T κ) {a0 : Nat} (h0 : a0 ∈ κ 3) {x1 : Int32} {x2 : Int32} : tMv l G T yX3_addToRoot cX3_addToRoot 3 [] 1 22 0 0 [.ref a0, .int x1, .int x2] uT (uPv 0x8000000000000000000000000000000000000000000000000000) := by
  refine tMv.intro hst rfl (Nat.le_of_ble_eq_true rfl) ?_
  intro w0 hw0 _ X hC hR hO hX
  refine z_aload_n hC (pc := 0) 0 dX3_addToRoot_0 rfl rfl ?_
  refine u_get hC hw0 (pc := 1) zf3 13 (hE.o3 h0) rfl dX3_addToRoot_1 zw520 (kk := fun va5 ta5 fa5 => ?_)
  obtain ⟨a5, ma5, rfl⟩ := ta5
  refine z_aload_n hC (pc := 4) 0 dX3_addToRoot_4 rfl rfl ?_
  refine u_get hC hw0 (pc := 5) zf3 15 (hE.o3 h0) rfl dX3_addToRoot_5 zw522 (kk := fun vx6 tx6 fx6 => ?_)
  obtain ⟨x6, rfl⟩ := tx6
  refine z_iload_n hC (pc := 8) 1 dX3_addToRoot_8 rfl rfl ?_
  refine t_callSNv hC hw0 (pc := 9) (As := [.ref a5, .int x6, .int x1]) (kX12_set l G T κ hst hE ma5) trivial dmX12_set dX3_addToRoot_9 zw1879 rfl rfl (Nat.le_of_ble_eq_true rfl) (Nat.le_of_ble_eq_true rfl) (Nat.le_of_ble_eq_true rfl) (Nat.le_of_ble_eq_true rfl) (Nat.le_of_ble_eq_true rfl) (fun _ _ _ h => nomatch h) (fun cw7 nw7 w7 hw7 pw7 => ?_)
  obtain ⟨rfl, rfl, kw7⟩ := pw7
  refine z_aload_n hC (pc := 12) 0 dX3_addToRoot_12 rfl rfl ?_
  refine u_get hC hw7 (pc := 13) zf3 14 (hE.o3 h0) rfl dX3_addToRoot_13 zw521 (kk := fun va9 ta9 fa9 => ?_)
  obtain ⟨a9, ma9, rfl⟩ := ta9
  refine z_aload_n hC (pc := 16) 0 dX3_addToRoot_16 rfl rfl ?_
  refine u_getK hC (pc := 17) zf3 15 (tKeep.F kw7 fx6 rfl) dX3_addToRoot_17 zw522 (kk := ?_)
  refine z_iload_n hC (pc := 20) 2 dX3_addToRoot_20 rfl rfl ?_
  refine t_callSNv hC hw7 (pc := 21) (As := [.ref a9, .int x6, .int x2]) (kX12_set l G T κ hst hE ma9) trivial dmX12_set dX3_addToRoot_21 zw1879 rfl rfl (Nat.le_of_ble_eq_true rfl) (Nat.le_of_ble_eq_true rfl) (Nat.le_of_ble_eq_true rfl) (Nat.le_of_ble_eq_true rfl) (Nat.le_of_ble_eq_true rfl) (fun _ _ _ h => nomatch h) (fun cw10 nw10 w10 hw10 pw10 => ?_)
  obtain ⟨rfl, rfl, kw10⟩ := pw10
  refine z_aload_n hC (pc := 24) 0 dX3_addToRoot_24 rfl rfl ?_
  refine z_dup hC (pc := 25) dX3_addToRoot_25 rfl ?_
  refine u_getK hC (pc := 26) zf3 15 (tKeep.F kw10 (tKeep.F kw7 fx6 rfl) rfl) dX3_addToRoot_26 zw522 (kk := ?_)
  refine z_iconst hC (pc := 29) (v := 1) dX3_addToRoot_29 (by decide) ?_
  refine z_iadd hC (pc := 30) (v := (x6 + 1)) dX3_addToRoot_30 rfl ?_
  refine u_put hC hw10 (pc := 31) zf3 15 (hE.o3 h0) rfl ⟨_, rfl⟩ dX3_addToRoot_31 zw522 rfl rfl rfl (kk := fun w12 hw12 fw12 kw12 => ?_)
  exact hR _ _ _ _ _ dX3_addToRoot_34 (Nat.le_of_ble_eq_true rfl) (Nat.le_of_ble_eq_true rfl) ⟨hw12, rfl, rfl, (tKeep.tr (tKeep.tr (tKeep.tr tKeep.rf kw7 rfl) kw10 rfl) kw12 rfl)⟩
