theorem zw1731 : Cond.methodLink "TemplateHouse$Checker" 165 ⟨"TemplateHouse$Checker", "filledPart", "(III)I"⟩ ∈ zT := zsub8 51 (by decide +kernel) (by decide +kernel)
theorem zw1727 : Cond.methodLink "TemplateHouse$Checker" 161 ⟨"TemplateHouse$Checker", "partFrom", "(IIII)I"⟩ ∈ zT := zsub8 47 (by decide +kernel) (by decide +kernel)
theorem zw723 : Cond.fieldLink "TemplateHouse" 29 "TemplateHouse" "faultPlace" "I" ∈ zT := zsub4 3 (by decide +kernel) (by decide +kernel)
theorem zw722 : Cond.fieldLink "TemplateHouse" 26 "TemplateHouse" "faultFile" "I" ∈ zT := zsub4 2 (by decide +kernel) (by decide +kernel)
theorem zw721 : Cond.fieldLink "TemplateHouse" 23 "TemplateHouse" "faultNumber" "I" ∈ zT := zsub4 1 (by decide +kernel) (by decide +kernel)
theorem zw62 : Cond.fieldLink "TemplateHouse$Store" 36 "TemplateHouse$Store" "count" "I" ∈ zT := zsub1 62 (by decide +kernel) (by decide +kernel)
theorem zw65 : Cond.fieldLink "TemplateHouse$Store" 40 "TemplateHouse$Store" "used" "I" ∈ zT := zsub1 65 (by decide +kernel) (by decide +kernel)
theorem zw47 : Cond.fieldLink "TemplateHouse$Store" 9 "TemplateHouse$Store" "sort" "[I" ∈ zT := zsub1 47 (by decide +kernel) (by decide +kernel)
theorem zw803 : Cond.methodLinkNest "TemplateHouse$Store" 66 ⟨"TemplateHouse", "set", "([III)V"⟩ "TemplateHouse" ∈ zNest := zsubN4 83 (by decide +kernel) (by decide +kernel)
theorem zw49 : Cond.fieldLink "TemplateHouse$Store" 15 "TemplateHouse$Store" "much" "[J" ∈ zT := zsub1 49 (by decide +kernel) (by decide +kernel)
theorem zw51 : Cond.fieldLink "TemplateHouse$Store" 19 "TemplateHouse$Store" "from" "[I" ∈ zT := zsub1 51 (by decide +kernel) (by decide +kernel)
theorem zw53 : Cond.fieldLink "TemplateHouse$Store" 22 "TemplateHouse$Store" "length" "[I" ∈ zT := zsub1 53 (by decide +kernel) (by decide +kernel)
theorem zw55 : Cond.fieldLink "TemplateHouse$Store" 25 "TemplateHouse$Store" "size" "[I" ∈ zT := zsub1 55 (by decide +kernel) (by decide +kernel)
theorem zw725 : Cond.fieldLink "TemplateHouse" 35 "TemplateHouse" "state" "I" ∈ zT := zsub4 5 (by decide +kernel) (by decide +kernel)
theorem zw713 : Cond.fieldLink "TemplateHouse" 59 "TemplateHouse" "store" "LTemplateHouse$Store;" ∈ zT := zsub3 233 (by decide +kernel) (by decide +kernel)
theorem zw799 : Cond.methodLink "TemplateHouse" 165 ⟨"TemplateHouse$Store", "make", "(IJI)I"⟩ ∈ zT := zsub4 79 (by decide +kernel) (by decide +kernel)
theorem zw60 : Cond.fieldLink "TemplateHouse$Store" 32 "TemplateHouse$Store" "bytes" "[B" ∈ zT := zsub1 60 (by decide +kernel) (by decide +kernel)
theorem zw822 : Cond.methodLinkNest "TemplateHouse$Store" 58 ⟨"TemplateHouse", "getByte", "([BI)I"⟩ "TemplateHouse" ∈ zNest := zsubN4 102 (by decide +kernel) (by decide +kernel)
theorem zw823 : Cond.methodLinkNest "TemplateHouse$Store" 62 ⟨"TemplateHouse", "setByte", "([BII)V"⟩ "TemplateHouse" ∈ zNest := zsubN4 103 (by decide +kernel) (by decide +kernel)
theorem zw818 : Cond.methodLink "TemplateHouse" 173 ⟨"TemplateHouse$Store", "takeBytes", "([BI)V"⟩ ∈ zT := zsub4 98 (by decide +kernel) (by decide +kernel)
theorem zw814 : Cond.methodLink "TemplateHouse" 169 ⟨"TemplateHouse", "fromTape", "(I)I"⟩ ∈ zT := zsub4 94 (by decide +kernel) (by decide +kernel)
theorem zw844 : Cond.methodLinkNest "TemplateHouse$Store" 70 ⟨"TemplateHouse", "get", "([II)I"⟩ "TemplateHouse" ∈ zNest := zsubN4 124 (by decide +kernel) (by decide +kernel)
theorem zw847 : Cond.methodLink "TemplateHouse$Store" 82 ⟨"TemplateHouse$Store", "is", "(II)Z"⟩ ∈ zT := zsub4 127 (by decide +kernel) (by decide +kernel)
theorem zw851 : Cond.methodLink "TemplateHouse$Store" 85 ⟨"TemplateHouse$Store", "mayHave", "(II)Z"⟩ ∈ zT := zsub4 131 (by decide +kernel) (by decide +kernel)
theorem zw67 : Cond.fieldLink "TemplateHouse$Store" 43 "TemplateHouse$Store" "listed" "I" ∈ zT := zsub1 67 (by decide +kernel) (by decide +kernel)
theorem zw57 : Cond.fieldLink "TemplateHouse$Store" 29 "TemplateHouse$Store" "cells" "[I" ∈ zT := zsub1 57 (by decide +kernel) (by decide +kernel)
theorem zw840 : Cond.methodLink "TemplateHouse" 177 ⟨"TemplateHouse$Store", "append", "(II)Z"⟩ ∈ zT := zsub4 120 (by decide +kernel) (by decide +kernel)
theorem zw867 : Cond.methodLinkNest "TemplateHouse$Store" 74 ⟨"TemplateHouse", "same", "([BI[BII)Z"⟩ "TemplateHouse" ∈ zNest := zsubN4 147 (by decide +kernel) (by decide +kernel)
theorem zw863 : Cond.methodLink "TemplateHouse$Store" 88 ⟨"TemplateHouse$Store", "keyOf", "(I[BII)I"⟩ ∈ zT := zsub4 143 (by decide +kernel) (by decide +kernel)
theorem zw870 : Cond.methodLink "TemplateHouse$Store" 92 ⟨"TemplateHouse$Store", "takeBytes", "([BI)V"⟩ ∈ zT := zsub4 150 (by decide +kernel) (by decide +kernel)
theorem zw859 : Cond.methodLink "TemplateHouse" 181 ⟨"TemplateHouse$Store", "setKey", "(II[BI)Z"⟩ ∈ zT := zsub4 139 (by decide +kernel) (by decide +kernel)
theorem zw1734 : Cond.code ⟨"TemplateHouse$Checker", "filledPart", "(III)I"⟩ prog_2_method_15_code 6 (Option.some Jvm.ClassFile.FieldType.int) ∈ zT := zsub8 54 rfl rfl
theorem zw1733 : Cond.instanceMethod ⟨"TemplateHouse$Checker", "filledPart", "(III)I"⟩ ∈ zT := zsub8 53 (by decide +kernel) (by decide +kernel)
theorem zwp9 : Cond.selects "TemplateHouse$Checker" ⟨"TemplateHouse$Checker", "filledPart", "(III)I"⟩ ⟨"TemplateHouse$Checker", "filledPart", "(III)I"⟩ ∈ zT := zin 9 (by decide +kernel) (by decide +kernel)
theorem zw1730 : Cond.code ⟨"TemplateHouse$Checker", "partFrom", "(IIII)I"⟩ prog_2_method_16_code 8 (Option.some Jvm.ClassFile.FieldType.int) ∈ zT := zsub8 50 rfl rfl
theorem zw1729 : Cond.instanceMethod ⟨"TemplateHouse$Checker", "partFrom", "(IIII)I"⟩ ∈ zT := zsub8 49 (by decide +kernel) (by decide +kernel)
theorem zwp16 : Cond.selects "TemplateHouse$Checker" ⟨"TemplateHouse$Checker", "partFrom", "(IIII)I"⟩ ⟨"TemplateHouse$Checker", "partFrom", "(IIII)I"⟩ ∈ zT := zin 16 (by decide +kernel) (by decide +kernel)
theorem zw1726 : Cond.code ⟨"TemplateHouse$Checker", "checkParts", "()V"⟩ prog_2_method_13_code 3 (Option.none : Option Jvm.ClassFile.FieldType) ∈ zT := zsub8 46 rfl rfl
theorem zw1725 : Cond.instanceMethod ⟨"TemplateHouse$Checker", "checkParts", "()V"⟩ ∈ zT := zsub8 45 (by decide +kernel) (by decide +kernel)
theorem zwp8 : Cond.selects "TemplateHouse$Checker" ⟨"TemplateHouse$Checker", "checkParts", "()V"⟩ ⟨"TemplateHouse$Checker", "checkParts", "()V"⟩ ∈ zT := zin 8 (by decide +kernel) (by decide +kernel)
theorem zw1739 : Cond.code ⟨"TemplateHouse$Checker", "tieParts", "()V"⟩ prog_2_method_17_code 6 (Option.none : Option Jvm.ClassFile.FieldType) ∈ zT := zsub8 59 rfl rfl
theorem zw1738 : Cond.instanceMethod ⟨"TemplateHouse$Checker", "tieParts", "()V"⟩ ∈ zT := zsub8 58 (by decide +kernel) (by decide +kernel)
theorem zwp18 : Cond.selects "TemplateHouse$Checker" ⟨"TemplateHouse$Checker", "tieParts", "()V"⟩ ⟨"TemplateHouse$Checker", "tieParts", "()V"⟩ ∈ zT := zin 18 (by decide +kernel) (by decide +kernel)
theorem zw794 : Cond.code ⟨"TemplateHouse", "fault", "(I)I"⟩ prog_1_method_8_code 2 (Option.some Jvm.ClassFile.FieldType.int) ∈ zT := zsub4 74 rfl rfl
theorem zw792 : Cond.instanceMethod ⟨"TemplateHouse", "fault", "(I)I"⟩ ∈ zT := zsub4 72 (by decide +kernel) (by decide +kernel)
theorem zw793 : Cond.selects "TemplateHouse" ⟨"TemplateHouse", "fault", "(I)I"⟩ ⟨"TemplateHouse", "fault", "(I)I"⟩ ∈ zT := zsub4 73 (by decide +kernel) (by decide +kernel)
theorem zw802 : Cond.code ⟨"TemplateHouse$Store", "make", "(IJI)I"⟩ prog_10_method_5_code 5 (Option.some Jvm.ClassFile.FieldType.int) ∈ zT := zsub4 82 rfl rfl
theorem zw2 : Cond.initialized "TemplateHouse$Store" ∈ zT := zsub1 2 (by decide +kernel) (by decide +kernel)
theorem zw800 : Cond.instanceMethod ⟨"TemplateHouse$Store", "make", "(IJI)I"⟩ ∈ zT := zsub4 80 (by decide +kernel) (by decide +kernel)
theorem zw801 : Cond.selects "TemplateHouse$Store" ⟨"TemplateHouse$Store", "make", "(IJI)I"⟩ ⟨"TemplateHouse$Store", "make", "(IJI)I"⟩ ∈ zT := zsub4 81 (by decide +kernel) (by decide +kernel)
theorem zw798 : Cond.code ⟨"TemplateHouse", "truth", "(Z)I"⟩ prog_1_method_9_code 2 (Option.some Jvm.ClassFile.FieldType.int) ∈ zT := zsub4 78 rfl rfl
theorem zw796 : Cond.instanceMethod ⟨"TemplateHouse", "truth", "(Z)I"⟩ ∈ zT := zsub4 76 (by decide +kernel) (by decide +kernel)
theorem zw797 : Cond.selects "TemplateHouse" ⟨"TemplateHouse", "truth", "(Z)I"⟩ ⟨"TemplateHouse", "truth", "(Z)I"⟩ ∈ zT := zsub4 77 (by decide +kernel) (by decide +kernel)
theorem zw809 : Cond.code ⟨"TemplateHouse", "number", "(J)I"⟩ prog_1_method_10_code 3 (Option.some Jvm.ClassFile.FieldType.int) ∈ zT := zsub4 89 rfl rfl
theorem zw807 : Cond.instanceMethod ⟨"TemplateHouse", "number", "(J)I"⟩ ∈ zT := zsub4 87 (by decide +kernel) (by decide +kernel)
theorem zw808 : Cond.selects "TemplateHouse" ⟨"TemplateHouse", "number", "(J)I"⟩ ⟨"TemplateHouse", "number", "(J)I"⟩ ∈ zT := zsub4 88 (by decide +kernel) (by decide +kernel)
theorem zw821 : Cond.code ⟨"TemplateHouse$Store", "takeBytes", "([BI)V"⟩ prog_10_method_6_code 4 (Option.none : Option Jvm.ClassFile.FieldType) ∈ zT := zsub4 101 rfl rfl
theorem zw819 : Cond.instanceMethod ⟨"TemplateHouse$Store", "takeBytes", "([BI)V"⟩ ∈ zT := zsub4 99 (by decide +kernel) (by decide +kernel)
theorem zw820 : Cond.selects "TemplateHouse$Store" ⟨"TemplateHouse$Store", "takeBytes", "([BI)V"⟩ ⟨"TemplateHouse$Store", "takeBytes", "([BI)V"⟩ ∈ zT := zsub4 100 (by decide +kernel) (by decide +kernel)
theorem zw817 : Cond.code ⟨"TemplateHouse", "fromTape", "(I)I"⟩ prog_1_method_15_code 4 (Option.some Jvm.ClassFile.FieldType.int) ∈ zT := zsub4 97 rfl rfl
theorem zw816 : Cond.instanceMethod ⟨"TemplateHouse", "fromTape", "(I)I"⟩ ∈ zT := zsub4 96 (by decide +kernel) (by decide +kernel)
theorem zwp1 : Cond.selects "TemplateHouse" ⟨"TemplateHouse", "fromTape", "(I)I"⟩ ⟨"TemplateHouse", "fromTape", "(I)I"⟩ ∈ zT := zin 1 (by decide +kernel) (by decide +kernel)
theorem zw813 : Cond.code ⟨"TemplateHouse", "word", "()I"⟩ prog_1_method_11_code 1 (Option.some Jvm.ClassFile.FieldType.int) ∈ zT := zsub4 93 rfl rfl
theorem zw811 : Cond.instanceMethod ⟨"TemplateHouse", "word", "()I"⟩ ∈ zT := zsub4 91 (by decide +kernel) (by decide +kernel)
theorem zw812 : Cond.selects "TemplateHouse" ⟨"TemplateHouse", "word", "()I"⟩ ⟨"TemplateHouse", "word", "()I"⟩ ∈ zT := zsub4 92 (by decide +kernel) (by decide +kernel)
theorem zw827 : Cond.code ⟨"TemplateHouse", "list", "()I"⟩ prog_1_method_12_code 1 (Option.some Jvm.ClassFile.FieldType.int) ∈ zT := zsub4 107 rfl rfl
theorem zw825 : Cond.instanceMethod ⟨"TemplateHouse", "list", "()I"⟩ ∈ zT := zsub4 105 (by decide +kernel) (by decide +kernel)
theorem zw826 : Cond.selects "TemplateHouse" ⟨"TemplateHouse", "list", "()I"⟩ ⟨"TemplateHouse", "list", "()I"⟩ ∈ zT := zsub4 106 (by decide +kernel) (by decide +kernel)
theorem zw831 : Cond.code ⟨"TemplateHouse", "map", "()I"⟩ prog_1_method_13_code 1 (Option.some Jvm.ClassFile.FieldType.int) ∈ zT := zsub4 111 rfl rfl
theorem zw829 : Cond.instanceMethod ⟨"TemplateHouse", "map", "()I"⟩ ∈ zT := zsub4 109 (by decide +kernel) (by decide +kernel)
theorem zw830 : Cond.selects "TemplateHouse" ⟨"TemplateHouse", "map", "()I"⟩ ⟨"TemplateHouse", "map", "()I"⟩ ∈ zT := zsub4 110 (by decide +kernel) (by decide +kernel)
theorem zw835 : Cond.code ⟨"TemplateHouse", "bean", "()I"⟩ prog_1_method_14_code 1 (Option.some Jvm.ClassFile.FieldType.int) ∈ zT := zsub4 115 rfl rfl
theorem zw833 : Cond.instanceMethod ⟨"TemplateHouse", "bean", "()I"⟩ ∈ zT := zsub4 113 (by decide +kernel) (by decide +kernel)
theorem zw834 : Cond.selects "TemplateHouse" ⟨"TemplateHouse", "bean", "()I"⟩ ⟨"TemplateHouse", "bean", "()I"⟩ ∈ zT := zsub4 114 (by decide +kernel) (by decide +kernel)
theorem zw850 : Cond.code ⟨"TemplateHouse$Store", "is", "(II)Z"⟩ prog_10_method_7_code 3 (Option.some Jvm.ClassFile.FieldType.boolean) ∈ zT := zsub4 130 rfl rfl
theorem zw848 : Cond.instanceMethod ⟨"TemplateHouse$Store", "is", "(II)Z"⟩ ∈ zT := zsub4 128 (by decide +kernel) (by decide +kernel)
theorem zw849 : Cond.selects "TemplateHouse$Store" ⟨"TemplateHouse$Store", "is", "(II)Z"⟩ ⟨"TemplateHouse$Store", "is", "(II)Z"⟩ ∈ zT := zsub4 129 (by decide +kernel) (by decide +kernel)
theorem zw854 : Cond.code ⟨"TemplateHouse$Store", "mayHave", "(II)Z"⟩ prog_10_method_8_code 3 (Option.some Jvm.ClassFile.FieldType.boolean) ∈ zT := zsub4 134 rfl rfl
theorem zw852 : Cond.instanceMethod ⟨"TemplateHouse$Store", "mayHave", "(II)Z"⟩ ∈ zT := zsub4 132 (by decide +kernel) (by decide +kernel)
theorem zw853 : Cond.selects "TemplateHouse$Store" ⟨"TemplateHouse$Store", "mayHave", "(II)Z"⟩ ⟨"TemplateHouse$Store", "mayHave", "(II)Z"⟩ ∈ zT := zsub4 133 (by decide +kernel) (by decide +kernel)
theorem zw843 : Cond.code ⟨"TemplateHouse$Store", "append", "(II)Z"⟩ prog_10_method_9_code 4 (Option.some Jvm.ClassFile.FieldType.boolean) ∈ zT := zsub4 123 rfl rfl
theorem zw841 : Cond.instanceMethod ⟨"TemplateHouse$Store", "append", "(II)Z"⟩ ∈ zT := zsub4 121 (by decide +kernel) (by decide +kernel)
theorem zw842 : Cond.selects "TemplateHouse$Store" ⟨"TemplateHouse$Store", "append", "(II)Z"⟩ ⟨"TemplateHouse$Store", "append", "(II)Z"⟩ ∈ zT := zsub4 122 (by decide +kernel) (by decide +kernel)
theorem zw839 : Cond.code ⟨"TemplateHouse", "add", "(II)Z"⟩ prog_1_method_16_code 3 (Option.some Jvm.ClassFile.FieldType.boolean) ∈ zT := zsub4 119 rfl rfl
theorem zw837 : Cond.instanceMethod ⟨"TemplateHouse", "add", "(II)Z"⟩ ∈ zT := zsub4 117 (by decide +kernel) (by decide +kernel)
theorem zw838 : Cond.selects "TemplateHouse" ⟨"TemplateHouse", "add", "(II)Z"⟩ ⟨"TemplateHouse", "add", "(II)Z"⟩ ∈ zT := zsub4 118 (by decide +kernel) (by decide +kernel)
theorem zw866 : Cond.code ⟨"TemplateHouse$Store", "keyOf", "(I[BII)I"⟩ prog_10_method_11_code 7 (Option.some Jvm.ClassFile.FieldType.int) ∈ zT := zsub4 146 rfl rfl
theorem zw864 : Cond.instanceMethod ⟨"TemplateHouse$Store", "keyOf", "(I[BII)I"⟩ ∈ zT := zsub4 144 (by decide +kernel) (by decide +kernel)
theorem zw865 : Cond.selects "TemplateHouse$Store" ⟨"TemplateHouse$Store", "keyOf", "(I[BII)I"⟩ ⟨"TemplateHouse$Store", "keyOf", "(I[BII)I"⟩ ∈ zT := zsub4 145 (by decide +kernel) (by decide +kernel)
theorem zw862 : Cond.code ⟨"TemplateHouse$Store", "setKey", "(II[BI)Z"⟩ prog_10_method_10_code 6 (Option.some Jvm.ClassFile.FieldType.boolean) ∈ zT := zsub4 142 rfl rfl
theorem zw860 : Cond.instanceMethod ⟨"TemplateHouse$Store", "setKey", "(II[BI)Z"⟩ ∈ zT := zsub4 140 (by decide +kernel) (by decide +kernel)
theorem zw861 : Cond.selects "TemplateHouse$Store" ⟨"TemplateHouse$Store", "setKey", "(II[BI)Z"⟩ ⟨"TemplateHouse$Store", "setKey", "(II[BI)Z"⟩ ∈ zT := zsub4 141 (by decide +kernel) (by decide +kernel)
theorem zw858 : Cond.code ⟨"TemplateHouse", "entry", "(II)Z"⟩ prog_1_method_17_code 4 (Option.some Jvm.ClassFile.FieldType.boolean) ∈ zT := zsub4 138 rfl rfl
theorem zw856 : Cond.instanceMethod ⟨"TemplateHouse", "entry", "(II)Z"⟩ ∈ zT := zsub4 136 (by decide +kernel) (by decide +kernel)
theorem zw857 : Cond.selects "TemplateHouse" ⟨"TemplateHouse", "entry", "(II)Z"⟩ ⟨"TemplateHouse", "entry", "(II)Z"⟩ ∈ zT := zsub4 137 (by decide +kernel) (by decide +kernel)
theorem zw882 : Cond.code ⟨"TemplateHouse$Store", "propertyOf", "(II[BII)I"⟩ prog_10_method_13_code 8 (Option.some Jvm.ClassFile.FieldType.int) ∈ zT := zsub4 162 rfl rfl
theorem zw880 : Cond.instanceMethod ⟨"TemplateHouse$Store", "propertyOf", "(II[BII)I"⟩ ∈ zT := zsub4 160 (by decide +kernel) (by decide +kernel)
theorem zw881 : Cond.selects "TemplateHouse$Store" ⟨"TemplateHouse$Store", "propertyOf", "(II[BII)I"⟩ ⟨"TemplateHouse$Store", "propertyOf", "(II[BII)I"⟩ ∈ zT := zsub4 161 (by decide +kernel) (by decide +kernel)
abbrev cX0_filledPart : ByteArray := prog_2_method_15_code
abbrev yX0_filledPart : MethodName := ⟨"TemplateHouse$Checker", "filledPart", "(III)I"⟩
theorem dmX0_filledPart : zDv yX0_filledPart cX0_filledPart 6 (some .int) 3 := ⟨⟨⟨by decide +kernel, by decide +kernel, by decide +kernel⟩, zw1734, zw9⟩, zw1733, zwp9⟩
abbrev cX0_partFrom : ByteArray := prog_2_method_16_code
abbrev yX0_partFrom : MethodName := ⟨"TemplateHouse$Checker", "partFrom", "(IIII)I"⟩
theorem dmX0_partFrom : zDv yX0_partFrom cX0_partFrom 8 (some .int) 4 := ⟨⟨⟨by decide +kernel, by decide +kernel, by decide +kernel⟩, zw1730, zw9⟩, zw1729, zwp16⟩
abbrev cX0_checkParts : ByteArray := prog_2_method_13_code
abbrev yX0_checkParts : MethodName := ⟨"TemplateHouse$Checker", "checkParts", "()V"⟩
theorem dmX0_checkParts : zDv yX0_checkParts cX0_checkParts 3 none 0 := ⟨⟨⟨by decide +kernel, by decide +kernel, by decide +kernel⟩, zw1726, zw9⟩, zw1725, zwp8⟩
abbrev cX0_tieParts : ByteArray := prog_2_method_17_code
abbrev yX0_tieParts : MethodName := ⟨"TemplateHouse$Checker", "tieParts", "()V"⟩
theorem dmX0_tieParts : zDv yX0_tieParts cX0_tieParts 6 none 0 := ⟨⟨⟨by decide +kernel, by decide +kernel, by decide +kernel⟩, zw1739, zw9⟩, zw1738, zwp18⟩
abbrev cX12_fault : ByteArray := prog_1_method_8_code
abbrev yX12_fault : MethodName := ⟨"TemplateHouse", "fault", "(I)I"⟩
theorem dmX12_fault : zDv yX12_fault cX12_fault 2 (some .int) 1 := ⟨⟨⟨by decide +kernel, by decide +kernel, by decide +kernel⟩, zw794, zw1⟩, zw792, zw793⟩
abbrev cX8_make : ByteArray := prog_10_method_5_code
abbrev yX8_make : MethodName := ⟨"TemplateHouse$Store", "make", "(IJI)I"⟩
theorem dmX8_make : zDv yX8_make cX8_make 5 (some .int) 3 := ⟨⟨⟨by decide +kernel, by decide +kernel, by decide +kernel⟩, zw802, zw2⟩, zw800, zw801⟩
abbrev cX12_truth : ByteArray := prog_1_method_9_code
abbrev yX12_truth : MethodName := ⟨"TemplateHouse", "truth", "(Z)I"⟩
theorem dmX12_truth : zDv yX12_truth cX12_truth 2 (some .int) 1 := ⟨⟨⟨by decide +kernel, by decide +kernel, by decide +kernel⟩, zw798, zw1⟩, zw796, zw797⟩
abbrev cX12_number : ByteArray := prog_1_method_10_code
abbrev yX12_number : MethodName := ⟨"TemplateHouse", "number", "(J)I"⟩
theorem dmX12_number : zDv yX12_number cX12_number 3 (some .int) 1 := ⟨⟨⟨by decide +kernel, by decide +kernel, by decide +kernel⟩, zw809, zw1⟩, zw807, zw808⟩
abbrev cX8_takeBytes : ByteArray := prog_10_method_6_code
abbrev yX8_takeBytes : MethodName := ⟨"TemplateHouse$Store", "takeBytes", "([BI)V"⟩
theorem dmX8_takeBytes : zDv yX8_takeBytes cX8_takeBytes 4 none 2 := ⟨⟨⟨by decide +kernel, by decide +kernel, by decide +kernel⟩, zw821, zw2⟩, zw819, zw820⟩
abbrev cX12_fromTape : ByteArray := prog_1_method_15_code
abbrev yX12_fromTape : MethodName := ⟨"TemplateHouse", "fromTape", "(I)I"⟩
theorem dmX12_fromTape : zDv yX12_fromTape cX12_fromTape 4 (some .int) 1 := ⟨⟨⟨by decide +kernel, by decide +kernel, by decide +kernel⟩, zw817, zw1⟩, zw816, zwp1⟩
abbrev cX12_word : ByteArray := prog_1_method_11_code
abbrev yX12_word : MethodName := ⟨"TemplateHouse", "word", "()I"⟩
theorem dmX12_word : zDv yX12_word cX12_word 1 (some .int) 0 := ⟨⟨⟨by decide +kernel, by decide +kernel, by decide +kernel⟩, zw813, zw1⟩, zw811, zw812⟩
abbrev cX12_list : ByteArray := prog_1_method_12_code
abbrev yX12_list : MethodName := ⟨"TemplateHouse", "list", "()I"⟩
theorem dmX12_list : zDv yX12_list cX12_list 1 (some .int) 0 := ⟨⟨⟨by decide +kernel, by decide +kernel, by decide +kernel⟩, zw827, zw1⟩, zw825, zw826⟩
abbrev cX12_map : ByteArray := prog_1_method_13_code
abbrev yX12_map : MethodName := ⟨"TemplateHouse", "map", "()I"⟩
theorem dmX12_map : zDv yX12_map cX12_map 1 (some .int) 0 := ⟨⟨⟨by decide +kernel, by decide +kernel, by decide +kernel⟩, zw831, zw1⟩, zw829, zw830⟩
abbrev cX12_bean : ByteArray := prog_1_method_14_code
abbrev yX12_bean : MethodName := ⟨"TemplateHouse", "bean", "()I"⟩
theorem dmX12_bean : zDv yX12_bean cX12_bean 1 (some .int) 0 := ⟨⟨⟨by decide +kernel, by decide +kernel, by decide +kernel⟩, zw835, zw1⟩, zw833, zw834⟩
abbrev cX8_is : ByteArray := prog_10_method_7_code
abbrev yX8_is : MethodName := ⟨"TemplateHouse$Store", "is", "(II)Z"⟩
theorem dmX8_is : zDv yX8_is cX8_is 3 (some .boolean) 2 := ⟨⟨⟨by decide +kernel, by decide +kernel, by decide +kernel⟩, zw850, zw2⟩, zw848, zw849⟩
abbrev cX8_mayHave : ByteArray := prog_10_method_8_code
abbrev yX8_mayHave : MethodName := ⟨"TemplateHouse$Store", "mayHave", "(II)Z"⟩
theorem dmX8_mayHave : zDv yX8_mayHave cX8_mayHave 3 (some .boolean) 2 := ⟨⟨⟨by decide +kernel, by decide +kernel, by decide +kernel⟩, zw854, zw2⟩, zw852, zw853⟩
abbrev cX8_append : ByteArray := prog_10_method_9_code
abbrev yX8_append : MethodName := ⟨"TemplateHouse$Store", "append", "(II)Z"⟩
theorem dmX8_append : zDv yX8_append cX8_append 4 (some .boolean) 2 := ⟨⟨⟨by decide +kernel, by decide +kernel, by decide +kernel⟩, zw843, zw2⟩, zw841, zw842⟩
abbrev cX12_add : ByteArray := prog_1_method_16_code
abbrev yX12_add : MethodName := ⟨"TemplateHouse", "add", "(II)Z"⟩
theorem dmX12_add : zDv yX12_add cX12_add 3 (some .boolean) 2 := ⟨⟨⟨by decide +kernel, by decide +kernel, by decide +kernel⟩, zw839, zw1⟩, zw837, zw838⟩
abbrev cX8_keyOf : ByteArray := prog_10_method_11_code
abbrev yX8_keyOf : MethodName := ⟨"TemplateHouse$Store", "keyOf", "(I[BII)I"⟩
theorem dmX8_keyOf : zDv yX8_keyOf cX8_keyOf 7 (some .int) 4 := ⟨⟨⟨by decide +kernel, by decide +kernel, by decide +kernel⟩, zw866, zw2⟩, zw864, zw865⟩
abbrev cX8_setKey : ByteArray := prog_10_method_10_code
abbrev yX8_setKey : MethodName := ⟨"TemplateHouse$Store", "setKey", "(II[BI)Z"⟩
theorem dmX8_setKey : zDv yX8_setKey cX8_setKey 6 (some .boolean) 4 := ⟨⟨⟨by decide +kernel, by decide +kernel, by decide +kernel⟩, zw862, zw2⟩, zw860, zw861⟩
abbrev cX12_entry : ByteArray := prog_1_method_17_code
abbrev yX12_entry : MethodName := ⟨"TemplateHouse", "entry", "(II)Z"⟩
theorem dmX12_entry : zDv yX12_entry cX12_entry 4 (some .boolean) 2 := ⟨⟨⟨by decide +kernel, by decide +kernel, by decide +kernel⟩, zw858, zw1⟩, zw856, zw857⟩
abbrev cX8_propertyOf : ByteArray := prog_10_method_13_code
abbrev yX8_propertyOf : MethodName := ⟨"TemplateHouse$Store", "propertyOf", "(II[BII)I"⟩
theorem dmX8_propertyOf : zDv yX8_propertyOf cX8_propertyOf 8 (some .int) 5 := ⟨⟨⟨by decide +kernel, by decide +kernel, by decide +kernel⟩, zw882, zw2⟩, zw880, zw881⟩
theorem dX0_filledPart_0 : decode cX0_filledPart 0 = .ok (.iconst 0, 1) := by decide +kernel
theorem dX0_filledPart_1 : decode cX0_filledPart 1 = .ok (.istore 4, 2) := by decide +kernel
theorem dX0_filledPart_3 : decode cX0_filledPart 3 = .ok (.iload 4, 2) := by decide +kernel
theorem dX0_filledPart_5 : decode cX0_filledPart 5 = .ok (.aload_n 0, 1) := by decide +kernel
theorem dX0_filledPart_6 : decode cX0_filledPart 6 = .ok (.getfield 25, 3) := by decide +kernel
theorem dX0_filledPart_9 : decode cX0_filledPart 9 = .ok (.getfield 113, 3) := by decide +kernel
theorem dX0_filledPart_12 : decode cX0_filledPart 12 = .ok (.if_icmp .ge 101, 3) := by decide +kernel
theorem dX0_filledPart_113 : decode cX0_filledPart 113 = .ok (.iconst (-1), 1) := by decide +kernel
theorem dX0_filledPart_114 : decode cX0_filledPart 114 = .ok (.ireturn, 1) := by decide +kernel
theorem dX0_filledPart_15 : decode cX0_filledPart 15 = .ok (.iload 4, 2) := by decide +kernel
theorem dX0_filledPart_17 : decode cX0_filledPart 17 = .ok (.bipush 7, 2) := by decide +kernel
theorem dX0_filledPart_19 : decode cX0_filledPart 19 = .ok (.imul, 1) := by decide +kernel
theorem dX0_filledPart_20 : decode cX0_filledPart 20 = .ok (.istore 5, 2) := by decide +kernel
theorem dX0_filledPart_22 : decode cX0_filledPart 22 = .ok (.aload_n 0, 1) := by decide +kernel
theorem dX0_filledPart_23 : decode cX0_filledPart 23 = .ok (.getfield 25, 3) := by decide +kernel
theorem dX0_filledPart_26 : decode cX0_filledPart 26 = .ok (.getfield 116, 3) := by decide +kernel
theorem dX0_filledPart_29 : decode cX0_filledPart 29 = .ok (.iload 5, 2) := by decide +kernel
theorem dX0_filledPart_31 : decode cX0_filledPart 31 = .ok (.invokestatic 50, 3) := by decide +kernel
theorem dX0_filledPart_34 : decode cX0_filledPart 34 = .ok (.iconst 3, 1) := by decide +kernel
theorem dX0_filledPart_35 : decode cX0_filledPart 35 = .ok (.if_icmp .ne 72, 3) := by decide +kernel
theorem dX0_filledPart_107 : decode cX0_filledPart 107 = .ok (.iinc 4 1, 3) := by decide +kernel
theorem dX0_filledPart_110 : decode cX0_filledPart 110 = .ok (.goto (-107), 3) := by decide +kernel
theorem dX0_filledPart_38 : decode cX0_filledPart 38 = .ok (.aload_n 0, 1) := by decide +kernel
theorem dX0_filledPart_39 : decode cX0_filledPart 39 = .ok (.getfield 25, 3) := by decide +kernel
theorem dX0_filledPart_42 : decode cX0_filledPart 42 = .ok (.getfield 116, 3) := by decide +kernel
theorem dX0_filledPart_45 : decode cX0_filledPart 45 = .ok (.iload 5, 2) := by decide +kernel
theorem dX0_filledPart_47 : decode cX0_filledPart 47 = .ok (.iconst 1, 1) := by decide +kernel
theorem dX0_filledPart_48 : decode cX0_filledPart 48 = .ok (.iadd, 1) := by decide +kernel
theorem dX0_filledPart_49 : decode cX0_filledPart 49 = .ok (.invokestatic 50, 3) := by decide +kernel
theorem dX0_filledPart_52 : decode cX0_filledPart 52 = .ok (.iload_n 1, 1) := by decide +kernel
theorem dX0_filledPart_53 : decode cX0_filledPart 53 = .ok (.if_icmp .ne 54, 3) := by decide +kernel
theorem dX0_filledPart_56 : decode cX0_filledPart 56 = .ok (.aload_n 0, 1) := by decide +kernel
theorem dX0_filledPart_57 : decode cX0_filledPart 57 = .ok (.getfield 25, 3) := by decide +kernel
theorem dX0_filledPart_60 : decode cX0_filledPart 60 = .ok (.getfield 116, 3) := by decide +kernel
theorem dX0_filledPart_63 : decode cX0_filledPart 63 = .ok (.iload 5, 2) := by decide +kernel
theorem dX0_filledPart_65 : decode cX0_filledPart 65 = .ok (.iconst 2, 1) := by decide +kernel
theorem dX0_filledPart_66 : decode cX0_filledPart 66 = .ok (.iadd, 1) := by decide +kernel
theorem dX0_filledPart_67 : decode cX0_filledPart 67 = .ok (.invokestatic 50, 3) := by decide +kernel
theorem dX0_filledPart_70 : decode cX0_filledPart 70 = .ok (.iload_n 2, 1) := by decide +kernel
theorem dX0_filledPart_71 : decode cX0_filledPart 71 = .ok (.if_icmp .ne 36, 3) := by decide +kernel
theorem dX0_filledPart_74 : decode cX0_filledPart 74 = .ok (.aload_n 0, 1) := by decide +kernel
theorem dX0_filledPart_75 : decode cX0_filledPart 75 = .ok (.getfield 25, 3) := by decide +kernel
theorem dX0_filledPart_78 : decode cX0_filledPart 78 = .ok (.getfield 116, 3) := by decide +kernel
theorem dX0_filledPart_81 : decode cX0_filledPart 81 = .ok (.iload 5, 2) := by decide +kernel
theorem dX0_filledPart_83 : decode cX0_filledPart 83 = .ok (.iconst 5, 1) := by decide +kernel
theorem dX0_filledPart_84 : decode cX0_filledPart 84 = .ok (.iadd, 1) := by decide +kernel
theorem dX0_filledPart_85 : decode cX0_filledPart 85 = .ok (.invokestatic 50, 3) := by decide +kernel
theorem dX0_filledPart_88 : decode cX0_filledPart 88 = .ok (.iload_n 3, 1) := by decide +kernel
theorem dX0_filledPart_89 : decode cX0_filledPart 89 = .ok (.if_icmp .ne 18, 3) := by decide +kernel
theorem dX0_filledPart_92 : decode cX0_filledPart 92 = .ok (.aload_n 0, 1) := by decide +kernel
theorem dX0_filledPart_93 : decode cX0_filledPart 93 = .ok (.getfield 25, 3) := by decide +kernel
theorem dX0_filledPart_96 : decode cX0_filledPart 96 = .ok (.getfield 116, 3) := by decide +kernel
theorem dX0_filledPart_99 : decode cX0_filledPart 99 = .ok (.iload 5, 2) := by decide +kernel
theorem dX0_filledPart_101 : decode cX0_filledPart 101 = .ok (.iconst 4, 1) := by decide +kernel
theorem dX0_filledPart_102 : decode cX0_filledPart 102 = .ok (.iadd, 1) := by decide +kernel
theorem dX0_filledPart_103 : decode cX0_filledPart 103 = .ok (.invokestatic 50, 3) := by decide +kernel
theorem dX0_filledPart_106 : decode cX0_filledPart 106 = .ok (.ireturn, 1) := by decide +kernel
theorem dX0_partFrom_0 : decode cX0_partFrom 0 = .ok (.iload_n 2, 1) := by decide +kernel
theorem dX0_partFrom_1 : decode cX0_partFrom 1 = .ok (.istore 5, 2) := by decide +kernel
theorem dX0_partFrom_3 : decode cX0_partFrom 3 = .ok (.iload 5, 2) := by decide +kernel
theorem dX0_partFrom_5 : decode cX0_partFrom 5 = .ok (.aload_n 0, 1) := by decide +kernel
theorem dX0_partFrom_6 : decode cX0_partFrom 6 = .ok (.getfield 25, 3) := by decide +kernel
theorem dX0_partFrom_9 : decode cX0_partFrom 9 = .ok (.getfield 29, 3) := by decide +kernel
theorem dX0_partFrom_12 : decode cX0_partFrom 12 = .ok (.iload_n 1, 1) := by decide +kernel
theorem dX0_partFrom_13 : decode cX0_partFrom 13 = .ok (.invokevirtual 101, 3) := by decide +kernel
theorem dX0_partFrom_16 : decode cX0_partFrom 16 = .ok (.if_icmp .ge 61, 3) := by decide +kernel
theorem dX0_partFrom_77 : decode cX0_partFrom 77 = .ok (.iconst (-1), 1) := by decide +kernel
theorem dX0_partFrom_78 : decode cX0_partFrom 78 = .ok (.ireturn, 1) := by decide +kernel
theorem dX0_partFrom_19 : decode cX0_partFrom 19 = .ok (.aload_n 0, 1) := by decide +kernel
theorem dX0_partFrom_20 : decode cX0_partFrom 20 = .ok (.getfield 25, 3) := by decide +kernel
theorem dX0_partFrom_23 : decode cX0_partFrom 23 = .ok (.getfield 29, 3) := by decide +kernel
theorem dX0_partFrom_26 : decode cX0_partFrom 26 = .ok (.iload_n 1, 1) := by decide +kernel
theorem dX0_partFrom_27 : decode cX0_partFrom 27 = .ok (.iload 5, 2) := by decide +kernel
theorem dX0_partFrom_29 : decode cX0_partFrom 29 = .ok (.invokevirtual 105, 3) := by decide +kernel
theorem dX0_partFrom_32 : decode cX0_partFrom 32 = .ok (.istore 6, 2) := by decide +kernel
theorem dX0_partFrom_34 : decode cX0_partFrom 34 = .ok (.aload_n 0, 1) := by decide +kernel
theorem dX0_partFrom_35 : decode cX0_partFrom 35 = .ok (.iload 6, 2) := by decide +kernel
theorem dX0_partFrom_37 : decode cX0_partFrom 37 = .ok (.iload_n 3, 1) := by decide +kernel
theorem dX0_partFrom_38 : decode cX0_partFrom 38 = .ok (.iload 4, 2) := by decide +kernel
theorem dX0_partFrom_40 : decode cX0_partFrom 40 = .ok (.invokevirtual 165, 3) := by decide +kernel
theorem dX0_partFrom_43 : decode cX0_partFrom 43 = .ok (.istore 7, 2) := by decide +kernel
theorem dX0_partFrom_45 : decode cX0_partFrom 45 = .ok (.iload 7, 2) := by decide +kernel
theorem dX0_partFrom_47 : decode cX0_partFrom 47 = .ok (.iconst (-1), 1) := by decide +kernel
theorem dX0_partFrom_48 : decode cX0_partFrom 48 = .ok (.if_icmp .ne 14, 3) := by decide +kernel
theorem dX0_partFrom_62 : decode cX0_partFrom 62 = .ok (.iload 7, 2) := by decide +kernel
theorem dX0_partFrom_64 : decode cX0_partFrom 64 = .ok (.iconst (-1), 1) := by decide +kernel
theorem dX0_partFrom_65 : decode cX0_partFrom 65 = .ok (.if_icmp .eq 6, 3) := by decide +kernel
theorem dX0_partFrom_71 : decode cX0_partFrom 71 = .ok (.iinc 5 1, 3) := by decide +kernel
theorem dX0_partFrom_74 : decode cX0_partFrom 74 = .ok (.goto (-71), 3) := by decide +kernel
theorem dX0_partFrom_68 : decode cX0_partFrom 68 = .ok (.iload 7, 2) := by decide +kernel
theorem dX0_partFrom_70 : decode cX0_partFrom 70 = .ok (.ireturn, 1) := by decide +kernel
theorem dX0_partFrom_51 : decode cX0_partFrom 51 = .ok (.aload_n 0, 1) := by decide +kernel
theorem dX0_partFrom_52 : decode cX0_partFrom 52 = .ok (.iload 6, 2) := by decide +kernel
theorem dX0_partFrom_54 : decode cX0_partFrom 54 = .ok (.iload_n 3, 1) := by decide +kernel
theorem dX0_partFrom_55 : decode cX0_partFrom 55 = .ok (.iload 4, 2) := by decide +kernel
theorem dX0_partFrom_57 : decode cX0_partFrom 57 = .ok (.invokevirtual 126, 3) := by decide +kernel
theorem dX0_partFrom_60 : decode cX0_partFrom 60 = .ok (.istore 7, 2) := by decide +kernel
theorem dX0_checkParts_0 : decode cX0_checkParts 0 = .ok (.iconst 0, 1) := by decide +kernel
theorem dX0_checkParts_1 : decode cX0_checkParts 1 = .ok (.istore_n 1, 1) := by decide +kernel
theorem dX0_checkParts_2 : decode cX0_checkParts 2 = .ok (.iload_n 1, 1) := by decide +kernel
theorem dX0_checkParts_3 : decode cX0_checkParts 3 = .ok (.aload_n 0, 1) := by decide +kernel
theorem dX0_checkParts_4 : decode cX0_checkParts 4 = .ok (.getfield 25, 3) := by decide +kernel
theorem dX0_checkParts_7 : decode cX0_checkParts 7 = .ok (.getfield 155, 3) := by decide +kernel
theorem dX0_checkParts_10 : decode cX0_checkParts 10 = .ok (.if_icmp .ge 107, 3) := by decide +kernel
theorem dX0_checkParts_117 : decode cX0_checkParts 117 = .ok (.return_, 1) := by decide +kernel
theorem dX0_checkParts_13 : decode cX0_checkParts 13 = .ok (.iload_n 1, 1) := by decide +kernel
theorem dX0_checkParts_14 : decode cX0_checkParts 14 = .ok (.bipush 6, 2) := by decide +kernel
theorem dX0_checkParts_16 : decode cX0_checkParts 16 = .ok (.imul, 1) := by decide +kernel
theorem dX0_checkParts_17 : decode cX0_checkParts 17 = .ok (.istore_n 2, 1) := by decide +kernel
theorem dX0_checkParts_18 : decode cX0_checkParts 18 = .ok (.aload_n 0, 1) := by decide +kernel
theorem dX0_checkParts_19 : decode cX0_checkParts 19 = .ok (.getfield 25, 3) := by decide +kernel
theorem dX0_checkParts_22 : decode cX0_checkParts 22 = .ok (.getfield 158, 3) := by decide +kernel
theorem dX0_checkParts_25 : decode cX0_checkParts 25 = .ok (.iload_n 2, 1) := by decide +kernel
theorem dX0_checkParts_26 : decode cX0_checkParts 26 = .ok (.invokestatic 50, 3) := by decide +kernel
theorem dX0_checkParts_29 : decode cX0_checkParts 29 = .ok (.aload_n 0, 1) := by decide +kernel
theorem dX0_checkParts_30 : decode cX0_checkParts 30 = .ok (.getfield 9, 3) := by decide +kernel
theorem dX0_checkParts_33 : decode cX0_checkParts 33 = .ok (.if_icmp .ne 78, 3) := by decide +kernel
theorem dX0_checkParts_111 : decode cX0_checkParts 111 = .ok (.iinc 1 1, 3) := by decide +kernel
theorem dX0_checkParts_114 : decode cX0_checkParts 114 = .ok (.goto (-112), 3) := by decide +kernel
theorem dX0_checkParts_36 : decode cX0_checkParts 36 = .ok (.aload_n 0, 1) := by decide +kernel
theorem dX0_checkParts_37 : decode cX0_checkParts 37 = .ok (.getfield 25, 3) := by decide +kernel
theorem dX0_checkParts_40 : decode cX0_checkParts 40 = .ok (.getfield 158, 3) := by decide +kernel
theorem dX0_checkParts_43 : decode cX0_checkParts 43 = .ok (.iload_n 2, 1) := by decide +kernel
theorem dX0_checkParts_44 : decode cX0_checkParts 44 = .ok (.iconst 4, 1) := by decide +kernel
theorem dX0_checkParts_45 : decode cX0_checkParts 45 = .ok (.iadd, 1) := by decide +kernel
theorem dX0_checkParts_46 : decode cX0_checkParts 46 = .ok (.invokestatic 50, 3) := by decide +kernel
theorem dX0_checkParts_49 : decode cX0_checkParts 49 = .ok (.iconst 1, 1) := by decide +kernel
theorem dX0_checkParts_50 : decode cX0_checkParts 50 = .ok (.if_icmp .ne 61, 3) := by decide +kernel
theorem dX0_checkParts_53 : decode cX0_checkParts 53 = .ok (.aload_n 0, 1) := by decide +kernel
theorem dX0_checkParts_54 : decode cX0_checkParts 54 = .ok (.aload_n 0, 1) := by decide +kernel
theorem dX0_checkParts_55 : decode cX0_checkParts 55 = .ok (.getfield 9, 3) := by decide +kernel
theorem dX0_checkParts_58 : decode cX0_checkParts 58 = .ok (.iconst 1, 1) := by decide +kernel
theorem dX0_checkParts_59 : decode cX0_checkParts 59 = .ok (.aload_n 0, 1) := by decide +kernel
theorem dX0_checkParts_60 : decode cX0_checkParts 60 = .ok (.getfield 25, 3) := by decide +kernel
theorem dX0_checkParts_63 : decode cX0_checkParts 63 = .ok (.getfield 158, 3) := by decide +kernel
theorem dX0_checkParts_66 : decode cX0_checkParts 66 = .ok (.iload_n 2, 1) := by decide +kernel
theorem dX0_checkParts_67 : decode cX0_checkParts 67 = .ok (.iconst 1, 1) := by decide +kernel
theorem dX0_checkParts_68 : decode cX0_checkParts 68 = .ok (.iadd, 1) := by decide +kernel
theorem dX0_checkParts_69 : decode cX0_checkParts 69 = .ok (.invokestatic 50, 3) := by decide +kernel
theorem dX0_checkParts_72 : decode cX0_checkParts 72 = .ok (.aload_n 0, 1) := by decide +kernel
theorem dX0_checkParts_73 : decode cX0_checkParts 73 = .ok (.getfield 25, 3) := by decide +kernel
theorem dX0_checkParts_76 : decode cX0_checkParts 76 = .ok (.getfield 158, 3) := by decide +kernel
theorem dX0_checkParts_79 : decode cX0_checkParts 79 = .ok (.iload_n 2, 1) := by decide +kernel
theorem dX0_checkParts_80 : decode cX0_checkParts 80 = .ok (.iconst 2, 1) := by decide +kernel
theorem dX0_checkParts_81 : decode cX0_checkParts 81 = .ok (.iadd, 1) := by decide +kernel
theorem dX0_checkParts_82 : decode cX0_checkParts 82 = .ok (.invokestatic 50, 3) := by decide +kernel
theorem dX0_checkParts_85 : decode cX0_checkParts 85 = .ok (.invokevirtual 161, 3) := by decide +kernel
theorem dX0_checkParts_88 : decode cX0_checkParts 88 = .ok (.iconst (-1), 1) := by decide +kernel
theorem dX0_checkParts_89 : decode cX0_checkParts 89 = .ok (.if_icmp .ne 22, 3) := by decide +kernel
theorem dX0_checkParts_92 : decode cX0_checkParts 92 = .ok (.aload_n 0, 1) := by decide +kernel
theorem dX0_checkParts_93 : decode cX0_checkParts 93 = .ok (.bipush 9, 2) := by decide +kernel
theorem dX0_checkParts_95 : decode cX0_checkParts 95 = .ok (.aload_n 0, 1) := by decide +kernel
theorem dX0_checkParts_96 : decode cX0_checkParts 96 = .ok (.getfield 25, 3) := by decide +kernel
theorem dX0_checkParts_99 : decode cX0_checkParts 99 = .ok (.getfield 158, 3) := by decide +kernel
theorem dX0_checkParts_102 : decode cX0_checkParts 102 = .ok (.iload_n 2, 1) := by decide +kernel
theorem dX0_checkParts_103 : decode cX0_checkParts 103 = .ok (.iconst 5, 1) := by decide +kernel
theorem dX0_checkParts_104 : decode cX0_checkParts 104 = .ok (.iadd, 1) := by decide +kernel
theorem dX0_checkParts_105 : decode cX0_checkParts 105 = .ok (.invokestatic 50, 3) := by decide +kernel
theorem dX0_checkParts_108 : decode cX0_checkParts 108 = .ok (.invokevirtual 66, 3) := by decide +kernel
theorem dX0_tieParts_0 : decode cX0_tieParts 0 = .ok (.aload_n 0, 1) := by decide +kernel
theorem dX0_tieParts_1 : decode cX0_tieParts 1 = .ok (.getfield 25, 3) := by decide +kernel
theorem dX0_tieParts_4 : decode cX0_tieParts 4 = .ok (.getfield 29, 3) := by decide +kernel
theorem dX0_tieParts_7 : decode cX0_tieParts 7 = .ok (.getfield 46, 3) := by decide +kernel
theorem dX0_tieParts_10 : decode cX0_tieParts 10 = .ok (.iconst 0, 1) := by decide +kernel
theorem dX0_tieParts_11 : decode cX0_tieParts 11 = .ok (.invokestatic 50, 3) := by decide +kernel
theorem dX0_tieParts_14 : decode cX0_tieParts 14 = .ok (.istore_n 1, 1) := by decide +kernel
theorem dX0_tieParts_15 : decode cX0_tieParts 15 = .ok (.iconst 0, 1) := by decide +kernel
theorem dX0_tieParts_16 : decode cX0_tieParts 16 = .ok (.istore_n 2, 1) := by decide +kernel
theorem dX0_tieParts_17 : decode cX0_tieParts 17 = .ok (.iload_n 2, 1) := by decide +kernel
theorem dX0_tieParts_18 : decode cX0_tieParts 18 = .ok (.aload_n 0, 1) := by decide +kernel
theorem dX0_tieParts_19 : decode cX0_tieParts 19 = .ok (.getfield 25, 3) := by decide +kernel
theorem dX0_tieParts_22 : decode cX0_tieParts 22 = .ok (.getfield 155, 3) := by decide +kernel
theorem dX0_tieParts_25 : decode cX0_tieParts 25 = .ok (.if_icmp .ge 127, 3) := by decide +kernel
theorem dX0_tieParts_152 : decode cX0_tieParts 152 = .ok (.return_, 1) := by decide +kernel
theorem dX0_tieParts_28 : decode cX0_tieParts 28 = .ok (.iload_n 2, 1) := by decide +kernel
theorem dX0_tieParts_29 : decode cX0_tieParts 29 = .ok (.bipush 6, 2) := by decide +kernel
theorem dX0_tieParts_31 : decode cX0_tieParts 31 = .ok (.imul, 1) := by decide +kernel
theorem dX0_tieParts_32 : decode cX0_tieParts 32 = .ok (.istore_n 3, 1) := by decide +kernel
theorem dX0_tieParts_33 : decode cX0_tieParts 33 = .ok (.aload_n 0, 1) := by decide +kernel
theorem dX0_tieParts_34 : decode cX0_tieParts 34 = .ok (.getfield 25, 3) := by decide +kernel
theorem dX0_tieParts_37 : decode cX0_tieParts 37 = .ok (.getfield 158, 3) := by decide +kernel
theorem dX0_tieParts_40 : decode cX0_tieParts 40 = .ok (.iload_n 3, 1) := by decide +kernel
theorem dX0_tieParts_41 : decode cX0_tieParts 41 = .ok (.iconst 4, 1) := by decide +kernel
theorem dX0_tieParts_42 : decode cX0_tieParts 42 = .ok (.iadd, 1) := by decide +kernel
theorem dX0_tieParts_43 : decode cX0_tieParts 43 = .ok (.invokestatic 50, 3) := by decide +kernel
theorem dX0_tieParts_46 : decode cX0_tieParts 46 = .ok (.iconst 1, 1) := by decide +kernel
theorem dX0_tieParts_47 : decode cX0_tieParts 47 = .ok (.if_icmp .ne 7, 3) := by decide +kernel
theorem dX0_tieParts_55 : decode cX0_tieParts 55 = .ok (.istore 4, 2) := by decide +kernel
theorem dX0_tieParts_57 : decode cX0_tieParts 57 = .ok (.aload_n 0, 1) := by decide +kernel
theorem dX0_tieParts_58 : decode cX0_tieParts 58 = .ok (.iload 4, 2) := by decide +kernel
theorem dX0_tieParts_60 : decode cX0_tieParts 60 = .ok (.ifCond .eq 17, 3) := by decide +kernel
theorem dX0_tieParts_78 : decode cX0_tieParts 78 = .ok (.iload 4, 2) := by decide +kernel
theorem dX0_tieParts_80 : decode cX0_tieParts 80 = .ok (.ifCond .eq 7, 3) := by decide +kernel
theorem dX0_tieParts_88 : decode cX0_tieParts 88 = .ok (.aload_n 0, 1) := by decide +kernel
theorem dX0_tieParts_89 : decode cX0_tieParts 89 = .ok (.getfield 25, 3) := by decide +kernel
theorem dX0_tieParts_92 : decode cX0_tieParts 92 = .ok (.getfield 158, 3) := by decide +kernel
theorem dX0_tieParts_95 : decode cX0_tieParts 95 = .ok (.iload_n 3, 1) := by decide +kernel
theorem dX0_tieParts_96 : decode cX0_tieParts 96 = .ok (.iconst 1, 1) := by decide +kernel
theorem dX0_tieParts_97 : decode cX0_tieParts 97 = .ok (.iadd, 1) := by decide +kernel
theorem dX0_tieParts_98 : decode cX0_tieParts 98 = .ok (.invokestatic 50, 3) := by decide +kernel
theorem dX0_tieParts_101 : decode cX0_tieParts 101 = .ok (.aload_n 0, 1) := by decide +kernel
theorem dX0_tieParts_102 : decode cX0_tieParts 102 = .ok (.getfield 25, 3) := by decide +kernel
theorem dX0_tieParts_105 : decode cX0_tieParts 105 = .ok (.getfield 158, 3) := by decide +kernel
theorem dX0_tieParts_108 : decode cX0_tieParts 108 = .ok (.iload_n 3, 1) := by decide +kernel
theorem dX0_tieParts_109 : decode cX0_tieParts 109 = .ok (.iconst 2, 1) := by decide +kernel
theorem dX0_tieParts_110 : decode cX0_tieParts 110 = .ok (.iadd, 1) := by decide +kernel
theorem dX0_tieParts_111 : decode cX0_tieParts 111 = .ok (.invokestatic 50, 3) := by decide +kernel
theorem dX0_tieParts_114 : decode cX0_tieParts 114 = .ok (.invokevirtual 161, 3) := by decide +kernel
theorem dX0_tieParts_117 : decode cX0_tieParts 117 = .ok (.istore 5, 2) := by decide +kernel
theorem dX0_tieParts_119 : decode cX0_tieParts 119 = .ok (.aload_n 0, 1) := by decide +kernel
theorem dX0_tieParts_120 : decode cX0_tieParts 120 = .ok (.getfield 25, 3) := by decide +kernel
theorem dX0_tieParts_123 : decode cX0_tieParts 123 = .ok (.getfield 138, 3) := by decide +kernel
theorem dX0_tieParts_126 : decode cX0_tieParts 126 = .ok (.aload_n 0, 1) := by decide +kernel
theorem dX0_tieParts_127 : decode cX0_tieParts 127 = .ok (.getfield 25, 3) := by decide +kernel
theorem dX0_tieParts_130 : decode cX0_tieParts 130 = .ok (.getfield 158, 3) := by decide +kernel
theorem dX0_tieParts_133 : decode cX0_tieParts 133 = .ok (.iload_n 3, 1) := by decide +kernel
theorem dX0_tieParts_134 : decode cX0_tieParts 134 = .ok (.iconst 3, 1) := by decide +kernel
theorem dX0_tieParts_135 : decode cX0_tieParts 135 = .ok (.iadd, 1) := by decide +kernel
theorem dX0_tieParts_136 : decode cX0_tieParts 136 = .ok (.invokestatic 50, 3) := by decide +kernel
theorem dX0_tieParts_139 : decode cX0_tieParts 139 = .ok (.iconst 5, 1) := by decide +kernel
theorem dX0_tieParts_140 : decode cX0_tieParts 140 = .ok (.iadd, 1) := by decide +kernel
theorem dX0_tieParts_141 : decode cX0_tieParts 141 = .ok (.iload 5, 2) := by decide +kernel
theorem dX0_tieParts_143 : decode cX0_tieParts 143 = .ok (.invokestatic 91, 3) := by decide +kernel
theorem dX0_tieParts_146 : decode cX0_tieParts 146 = .ok (.iinc 2 1, 3) := by decide +kernel
theorem dX0_tieParts_149 : decode cX0_tieParts 149 = .ok (.goto (-132), 3) := by decide +kernel
theorem dX0_tieParts_87 : decode cX0_tieParts 87 = .ok (.iconst 0, 1) := by decide +kernel
theorem dX0_tieParts_83 : decode cX0_tieParts 83 = .ok (.iconst 1, 1) := by decide +kernel
theorem dX0_tieParts_84 : decode cX0_tieParts 84 = .ok (.goto 4, 3) := by decide +kernel
theorem dX0_tieParts_77 : decode cX0_tieParts 77 = .ok (.iload_n 1, 1) := by decide +kernel
theorem dX0_tieParts_63 : decode cX0_tieParts 63 = .ok (.aload_n 0, 1) := by decide +kernel
theorem dX0_tieParts_64 : decode cX0_tieParts 64 = .ok (.getfield 25, 3) := by decide +kernel
theorem dX0_tieParts_67 : decode cX0_tieParts 67 = .ok (.getfield 158, 3) := by decide +kernel
theorem dX0_tieParts_70 : decode cX0_tieParts 70 = .ok (.iload_n 3, 1) := by decide +kernel
theorem dX0_tieParts_71 : decode cX0_tieParts 71 = .ok (.invokestatic 50, 3) := by decide +kernel
theorem dX0_tieParts_74 : decode cX0_tieParts 74 = .ok (.goto 4, 3) := by decide +kernel
theorem dX0_tieParts_54 : decode cX0_tieParts 54 = .ok (.iconst 0, 1) := by decide +kernel
theorem dX0_tieParts_50 : decode cX0_tieParts 50 = .ok (.iconst 1, 1) := by decide +kernel
theorem dX0_tieParts_51 : decode cX0_tieParts 51 = .ok (.goto 4, 3) := by decide +kernel
theorem dX12_fault_0 : decode cX12_fault 0 = .ok (.iload_n 1, 1) := by decide +kernel
theorem dX12_fault_1 : decode cX12_fault 1 = .ok (.ifCond .ne 8, 3) := by decide +kernel
theorem dX12_fault_9 : decode cX12_fault 9 = .ok (.iload_n 1, 1) := by decide +kernel
theorem dX12_fault_10 : decode cX12_fault 10 = .ok (.iconst 1, 1) := by decide +kernel
theorem dX12_fault_11 : decode cX12_fault 11 = .ok (.if_icmp .ne 10, 3) := by decide +kernel
theorem dX12_fault_34 : decode cX12_fault 34 = .ok (.ireturn, 1) := by decide +kernel
theorem dX12_fault_21 : decode cX12_fault 21 = .ok (.iload_n 1, 1) := by decide +kernel
theorem dX12_fault_22 : decode cX12_fault 22 = .ok (.iconst 2, 1) := by decide +kernel
theorem dX12_fault_23 : decode cX12_fault 23 = .ok (.if_icmp .ne 10, 3) := by decide +kernel
theorem dX12_fault_33 : decode cX12_fault 33 = .ok (.iconst (-1), 1) := by decide +kernel
theorem dX12_fault_26 : decode cX12_fault 26 = .ok (.aload_n 0, 1) := by decide +kernel
theorem dX12_fault_27 : decode cX12_fault 27 = .ok (.getfield 29, 3) := by decide +kernel
theorem dX12_fault_30 : decode cX12_fault 30 = .ok (.goto 4, 3) := by decide +kernel
theorem dX12_fault_14 : decode cX12_fault 14 = .ok (.aload_n 0, 1) := by decide +kernel
theorem dX12_fault_15 : decode cX12_fault 15 = .ok (.getfield 26, 3) := by decide +kernel
theorem dX12_fault_18 : decode cX12_fault 18 = .ok (.goto 16, 3) := by decide +kernel
theorem dX12_fault_4 : decode cX12_fault 4 = .ok (.aload_n 0, 1) := by decide +kernel
theorem dX12_fault_5 : decode cX12_fault 5 = .ok (.getfield 23, 3) := by decide +kernel
theorem dX12_fault_8 : decode cX12_fault 8 = .ok (.ireturn, 1) := by decide +kernel
theorem dX8_make_0 : decode cX8_make 0 = .ok (.aload_n 0, 1) := by decide +kernel
theorem dX8_make_1 : decode cX8_make 1 = .ok (.getfield 36, 3) := by decide +kernel
theorem dX8_make_4 : decode cX8_make 4 = .ok (.sipush 500, 3) := by decide +kernel
theorem dX8_make_7 : decode cX8_make 7 = .ok (.if_icmp .ge 16, 3) := by decide +kernel
theorem dX8_make_23 : decode cX8_make 23 = .ok (.iconst (-1), 1) := by decide +kernel
theorem dX8_make_24 : decode cX8_make 24 = .ok (.ireturn, 1) := by decide +kernel
theorem dX8_make_10 : decode cX8_make 10 = .ok (.aload_n 0, 1) := by decide +kernel
theorem dX8_make_11 : decode cX8_make 11 = .ok (.getfield 40, 3) := by decide +kernel
theorem dX8_make_14 : decode cX8_make 14 = .ok (.iload 4, 2) := by decide +kernel
theorem dX8_make_16 : decode cX8_make 16 = .ok (.iadd, 1) := by decide +kernel
theorem dX8_make_17 : decode cX8_make 17 = .ok (.sipush 16000, 3) := by decide +kernel
theorem dX8_make_20 : decode cX8_make 20 = .ok (.if_icmp .le 5, 3) := by decide +kernel
theorem dX8_make_25 : decode cX8_make 25 = .ok (.aload_n 0, 1) := by decide +kernel
theorem dX8_make_26 : decode cX8_make 26 = .ok (.getfield 9, 3) := by decide +kernel
theorem dX8_make_29 : decode cX8_make 29 = .ok (.aload_n 0, 1) := by decide +kernel
theorem dX8_make_30 : decode cX8_make 30 = .ok (.getfield 36, 3) := by decide +kernel
theorem dX8_make_33 : decode cX8_make 33 = .ok (.iload_n 1, 1) := by decide +kernel
theorem dX8_make_34 : decode cX8_make 34 = .ok (.invokestatic 66, 3) := by decide +kernel
theorem dX8_make_37 : decode cX8_make 37 = .ok (.aload_n 0, 1) := by decide +kernel
theorem dX8_make_38 : decode cX8_make 38 = .ok (.getfield 36, 3) := by decide +kernel
theorem dX8_make_41 : decode cX8_make 41 = .ok (.aload_n 0, 1) := by decide +kernel
theorem dX8_make_42 : decode cX8_make 42 = .ok (.getfield 15, 3) := by decide +kernel
theorem dX8_make_45 : decode cX8_make 45 = .ok (.arraylength, 1) := by decide +kernel
theorem dX8_make_46 : decode cX8_make 46 = .ok (.if_icmp .ge 13, 3) := by decide +kernel
theorem dX8_make_59 : decode cX8_make 59 = .ok (.aload_n 0, 1) := by decide +kernel
theorem dX8_make_60 : decode cX8_make 60 = .ok (.getfield 19, 3) := by decide +kernel
theorem dX8_make_63 : decode cX8_make 63 = .ok (.aload_n 0, 1) := by decide +kernel
theorem dX8_make_64 : decode cX8_make 64 = .ok (.getfield 36, 3) := by decide +kernel
theorem dX8_make_67 : decode cX8_make 67 = .ok (.aload_n 0, 1) := by decide +kernel
theorem dX8_make_68 : decode cX8_make 68 = .ok (.getfield 40, 3) := by decide +kernel
theorem dX8_make_71 : decode cX8_make 71 = .ok (.invokestatic 66, 3) := by decide +kernel
theorem dX8_make_74 : decode cX8_make 74 = .ok (.aload_n 0, 1) := by decide +kernel
theorem dX8_make_75 : decode cX8_make 75 = .ok (.getfield 22, 3) := by decide +kernel
theorem dX8_make_78 : decode cX8_make 78 = .ok (.aload_n 0, 1) := by decide +kernel
theorem dX8_make_79 : decode cX8_make 79 = .ok (.getfield 36, 3) := by decide +kernel
theorem dX8_make_82 : decode cX8_make 82 = .ok (.iload 4, 2) := by decide +kernel
theorem dX8_make_84 : decode cX8_make 84 = .ok (.invokestatic 66, 3) := by decide +kernel
theorem dX8_make_87 : decode cX8_make 87 = .ok (.aload_n 0, 1) := by decide +kernel
theorem dX8_make_88 : decode cX8_make 88 = .ok (.getfield 25, 3) := by decide +kernel
theorem dX8_make_91 : decode cX8_make 91 = .ok (.aload_n 0, 1) := by decide +kernel
theorem dX8_make_92 : decode cX8_make 92 = .ok (.getfield 36, 3) := by decide +kernel
theorem dX8_make_95 : decode cX8_make 95 = .ok (.iconst 0, 1) := by decide +kernel
theorem dX8_make_96 : decode cX8_make 96 = .ok (.invokestatic 66, 3) := by decide +kernel
theorem dX8_make_99 : decode cX8_make 99 = .ok (.aload_n 0, 1) := by decide +kernel
theorem dX8_make_100 : decode cX8_make 100 = .ok (.dup, 1) := by decide +kernel
theorem dX8_make_101 : decode cX8_make 101 = .ok (.getfield 36, 3) := by decide +kernel
theorem dX8_make_104 : decode cX8_make 104 = .ok (.iconst 1, 1) := by decide +kernel
theorem dX8_make_105 : decode cX8_make 105 = .ok (.iadd, 1) := by decide +kernel
theorem dX8_make_106 : decode cX8_make 106 = .ok (.putfield 36, 3) := by decide +kernel
theorem dX8_make_109 : decode cX8_make 109 = .ok (.aload_n 0, 1) := by decide +kernel
theorem dX8_make_110 : decode cX8_make 110 = .ok (.getfield 36, 3) := by decide +kernel
theorem dX8_make_113 : decode cX8_make 113 = .ok (.iconst 1, 1) := by decide +kernel
theorem dX8_make_114 : decode cX8_make 114 = .ok (.isub, 1) := by decide +kernel
theorem dX8_make_115 : decode cX8_make 115 = .ok (.ireturn, 1) := by decide +kernel
theorem dX8_make_49 : decode cX8_make 49 = .ok (.aload_n 0, 1) := by decide +kernel
theorem dX8_make_50 : decode cX8_make 50 = .ok (.getfield 15, 3) := by decide +kernel
theorem dX8_make_53 : decode cX8_make 53 = .ok (.aload_n 0, 1) := by decide +kernel
theorem dX8_make_54 : decode cX8_make 54 = .ok (.getfield 36, 3) := by decide +kernel
theorem dX8_make_57 : decode cX8_make 57 = .ok (.lload_n 2, 1) := by decide +kernel
theorem dX8_make_58 : decode cX8_make 58 = .ok (.lastore, 1) := by decide +kernel
theorem dX12_truth_0 : decode cX12_truth 0 = .ok (.aload_n 0, 1) := by decide +kernel
theorem dX12_truth_1 : decode cX12_truth 1 = .ok (.getfield 35, 3) := by decide +kernel
theorem dX12_truth_4 : decode cX12_truth 4 = .ok (.iconst 1, 1) := by decide +kernel
theorem dX12_truth_5 : decode cX12_truth 5 = .ok (.if_icmp .ne 7, 3) := by decide +kernel
theorem dX12_truth_30 : decode cX12_truth 30 = .ok (.ireturn, 1) := by decide +kernel
theorem dX12_truth_12 : decode cX12_truth 12 = .ok (.aload_n 0, 1) := by decide +kernel
theorem dX12_truth_13 : decode cX12_truth 13 = .ok (.getfield 59, 3) := by decide +kernel
theorem dX12_truth_16 : decode cX12_truth 16 = .ok (.iconst 0, 1) := by decide +kernel
theorem dX12_truth_17 : decode cX12_truth 17 = .ok (.iload_n 1, 1) := by decide +kernel
theorem dX12_truth_18 : decode cX12_truth 18 = .ok (.ifCond .eq 7, 3) := by decide +kernel
theorem dX12_truth_26 : decode cX12_truth 26 = .ok (.iconst 0, 1) := by decide +kernel
theorem dX12_truth_27 : decode cX12_truth 27 = .ok (.invokevirtual 165, 3) := by decide +kernel
theorem dX12_truth_25 : decode cX12_truth 25 = .ok (.lconst 0, 1) := by decide +kernel
theorem dX12_truth_21 : decode cX12_truth 21 = .ok (.lconst 1, 1) := by decide +kernel
theorem dX12_truth_22 : decode cX12_truth 22 = .ok (.goto 4, 3) := by decide +kernel
theorem dX12_truth_8 : decode cX12_truth 8 = .ok (.iconst (-1), 1) := by decide +kernel
theorem dX12_truth_9 : decode cX12_truth 9 = .ok (.goto 21, 3) := by decide +kernel
theorem dX12_number_0 : decode cX12_number 0 = .ok (.aload_n 0, 1) := by decide +kernel
theorem dX12_number_1 : decode cX12_number 1 = .ok (.getfield 35, 3) := by decide +kernel
theorem dX12_number_4 : decode cX12_number 4 = .ok (.iconst 1, 1) := by decide +kernel
theorem dX12_number_5 : decode cX12_number 5 = .ok (.if_icmp .ne 7, 3) := by decide +kernel
theorem dX12_number_22 : decode cX12_number 22 = .ok (.ireturn, 1) := by decide +kernel
theorem dX12_number_12 : decode cX12_number 12 = .ok (.aload_n 0, 1) := by decide +kernel
theorem dX12_number_13 : decode cX12_number 13 = .ok (.getfield 59, 3) := by decide +kernel
theorem dX12_number_16 : decode cX12_number 16 = .ok (.iconst 1, 1) := by decide +kernel
theorem dX12_number_17 : decode cX12_number 17 = .ok (.lload_n 1, 1) := by decide +kernel
theorem dX12_number_18 : decode cX12_number 18 = .ok (.iconst 0, 1) := by decide +kernel
theorem dX12_number_19 : decode cX12_number 19 = .ok (.invokevirtual 165, 3) := by decide +kernel
theorem dX12_number_8 : decode cX12_number 8 = .ok (.iconst (-1), 1) := by decide +kernel
theorem dX12_number_9 : decode cX12_number 9 = .ok (.goto 13, 3) := by decide +kernel
theorem dX8_takeBytes_0 : decode cX8_takeBytes 0 = .ok (.iconst 0, 1) := by decide +kernel
theorem dX8_takeBytes_1 : decode cX8_takeBytes 1 = .ok (.istore_n 3, 1) := by decide +kernel
theorem dX8_takeBytes_2 : decode cX8_takeBytes 2 = .ok (.iload_n 3, 1) := by decide +kernel
theorem dX8_takeBytes_3 : decode cX8_takeBytes 3 = .ok (.iload_n 2, 1) := by decide +kernel
theorem dX8_takeBytes_4 : decode cX8_takeBytes 4 = .ok (.if_icmp .ge 27, 3) := by decide +kernel
theorem dX8_takeBytes_31 : decode cX8_takeBytes 31 = .ok (.aload_n 0, 1) := by decide +kernel
theorem dX8_takeBytes_32 : decode cX8_takeBytes 32 = .ok (.dup, 1) := by decide +kernel
theorem dX8_takeBytes_33 : decode cX8_takeBytes 33 = .ok (.getfield 40, 3) := by decide +kernel
theorem dX8_takeBytes_36 : decode cX8_takeBytes 36 = .ok (.iload_n 2, 1) := by decide +kernel
theorem dX8_takeBytes_37 : decode cX8_takeBytes 37 = .ok (.iadd, 1) := by decide +kernel
theorem dX8_takeBytes_38 : decode cX8_takeBytes 38 = .ok (.putfield 40, 3) := by decide +kernel
theorem dX8_takeBytes_41 : decode cX8_takeBytes 41 = .ok (.return_, 1) := by decide +kernel
theorem dX8_takeBytes_7 : decode cX8_takeBytes 7 = .ok (.aload_n 0, 1) := by decide +kernel
theorem dX8_takeBytes_8 : decode cX8_takeBytes 8 = .ok (.getfield 32, 3) := by decide +kernel
theorem dX8_takeBytes_11 : decode cX8_takeBytes 11 = .ok (.aload_n 0, 1) := by decide +kernel
theorem dX8_takeBytes_12 : decode cX8_takeBytes 12 = .ok (.getfield 40, 3) := by decide +kernel
theorem dX8_takeBytes_15 : decode cX8_takeBytes 15 = .ok (.iload_n 3, 1) := by decide +kernel
theorem dX8_takeBytes_16 : decode cX8_takeBytes 16 = .ok (.iadd, 1) := by decide +kernel
theorem dX8_takeBytes_17 : decode cX8_takeBytes 17 = .ok (.aload_n 1, 1) := by decide +kernel
theorem dX8_takeBytes_18 : decode cX8_takeBytes 18 = .ok (.iload_n 3, 1) := by decide +kernel
theorem dX8_takeBytes_19 : decode cX8_takeBytes 19 = .ok (.invokestatic 58, 3) := by decide +kernel
theorem dX8_takeBytes_22 : decode cX8_takeBytes 22 = .ok (.invokestatic 62, 3) := by decide +kernel
theorem dX8_takeBytes_25 : decode cX8_takeBytes 25 = .ok (.iinc 3 1, 3) := by decide +kernel
theorem dX8_takeBytes_28 : decode cX8_takeBytes 28 = .ok (.goto (-26), 3) := by decide +kernel
theorem dX12_fromTape_0 : decode cX12_fromTape 0 = .ok (.aload_n 0, 1) := by decide +kernel
theorem dX12_fromTape_1 : decode cX12_fromTape 1 = .ok (.getfield 16, 3) := by decide +kernel
theorem dX12_fromTape_4 : decode cX12_fromTape 4 = .ok (.istore_n 2, 1) := by decide +kernel
theorem dX12_fromTape_5 : decode cX12_fromTape 5 = .ok (.aload_n 0, 1) := by decide +kernel
theorem dX12_fromTape_6 : decode cX12_fromTape 6 = .ok (.iconst 0, 1) := by decide +kernel
theorem dX12_fromTape_7 : decode cX12_fromTape 7 = .ok (.putfield 16, 3) := by decide +kernel
theorem dX12_fromTape_10 : decode cX12_fromTape 10 = .ok (.aload_n 0, 1) := by decide +kernel
theorem dX12_fromTape_11 : decode cX12_fromTape 11 = .ok (.getfield 35, 3) := by decide +kernel
theorem dX12_fromTape_14 : decode cX12_fromTape 14 = .ok (.iconst 1, 1) := by decide +kernel
theorem dX12_fromTape_15 : decode cX12_fromTape 15 = .ok (.if_icmp .ne 5, 3) := by decide +kernel
theorem dX12_fromTape_20 : decode cX12_fromTape 20 = .ok (.aload_n 0, 1) := by decide +kernel
theorem dX12_fromTape_21 : decode cX12_fromTape 21 = .ok (.getfield 59, 3) := by decide +kernel
theorem dX12_fromTape_24 : decode cX12_fromTape 24 = .ok (.iload_n 1, 1) := by decide +kernel
theorem dX12_fromTape_25 : decode cX12_fromTape 25 = .ok (.lconst 0, 1) := by decide +kernel
theorem dX12_fromTape_26 : decode cX12_fromTape 26 = .ok (.iload_n 2, 1) := by decide +kernel
theorem dX12_fromTape_27 : decode cX12_fromTape 27 = .ok (.invokevirtual 165, 3) := by decide +kernel
theorem dX12_fromTape_30 : decode cX12_fromTape 30 = .ok (.istore_n 3, 1) := by decide +kernel
theorem dX12_fromTape_31 : decode cX12_fromTape 31 = .ok (.iload_n 3, 1) := by decide +kernel
theorem dX12_fromTape_32 : decode cX12_fromTape 32 = .ok (.iconst (-1), 1) := by decide +kernel
theorem dX12_fromTape_33 : decode cX12_fromTape 33 = .ok (.if_icmp .eq 15, 3) := by decide +kernel
theorem dX12_fromTape_48 : decode cX12_fromTape 48 = .ok (.iload_n 3, 1) := by decide +kernel
theorem dX12_fromTape_49 : decode cX12_fromTape 49 = .ok (.ireturn, 1) := by decide +kernel
theorem dX12_fromTape_36 : decode cX12_fromTape 36 = .ok (.aload_n 0, 1) := by decide +kernel
theorem dX12_fromTape_37 : decode cX12_fromTape 37 = .ok (.getfield 59, 3) := by decide +kernel
theorem dX12_fromTape_40 : decode cX12_fromTape 40 = .ok (.aload_n 0, 1) := by decide +kernel
theorem dX12_fromTape_41 : decode cX12_fromTape 41 = .ok (.getfield 13, 3) := by decide +kernel
theorem dX12_fromTape_44 : decode cX12_fromTape 44 = .ok (.iload_n 2, 1) := by decide +kernel
theorem dX12_fromTape_45 : decode cX12_fromTape 45 = .ok (.invokevirtual 173, 3) := by decide +kernel
theorem dX12_fromTape_18 : decode cX12_fromTape 18 = .ok (.iconst (-1), 1) := by decide +kernel
theorem dX12_fromTape_19 : decode cX12_fromTape 19 = .ok (.ireturn, 1) := by decide +kernel
theorem dX12_word_0 : decode cX12_word 0 = .ok (.aload_n 0, 1) := by decide +kernel
theorem dX12_word_1 : decode cX12_word 1 = .ok (.iconst 2, 1) := by decide +kernel
theorem dX12_word_2 : decode cX12_word 2 = .ok (.invokevirtual 169, 3) := by decide +kernel
theorem dX12_word_5 : decode cX12_word 5 = .ok (.ireturn, 1) := by decide +kernel
theorem dX12_list_0 : decode cX12_list 0 = .ok (.aload_n 0, 1) := by decide +kernel
theorem dX12_list_1 : decode cX12_list 1 = .ok (.getfield 35, 3) := by decide +kernel
theorem dX12_list_4 : decode cX12_list 4 = .ok (.iconst 1, 1) := by decide +kernel
theorem dX12_list_5 : decode cX12_list 5 = .ok (.if_icmp .ne 7, 3) := by decide +kernel
theorem dX12_list_22 : decode cX12_list 22 = .ok (.ireturn, 1) := by decide +kernel
theorem dX12_list_12 : decode cX12_list 12 = .ok (.aload_n 0, 1) := by decide +kernel
theorem dX12_list_13 : decode cX12_list 13 = .ok (.getfield 59, 3) := by decide +kernel
theorem dX12_list_16 : decode cX12_list 16 = .ok (.iconst 3, 1) := by decide +kernel
theorem dX12_list_17 : decode cX12_list 17 = .ok (.lconst 0, 1) := by decide +kernel
theorem dX12_list_18 : decode cX12_list 18 = .ok (.iconst 0, 1) := by decide +kernel
theorem dX12_list_19 : decode cX12_list 19 = .ok (.invokevirtual 165, 3) := by decide +kernel
theorem dX12_list_8 : decode cX12_list 8 = .ok (.iconst (-1), 1) := by decide +kernel
theorem dX12_list_9 : decode cX12_list 9 = .ok (.goto 13, 3) := by decide +kernel
theorem dX12_map_0 : decode cX12_map 0 = .ok (.aload_n 0, 1) := by decide +kernel
theorem dX12_map_1 : decode cX12_map 1 = .ok (.getfield 35, 3) := by decide +kernel
theorem dX12_map_4 : decode cX12_map 4 = .ok (.iconst 1, 1) := by decide +kernel
theorem dX12_map_5 : decode cX12_map 5 = .ok (.if_icmp .ne 7, 3) := by decide +kernel
theorem dX12_map_22 : decode cX12_map 22 = .ok (.ireturn, 1) := by decide +kernel
theorem dX12_map_12 : decode cX12_map 12 = .ok (.aload_n 0, 1) := by decide +kernel
theorem dX12_map_13 : decode cX12_map 13 = .ok (.getfield 59, 3) := by decide +kernel
theorem dX12_map_16 : decode cX12_map 16 = .ok (.iconst 4, 1) := by decide +kernel
theorem dX12_map_17 : decode cX12_map 17 = .ok (.lconst 0, 1) := by decide +kernel
theorem dX12_map_18 : decode cX12_map 18 = .ok (.iconst 0, 1) := by decide +kernel
theorem dX12_map_19 : decode cX12_map 19 = .ok (.invokevirtual 165, 3) := by decide +kernel
theorem dX12_map_8 : decode cX12_map 8 = .ok (.iconst (-1), 1) := by decide +kernel
theorem dX12_map_9 : decode cX12_map 9 = .ok (.goto 13, 3) := by decide +kernel
theorem dX12_bean_0 : decode cX12_bean 0 = .ok (.aload_n 0, 1) := by decide +kernel
theorem dX12_bean_1 : decode cX12_bean 1 = .ok (.iconst 5, 1) := by decide +kernel
theorem dX12_bean_2 : decode cX12_bean 2 = .ok (.invokevirtual 169, 3) := by decide +kernel
theorem dX12_bean_5 : decode cX12_bean 5 = .ok (.ireturn, 1) := by decide +kernel
theorem dX8_is_0 : decode cX8_is 0 = .ok (.iload_n 1, 1) := by decide +kernel
theorem dX8_is_1 : decode cX8_is 1 = .ok (.ifCond .lt 27, 3) := by decide +kernel
theorem dX8_is_29 : decode cX8_is 29 = .ok (.ireturn, 1) := by decide +kernel
theorem dX8_is_28 : decode cX8_is 28 = .ok (.iconst 0, 1) := by decide +kernel
theorem dX8_is_4 : decode cX8_is 4 = .ok (.iload_n 1, 1) := by decide +kernel
theorem dX8_is_5 : decode cX8_is 5 = .ok (.aload_n 0, 1) := by decide +kernel
theorem dX8_is_6 : decode cX8_is 6 = .ok (.getfield 36, 3) := by decide +kernel
theorem dX8_is_9 : decode cX8_is 9 = .ok (.if_icmp .ge 19, 3) := by decide +kernel
theorem dX8_is_12 : decode cX8_is 12 = .ok (.aload_n 0, 1) := by decide +kernel
theorem dX8_is_13 : decode cX8_is 13 = .ok (.getfield 9, 3) := by decide +kernel
theorem dX8_is_16 : decode cX8_is 16 = .ok (.iload_n 1, 1) := by decide +kernel
theorem dX8_is_17 : decode cX8_is 17 = .ok (.invokestatic 70, 3) := by decide +kernel
theorem dX8_is_20 : decode cX8_is 20 = .ok (.iload_n 2, 1) := by decide +kernel
theorem dX8_is_21 : decode cX8_is 21 = .ok (.if_icmp .ne 7, 3) := by decide +kernel
theorem dX8_is_24 : decode cX8_is 24 = .ok (.iconst 1, 1) := by decide +kernel
theorem dX8_is_25 : decode cX8_is 25 = .ok (.goto 4, 3) := by decide +kernel
theorem dX8_mayHave_0 : decode cX8_mayHave 0 = .ok (.iload_n 2, 1) := by decide +kernel
theorem dX8_mayHave_1 : decode cX8_mayHave 1 = .ok (.iconst (-1), 1) := by decide +kernel
theorem dX8_mayHave_2 : decode cX8_mayHave 2 = .ok (.if_icmp .lt 11, 3) := by decide +kernel
theorem dX8_mayHave_13 : decode cX8_mayHave 13 = .ok (.iconst 0, 1) := by decide +kernel
theorem dX8_mayHave_14 : decode cX8_mayHave 14 = .ok (.ireturn, 1) := by decide +kernel
theorem dX8_mayHave_5 : decode cX8_mayHave 5 = .ok (.iload_n 2, 1) := by decide +kernel
theorem dX8_mayHave_6 : decode cX8_mayHave 6 = .ok (.aload_n 0, 1) := by decide +kernel
theorem dX8_mayHave_7 : decode cX8_mayHave 7 = .ok (.getfield 36, 3) := by decide +kernel
theorem dX8_mayHave_10 : decode cX8_mayHave 10 = .ok (.if_icmp .lt 5, 3) := by decide +kernel
theorem dX8_mayHave_15 : decode cX8_mayHave 15 = .ok (.iload_n 2, 1) := by decide +kernel
theorem dX8_mayHave_16 : decode cX8_mayHave 16 = .ok (.iload_n 1, 1) := by decide +kernel
theorem dX8_mayHave_17 : decode cX8_mayHave 17 = .ok (.if_icmp .lt 12, 3) := by decide +kernel
theorem dX8_mayHave_34 : decode cX8_mayHave 34 = .ok (.ireturn, 1) := by decide +kernel
theorem dX8_mayHave_29 : decode cX8_mayHave 29 = .ok (.iconst 1, 1) := by decide +kernel
theorem dX8_mayHave_30 : decode cX8_mayHave 30 = .ok (.goto 4, 3) := by decide +kernel
theorem dX8_mayHave_20 : decode cX8_mayHave 20 = .ok (.aload_n 0, 1) := by decide +kernel
theorem dX8_mayHave_21 : decode cX8_mayHave 21 = .ok (.iload_n 2, 1) := by decide +kernel
theorem dX8_mayHave_22 : decode cX8_mayHave 22 = .ok (.iconst 5, 1) := by decide +kernel
theorem dX8_mayHave_23 : decode cX8_mayHave 23 = .ok (.invokevirtual 82, 3) := by decide +kernel
theorem dX8_mayHave_26 : decode cX8_mayHave 26 = .ok (.ifCond .eq 7, 3) := by decide +kernel
theorem dX8_mayHave_33 : decode cX8_mayHave 33 = .ok (.iconst 0, 1) := by decide +kernel
theorem dX8_append_0 : decode cX8_append 0 = .ok (.aload_n 0, 1) := by decide +kernel
theorem dX8_append_1 : decode cX8_append 1 = .ok (.getfield 25, 3) := by decide +kernel
theorem dX8_append_4 : decode cX8_append 4 = .ok (.iload_n 1, 1) := by decide +kernel
theorem dX8_append_5 : decode cX8_append 5 = .ok (.invokestatic 70, 3) := by decide +kernel
theorem dX8_append_8 : decode cX8_append 8 = .ok (.istore_n 3, 1) := by decide +kernel
theorem dX8_append_9 : decode cX8_append 9 = .ok (.aload_n 0, 1) := by decide +kernel
theorem dX8_append_10 : decode cX8_append 10 = .ok (.iload_n 1, 1) := by decide +kernel
theorem dX8_append_11 : decode cX8_append 11 = .ok (.iconst 3, 1) := by decide +kernel
theorem dX8_append_12 : decode cX8_append 12 = .ok (.invokevirtual 82, 3) := by decide +kernel
theorem dX8_append_15 : decode cX8_append 15 = .ok (.ifCond .eq 28, 3) := by decide +kernel
theorem dX8_append_43 : decode cX8_append 43 = .ok (.iconst 0, 1) := by decide +kernel
theorem dX8_append_44 : decode cX8_append 44 = .ok (.ireturn, 1) := by decide +kernel
theorem dX8_append_18 : decode cX8_append 18 = .ok (.aload_n 0, 1) := by decide +kernel
theorem dX8_append_19 : decode cX8_append 19 = .ok (.iload_n 1, 1) := by decide +kernel
theorem dX8_append_20 : decode cX8_append 20 = .ok (.iload_n 2, 1) := by decide +kernel
theorem dX8_append_21 : decode cX8_append 21 = .ok (.invokevirtual 85, 3) := by decide +kernel
theorem dX8_append_24 : decode cX8_append 24 = .ok (.ifCond .eq 19, 3) := by decide +kernel
theorem dX8_append_27 : decode cX8_append 27 = .ok (.iload_n 3, 1) := by decide +kernel
theorem dX8_append_28 : decode cX8_append 28 = .ok (.bipush 100, 2) := by decide +kernel
theorem dX8_append_30 : decode cX8_append 30 = .ok (.if_icmp .ge 13, 3) := by decide +kernel
theorem dX8_append_33 : decode cX8_append 33 = .ok (.aload_n 0, 1) := by decide +kernel
theorem dX8_append_34 : decode cX8_append 34 = .ok (.getfield 43, 3) := by decide +kernel
theorem dX8_append_37 : decode cX8_append 37 = .ok (.sipush 4000, 3) := by decide +kernel
theorem dX8_append_40 : decode cX8_append 40 = .ok (.if_icmp .lt 5, 3) := by decide +kernel
theorem dX8_append_45 : decode cX8_append 45 = .ok (.aload_n 0, 1) := by decide +kernel
theorem dX8_append_46 : decode cX8_append 46 = .ok (.getfield 29, 3) := by decide +kernel
theorem dX8_append_49 : decode cX8_append 49 = .ok (.iload_n 1, 1) := by decide +kernel
theorem dX8_append_50 : decode cX8_append 50 = .ok (.bipush 100, 2) := by decide +kernel
theorem dX8_append_52 : decode cX8_append 52 = .ok (.imul, 1) := by decide +kernel
theorem dX8_append_53 : decode cX8_append 53 = .ok (.iload_n 3, 1) := by decide +kernel
theorem dX8_append_54 : decode cX8_append 54 = .ok (.iadd, 1) := by decide +kernel
theorem dX8_append_55 : decode cX8_append 55 = .ok (.iload_n 2, 1) := by decide +kernel
theorem dX8_append_56 : decode cX8_append 56 = .ok (.invokestatic 66, 3) := by decide +kernel
theorem dX8_append_59 : decode cX8_append 59 = .ok (.aload_n 0, 1) := by decide +kernel
theorem dX8_append_60 : decode cX8_append 60 = .ok (.getfield 25, 3) := by decide +kernel
theorem dX8_append_63 : decode cX8_append 63 = .ok (.iload_n 1, 1) := by decide +kernel
theorem dX8_append_64 : decode cX8_append 64 = .ok (.iload_n 3, 1) := by decide +kernel
theorem dX8_append_65 : decode cX8_append 65 = .ok (.iconst 1, 1) := by decide +kernel
theorem dX8_append_66 : decode cX8_append 66 = .ok (.iadd, 1) := by decide +kernel
theorem dX8_append_67 : decode cX8_append 67 = .ok (.invokestatic 66, 3) := by decide +kernel
theorem dX8_append_70 : decode cX8_append 70 = .ok (.aload_n 0, 1) := by decide +kernel
theorem dX8_append_71 : decode cX8_append 71 = .ok (.dup, 1) := by decide +kernel
theorem dX8_append_72 : decode cX8_append 72 = .ok (.getfield 43, 3) := by decide +kernel
theorem dX8_append_75 : decode cX8_append 75 = .ok (.iconst 1, 1) := by decide +kernel
theorem dX8_append_76 : decode cX8_append 76 = .ok (.iadd, 1) := by decide +kernel
theorem dX8_append_77 : decode cX8_append 77 = .ok (.putfield 43, 3) := by decide +kernel
theorem dX8_append_80 : decode cX8_append 80 = .ok (.iconst 1, 1) := by decide +kernel
theorem dX8_append_81 : decode cX8_append 81 = .ok (.ireturn, 1) := by decide +kernel
theorem dX12_add_0 : decode cX12_add 0 = .ok (.aload_n 0, 1) := by decide +kernel
theorem dX12_add_1 : decode cX12_add 1 = .ok (.getfield 35, 3) := by decide +kernel
theorem dX12_add_4 : decode cX12_add 4 = .ok (.iconst 1, 1) := by decide +kernel
theorem dX12_add_5 : decode cX12_add 5 = .ok (.if_icmp .eq 19, 3) := by decide +kernel
theorem dX12_add_25 : decode cX12_add 25 = .ok (.ireturn, 1) := by decide +kernel
theorem dX12_add_24 : decode cX12_add 24 = .ok (.iconst 0, 1) := by decide +kernel
theorem dX12_add_8 : decode cX12_add 8 = .ok (.aload_n 0, 1) := by decide +kernel
theorem dX12_add_9 : decode cX12_add 9 = .ok (.getfield 59, 3) := by decide +kernel
theorem dX12_add_12 : decode cX12_add 12 = .ok (.iload_n 1, 1) := by decide +kernel
theorem dX12_add_13 : decode cX12_add 13 = .ok (.iload_n 2, 1) := by decide +kernel
theorem dX12_add_14 : decode cX12_add 14 = .ok (.invokevirtual 177, 3) := by decide +kernel
theorem dX12_add_17 : decode cX12_add 17 = .ok (.ifCond .eq 7, 3) := by decide +kernel
theorem dX12_add_20 : decode cX12_add 20 = .ok (.iconst 1, 1) := by decide +kernel
theorem dX12_add_21 : decode cX12_add 21 = .ok (.goto 4, 3) := by decide +kernel
theorem dX8_keyOf_0 : decode cX8_keyOf 0 = .ok (.iconst 0, 1) := by decide +kernel
theorem dX8_keyOf_1 : decode cX8_keyOf 1 = .ok (.istore 5, 2) := by decide +kernel
theorem dX8_keyOf_3 : decode cX8_keyOf 3 = .ok (.iload 5, 2) := by decide +kernel
theorem dX8_keyOf_5 : decode cX8_keyOf 5 = .ok (.aload_n 0, 1) := by decide +kernel
theorem dX8_keyOf_6 : decode cX8_keyOf 6 = .ok (.getfield 25, 3) := by decide +kernel
theorem dX8_keyOf_9 : decode cX8_keyOf 9 = .ok (.iload_n 1, 1) := by decide +kernel
theorem dX8_keyOf_10 : decode cX8_keyOf 10 = .ok (.invokestatic 70, 3) := by decide +kernel
theorem dX8_keyOf_13 : decode cX8_keyOf 13 = .ok (.if_icmp .ge 59, 3) := by decide +kernel
theorem dX8_keyOf_72 : decode cX8_keyOf 72 = .ok (.iconst (-1), 1) := by decide +kernel
theorem dX8_keyOf_73 : decode cX8_keyOf 73 = .ok (.ireturn, 1) := by decide +kernel
theorem dX8_keyOf_16 : decode cX8_keyOf 16 = .ok (.aload_n 0, 1) := by decide +kernel
theorem dX8_keyOf_17 : decode cX8_keyOf 17 = .ok (.getfield 29, 3) := by decide +kernel
theorem dX8_keyOf_20 : decode cX8_keyOf 20 = .ok (.iload_n 1, 1) := by decide +kernel
theorem dX8_keyOf_21 : decode cX8_keyOf 21 = .ok (.bipush 100, 2) := by decide +kernel
theorem dX8_keyOf_23 : decode cX8_keyOf 23 = .ok (.imul, 1) := by decide +kernel
theorem dX8_keyOf_24 : decode cX8_keyOf 24 = .ok (.bipush 50, 2) := by decide +kernel
theorem dX8_keyOf_26 : decode cX8_keyOf 26 = .ok (.iadd, 1) := by decide +kernel
theorem dX8_keyOf_27 : decode cX8_keyOf 27 = .ok (.iload 5, 2) := by decide +kernel
theorem dX8_keyOf_29 : decode cX8_keyOf 29 = .ok (.iadd, 1) := by decide +kernel
theorem dX8_keyOf_30 : decode cX8_keyOf 30 = .ok (.invokestatic 70, 3) := by decide +kernel
theorem dX8_keyOf_33 : decode cX8_keyOf 33 = .ok (.istore 6, 2) := by decide +kernel
theorem dX8_keyOf_35 : decode cX8_keyOf 35 = .ok (.iload 6, 2) := by decide +kernel
theorem dX8_keyOf_37 : decode cX8_keyOf 37 = .ok (.bipush 31, 2) := by decide +kernel
theorem dX8_keyOf_39 : decode cX8_keyOf 39 = .ok (.iand, 1) := by decide +kernel
theorem dX8_keyOf_40 : decode cX8_keyOf 40 = .ok (.iload 4, 2) := by decide +kernel
theorem dX8_keyOf_42 : decode cX8_keyOf 42 = .ok (.if_icmp .ne 24, 3) := by decide +kernel
theorem dX8_keyOf_66 : decode cX8_keyOf 66 = .ok (.iinc 5 1, 3) := by decide +kernel
theorem dX8_keyOf_69 : decode cX8_keyOf 69 = .ok (.goto (-66), 3) := by decide +kernel
theorem dX8_keyOf_45 : decode cX8_keyOf 45 = .ok (.aload_n 0, 1) := by decide +kernel
theorem dX8_keyOf_46 : decode cX8_keyOf 46 = .ok (.getfield 32, 3) := by decide +kernel
theorem dX8_keyOf_49 : decode cX8_keyOf 49 = .ok (.iload 6, 2) := by decide +kernel
theorem dX8_keyOf_51 : decode cX8_keyOf 51 = .ok (.iconst 5, 1) := by decide +kernel
theorem dX8_keyOf_52 : decode cX8_keyOf 52 = .ok (.iushr, 1) := by decide +kernel
theorem dX8_keyOf_53 : decode cX8_keyOf 53 = .ok (.aload_n 2, 1) := by decide +kernel
theorem dX8_keyOf_54 : decode cX8_keyOf 54 = .ok (.iload_n 3, 1) := by decide +kernel
theorem dX8_keyOf_55 : decode cX8_keyOf 55 = .ok (.iload 4, 2) := by decide +kernel
theorem dX8_keyOf_57 : decode cX8_keyOf 57 = .ok (.invokestatic 74, 3) := by decide +kernel
theorem dX8_keyOf_60 : decode cX8_keyOf 60 = .ok (.ifCond .eq 6, 3) := by decide +kernel
theorem dX8_keyOf_63 : decode cX8_keyOf 63 = .ok (.iload 5, 2) := by decide +kernel
theorem dX8_keyOf_65 : decode cX8_keyOf 65 = .ok (.ireturn, 1) := by decide +kernel
theorem dX8_setKey_0 : decode cX8_setKey 0 = .ok (.aload_n 0, 1) := by decide +kernel
theorem dX8_setKey_1 : decode cX8_setKey 1 = .ok (.iload_n 1, 1) := by decide +kernel
theorem dX8_setKey_2 : decode cX8_setKey 2 = .ok (.iconst 4, 1) := by decide +kernel
theorem dX8_setKey_3 : decode cX8_setKey 3 = .ok (.invokevirtual 82, 3) := by decide +kernel
theorem dX8_setKey_6 : decode cX8_setKey 6 = .ok (.ifCond .eq 25, 3) := by decide +kernel
theorem dX8_setKey_31 : decode cX8_setKey 31 = .ok (.iconst 0, 1) := by decide +kernel
theorem dX8_setKey_32 : decode cX8_setKey 32 = .ok (.ireturn, 1) := by decide +kernel
theorem dX8_setKey_9 : decode cX8_setKey 9 = .ok (.aload_n 0, 1) := by decide +kernel
theorem dX8_setKey_10 : decode cX8_setKey 10 = .ok (.iload_n 1, 1) := by decide +kernel
theorem dX8_setKey_11 : decode cX8_setKey 11 = .ok (.iload_n 2, 1) := by decide +kernel
theorem dX8_setKey_12 : decode cX8_setKey 12 = .ok (.invokevirtual 85, 3) := by decide +kernel
theorem dX8_setKey_15 : decode cX8_setKey 15 = .ok (.ifCond .eq 16, 3) := by decide +kernel
theorem dX8_setKey_18 : decode cX8_setKey 18 = .ok (.iload 4, 2) := by decide +kernel
theorem dX8_setKey_20 : decode cX8_setKey 20 = .ok (.iconst 1, 1) := by decide +kernel
theorem dX8_setKey_21 : decode cX8_setKey 21 = .ok (.if_icmp .lt 10, 3) := by decide +kernel
theorem dX8_setKey_24 : decode cX8_setKey 24 = .ok (.iload 4, 2) := by decide +kernel
theorem dX8_setKey_26 : decode cX8_setKey 26 = .ok (.bipush 20, 2) := by decide +kernel
theorem dX8_setKey_28 : decode cX8_setKey 28 = .ok (.if_icmp .le 5, 3) := by decide +kernel
theorem dX8_setKey_33 : decode cX8_setKey 33 = .ok (.aload_n 0, 1) := by decide +kernel
theorem dX8_setKey_34 : decode cX8_setKey 34 = .ok (.iload_n 1, 1) := by decide +kernel
theorem dX8_setKey_35 : decode cX8_setKey 35 = .ok (.aload_n 3, 1) := by decide +kernel
theorem dX8_setKey_36 : decode cX8_setKey 36 = .ok (.iconst 0, 1) := by decide +kernel
theorem dX8_setKey_37 : decode cX8_setKey 37 = .ok (.iload 4, 2) := by decide +kernel
theorem dX8_setKey_39 : decode cX8_setKey 39 = .ok (.invokevirtual 88, 3) := by decide +kernel
theorem dX8_setKey_42 : decode cX8_setKey 42 = .ok (.istore 5, 2) := by decide +kernel
theorem dX8_setKey_44 : decode cX8_setKey 44 = .ok (.iload 5, 2) := by decide +kernel
theorem dX8_setKey_46 : decode cX8_setKey 46 = .ok (.iconst (-1), 1) := by decide +kernel
theorem dX8_setKey_47 : decode cX8_setKey 47 = .ok (.if_icmp .ne 80, 3) := by decide +kernel
theorem dX8_setKey_127 : decode cX8_setKey 127 = .ok (.aload_n 0, 1) := by decide +kernel
theorem dX8_setKey_128 : decode cX8_setKey 128 = .ok (.getfield 29, 3) := by decide +kernel
theorem dX8_setKey_131 : decode cX8_setKey 131 = .ok (.iload_n 1, 1) := by decide +kernel
theorem dX8_setKey_132 : decode cX8_setKey 132 = .ok (.bipush 100, 2) := by decide +kernel
theorem dX8_setKey_134 : decode cX8_setKey 134 = .ok (.imul, 1) := by decide +kernel
theorem dX8_setKey_135 : decode cX8_setKey 135 = .ok (.iload 5, 2) := by decide +kernel
theorem dX8_setKey_137 : decode cX8_setKey 137 = .ok (.iadd, 1) := by decide +kernel
theorem dX8_setKey_138 : decode cX8_setKey 138 = .ok (.iload_n 2, 1) := by decide +kernel
theorem dX8_setKey_139 : decode cX8_setKey 139 = .ok (.invokestatic 66, 3) := by decide +kernel
theorem dX8_setKey_142 : decode cX8_setKey 142 = .ok (.iconst 1, 1) := by decide +kernel
theorem dX8_setKey_143 : decode cX8_setKey 143 = .ok (.ireturn, 1) := by decide +kernel
theorem dX8_setKey_50 : decode cX8_setKey 50 = .ok (.aload_n 0, 1) := by decide +kernel
theorem dX8_setKey_51 : decode cX8_setKey 51 = .ok (.getfield 25, 3) := by decide +kernel
theorem dX8_setKey_54 : decode cX8_setKey 54 = .ok (.iload_n 1, 1) := by decide +kernel
theorem dX8_setKey_55 : decode cX8_setKey 55 = .ok (.invokestatic 70, 3) := by decide +kernel
theorem dX8_setKey_58 : decode cX8_setKey 58 = .ok (.istore 5, 2) := by decide +kernel
theorem dX8_setKey_60 : decode cX8_setKey 60 = .ok (.iload 5, 2) := by decide +kernel
theorem dX8_setKey_62 : decode cX8_setKey 62 = .ok (.bipush 50, 2) := by decide +kernel
theorem dX8_setKey_64 : decode cX8_setKey 64 = .ok (.if_icmp .ge 16, 3) := by decide +kernel
theorem dX8_setKey_80 : decode cX8_setKey 80 = .ok (.iconst 0, 1) := by decide +kernel
theorem dX8_setKey_81 : decode cX8_setKey 81 = .ok (.ireturn, 1) := by decide +kernel
theorem dX8_setKey_67 : decode cX8_setKey 67 = .ok (.aload_n 0, 1) := by decide +kernel
theorem dX8_setKey_68 : decode cX8_setKey 68 = .ok (.getfield 40, 3) := by decide +kernel
theorem dX8_setKey_71 : decode cX8_setKey 71 = .ok (.iload 4, 2) := by decide +kernel
theorem dX8_setKey_73 : decode cX8_setKey 73 = .ok (.iadd, 1) := by decide +kernel
theorem dX8_setKey_74 : decode cX8_setKey 74 = .ok (.sipush 16000, 3) := by decide +kernel
theorem dX8_setKey_77 : decode cX8_setKey 77 = .ok (.if_icmp .le 5, 3) := by decide +kernel
theorem dX8_setKey_82 : decode cX8_setKey 82 = .ok (.aload_n 0, 1) := by decide +kernel
theorem dX8_setKey_83 : decode cX8_setKey 83 = .ok (.getfield 29, 3) := by decide +kernel
theorem dX8_setKey_86 : decode cX8_setKey 86 = .ok (.iload_n 1, 1) := by decide +kernel
theorem dX8_setKey_87 : decode cX8_setKey 87 = .ok (.bipush 100, 2) := by decide +kernel
theorem dX8_setKey_89 : decode cX8_setKey 89 = .ok (.imul, 1) := by decide +kernel
theorem dX8_setKey_90 : decode cX8_setKey 90 = .ok (.bipush 50, 2) := by decide +kernel
theorem dX8_setKey_92 : decode cX8_setKey 92 = .ok (.iadd, 1) := by decide +kernel
theorem dX8_setKey_93 : decode cX8_setKey 93 = .ok (.iload 5, 2) := by decide +kernel
theorem dX8_setKey_95 : decode cX8_setKey 95 = .ok (.iadd, 1) := by decide +kernel
theorem dX8_setKey_96 : decode cX8_setKey 96 = .ok (.aload_n 0, 1) := by decide +kernel
theorem dX8_setKey_97 : decode cX8_setKey 97 = .ok (.getfield 40, 3) := by decide +kernel
theorem dX8_setKey_100 : decode cX8_setKey 100 = .ok (.iconst 5, 1) := by decide +kernel
theorem dX8_setKey_101 : decode cX8_setKey 101 = .ok (.ishl, 1) := by decide +kernel
theorem dX8_setKey_102 : decode cX8_setKey 102 = .ok (.iload 4, 2) := by decide +kernel
theorem dX8_setKey_104 : decode cX8_setKey 104 = .ok (.ior, 1) := by decide +kernel
theorem dX8_setKey_105 : decode cX8_setKey 105 = .ok (.invokestatic 66, 3) := by decide +kernel
theorem dX8_setKey_108 : decode cX8_setKey 108 = .ok (.aload_n 0, 1) := by decide +kernel
theorem dX8_setKey_109 : decode cX8_setKey 109 = .ok (.aload_n 3, 1) := by decide +kernel
theorem dX8_setKey_110 : decode cX8_setKey 110 = .ok (.iload 4, 2) := by decide +kernel
theorem dX8_setKey_112 : decode cX8_setKey 112 = .ok (.invokevirtual 92, 3) := by decide +kernel
theorem dX8_setKey_115 : decode cX8_setKey 115 = .ok (.aload_n 0, 1) := by decide +kernel
theorem dX8_setKey_116 : decode cX8_setKey 116 = .ok (.getfield 25, 3) := by decide +kernel
theorem dX8_setKey_119 : decode cX8_setKey 119 = .ok (.iload_n 1, 1) := by decide +kernel
theorem dX8_setKey_120 : decode cX8_setKey 120 = .ok (.iload 5, 2) := by decide +kernel
theorem dX8_setKey_122 : decode cX8_setKey 122 = .ok (.iconst 1, 1) := by decide +kernel
theorem dX8_setKey_123 : decode cX8_setKey 123 = .ok (.iadd, 1) := by decide +kernel
theorem dX8_setKey_124 : decode cX8_setKey 124 = .ok (.invokestatic 66, 3) := by decide +kernel
theorem dX12_entry_0 : decode cX12_entry 0 = .ok (.aload_n 0, 1) := by decide +kernel
theorem dX12_entry_1 : decode cX12_entry 1 = .ok (.getfield 16, 3) := by decide +kernel
theorem dX12_entry_4 : decode cX12_entry 4 = .ok (.istore_n 3, 1) := by decide +kernel
theorem dX12_entry_5 : decode cX12_entry 5 = .ok (.aload_n 0, 1) := by decide +kernel
theorem dX12_entry_6 : decode cX12_entry 6 = .ok (.iconst 0, 1) := by decide +kernel
theorem dX12_entry_7 : decode cX12_entry 7 = .ok (.putfield 16, 3) := by decide +kernel
theorem dX12_entry_10 : decode cX12_entry 10 = .ok (.aload_n 0, 1) := by decide +kernel
theorem dX12_entry_11 : decode cX12_entry 11 = .ok (.getfield 35, 3) := by decide +kernel
theorem dX12_entry_14 : decode cX12_entry 14 = .ok (.iconst 1, 1) := by decide +kernel
theorem dX12_entry_15 : decode cX12_entry 15 = .ok (.if_icmp .eq 24, 3) := by decide +kernel
theorem dX12_entry_40 : decode cX12_entry 40 = .ok (.ireturn, 1) := by decide +kernel
theorem dX12_entry_39 : decode cX12_entry 39 = .ok (.iconst 0, 1) := by decide +kernel
theorem dX12_entry_18 : decode cX12_entry 18 = .ok (.aload_n 0, 1) := by decide +kernel
theorem dX12_entry_19 : decode cX12_entry 19 = .ok (.getfield 59, 3) := by decide +kernel
theorem dX12_entry_22 : decode cX12_entry 22 = .ok (.iload_n 1, 1) := by decide +kernel
theorem dX12_entry_23 : decode cX12_entry 23 = .ok (.iload_n 2, 1) := by decide +kernel
theorem dX12_entry_24 : decode cX12_entry 24 = .ok (.aload_n 0, 1) := by decide +kernel
theorem dX12_entry_25 : decode cX12_entry 25 = .ok (.getfield 13, 3) := by decide +kernel
theorem dX12_entry_28 : decode cX12_entry 28 = .ok (.iload_n 3, 1) := by decide +kernel
theorem dX12_entry_29 : decode cX12_entry 29 = .ok (.invokevirtual 181, 3) := by decide +kernel
theorem dX12_entry_32 : decode cX12_entry 32 = .ok (.ifCond .eq 7, 3) := by decide +kernel
theorem dX12_entry_35 : decode cX12_entry 35 = .ok (.iconst 1, 1) := by decide +kernel
theorem dX12_entry_36 : decode cX12_entry 36 = .ok (.goto 4, 3) := by decide +kernel
theorem dX8_propertyOf_0 : decode cX8_propertyOf 0 = .ok (.iconst 0, 1) := by decide +kernel
theorem dX8_propertyOf_1 : decode cX8_propertyOf 1 = .ok (.istore 6, 2) := by decide +kernel
theorem dX8_propertyOf_3 : decode cX8_propertyOf 3 = .ok (.iload 6, 2) := by decide +kernel
theorem dX8_propertyOf_5 : decode cX8_propertyOf 5 = .ok (.aload_n 0, 1) := by decide +kernel
theorem dX8_propertyOf_6 : decode cX8_propertyOf 6 = .ok (.getfield 25, 3) := by decide +kernel
theorem dX8_propertyOf_9 : decode cX8_propertyOf 9 = .ok (.iload_n 1, 1) := by decide +kernel
theorem dX8_propertyOf_10 : decode cX8_propertyOf 10 = .ok (.invokestatic 70, 3) := by decide +kernel
theorem dX8_propertyOf_13 : decode cX8_propertyOf 13 = .ok (.if_icmp .ge 81, 3) := by decide +kernel
theorem dX8_propertyOf_94 : decode cX8_propertyOf 94 = .ok (.iconst (-1), 1) := by decide +kernel
theorem dX8_propertyOf_95 : decode cX8_propertyOf 95 = .ok (.ireturn, 1) := by decide +kernel
theorem dX8_propertyOf_16 : decode cX8_propertyOf 16 = .ok (.aload_n 0, 1) := by decide +kernel
theorem dX8_propertyOf_17 : decode cX8_propertyOf 17 = .ok (.getfield 29, 3) := by decide +kernel
theorem dX8_propertyOf_20 : decode cX8_propertyOf 20 = .ok (.iload_n 1, 1) := by decide +kernel
theorem dX8_propertyOf_21 : decode cX8_propertyOf 21 = .ok (.bipush 100, 2) := by decide +kernel
theorem dX8_propertyOf_23 : decode cX8_propertyOf 23 = .ok (.imul, 1) := by decide +kernel
theorem dX8_propertyOf_24 : decode cX8_propertyOf 24 = .ok (.iconst 3, 1) := by decide +kernel
theorem dX8_propertyOf_25 : decode cX8_propertyOf 25 = .ok (.iload 6, 2) := by decide +kernel
theorem dX8_propertyOf_27 : decode cX8_propertyOf 27 = .ok (.imul, 1) := by decide +kernel
theorem dX8_propertyOf_28 : decode cX8_propertyOf 28 = .ok (.iadd, 1) := by decide +kernel
theorem dX8_propertyOf_29 : decode cX8_propertyOf 29 = .ok (.invokestatic 70, 3) := by decide +kernel
theorem dX8_propertyOf_32 : decode cX8_propertyOf 32 = .ok (.istore 7, 2) := by decide +kernel
theorem dX8_propertyOf_34 : decode cX8_propertyOf 34 = .ok (.aload_n 0, 1) := by decide +kernel
theorem dX8_propertyOf_35 : decode cX8_propertyOf 35 = .ok (.getfield 29, 3) := by decide +kernel
theorem dX8_propertyOf_38 : decode cX8_propertyOf 38 = .ok (.iload_n 1, 1) := by decide +kernel
theorem dX8_propertyOf_39 : decode cX8_propertyOf 39 = .ok (.bipush 100, 2) := by decide +kernel
theorem dX8_propertyOf_41 : decode cX8_propertyOf 41 = .ok (.imul, 1) := by decide +kernel
theorem dX8_propertyOf_42 : decode cX8_propertyOf 42 = .ok (.iconst 3, 1) := by decide +kernel
theorem dX8_propertyOf_43 : decode cX8_propertyOf 43 = .ok (.iload 6, 2) := by decide +kernel
theorem dX8_propertyOf_45 : decode cX8_propertyOf 45 = .ok (.imul, 1) := by decide +kernel
theorem dX8_propertyOf_46 : decode cX8_propertyOf 46 = .ok (.iadd, 1) := by decide +kernel
theorem dX8_propertyOf_47 : decode cX8_propertyOf 47 = .ok (.iconst 1, 1) := by decide +kernel
theorem dX8_propertyOf_48 : decode cX8_propertyOf 48 = .ok (.iadd, 1) := by decide +kernel
theorem dX8_propertyOf_49 : decode cX8_propertyOf 49 = .ok (.invokestatic 70, 3) := by decide +kernel
theorem dX8_propertyOf_52 : decode cX8_propertyOf 52 = .ok (.iload_n 2, 1) := by decide +kernel
theorem dX8_propertyOf_53 : decode cX8_propertyOf 53 = .ok (.if_icmp .ne 35, 3) := by decide +kernel
theorem dX8_propertyOf_88 : decode cX8_propertyOf 88 = .ok (.iinc 6 1, 3) := by decide +kernel
theorem dX8_propertyOf_91 : decode cX8_propertyOf 91 = .ok (.goto (-88), 3) := by decide +kernel
theorem dX8_propertyOf_56 : decode cX8_propertyOf 56 = .ok (.iload 7, 2) := by decide +kernel
theorem dX8_propertyOf_58 : decode cX8_propertyOf 58 = .ok (.bipush 31, 2) := by decide +kernel
theorem dX8_propertyOf_60 : decode cX8_propertyOf 60 = .ok (.iand, 1) := by decide +kernel
theorem dX8_propertyOf_61 : decode cX8_propertyOf 61 = .ok (.iload 5, 2) := by decide +kernel
theorem dX8_propertyOf_63 : decode cX8_propertyOf 63 = .ok (.if_icmp .ne 25, 3) := by decide +kernel
theorem dX8_propertyOf_66 : decode cX8_propertyOf 66 = .ok (.aload_n 0, 1) := by decide +kernel
theorem dX8_propertyOf_67 : decode cX8_propertyOf 67 = .ok (.getfield 32, 3) := by decide +kernel
theorem dX8_propertyOf_70 : decode cX8_propertyOf 70 = .ok (.iload 7, 2) := by decide +kernel
theorem dX8_propertyOf_72 : decode cX8_propertyOf 72 = .ok (.iconst 5, 1) := by decide +kernel
theorem dX8_propertyOf_73 : decode cX8_propertyOf 73 = .ok (.iushr, 1) := by decide +kernel
theorem dX8_propertyOf_74 : decode cX8_propertyOf 74 = .ok (.aload_n 3, 1) := by decide +kernel
theorem dX8_propertyOf_75 : decode cX8_propertyOf 75 = .ok (.iload 4, 2) := by decide +kernel
theorem dX8_propertyOf_77 : decode cX8_propertyOf 77 = .ok (.iload 5, 2) := by decide +kernel
theorem dX8_propertyOf_79 : decode cX8_propertyOf 79 = .ok (.invokestatic 74, 3) := by decide +kernel
theorem dX8_propertyOf_82 : decode cX8_propertyOf 82 = .ok (.ifCond .eq 6, 3) := by decide +kernel
theorem dX8_propertyOf_85 : decode cX8_propertyOf 85 = .ok (.iload 6, 2) := by decide +kernel
theorem dX8_propertyOf_87 : decode cX8_propertyOf 87 = .ok (.ireturn, 1) := by decide +kernel
set_option maxRecDepth 20000 in
theorem kX0_filledPart (l : Launch) (G : zG) (T : tT) (κ : Nat → List Nat) (hst : l.stackTraces = false) (hE : tE G T κ) {a0 : Nat} (h0 : a0 ∈ κ 0) {x1 : Int32} {x2 : Int32} {x3 : Int32} : tMi l G T yX0_filledPart cX0_filledPart 6 .int [] 1 21 0 0 [.ref a0, .int x1, .int x2, .int x3] uT (uPi 0x0) := by
  refine tMi.intro hst rfl (Nat.le_of_ble_eq_true rfl) ?_
  intro w0 hw0 _ X hC hR hO hX
  refine z_iconst hC (pc := 0) (v := 0) dX0_filledPart_0 (by decide) ?_
  refine z_istore hC (pc := 1) (lv' := [(4, .int 0), (0, .ref a0), (1, .int x1), (2, .int x2), (3, .int x3)]) dX0_filledPart_1 (by decide) rfl ?_
  have j3 : ∀ (d3 : Nat), ∀ (w6 : va_W), tW T w6 → tKeep 0x0 w0 w6 → ∀ (x7 : Int32), ¬ x7 < 0 → (2 ^ 31 - (x7 : Int32).toInt).toNat ≤ d3 → zS X G 6 w6 [(0, .ref a0), (1, .int x1), (2, .int x2), (3, .int x3), (4, .int x7)] 0 0 3 [] := by
    intro d3
    induction d3 with
    | zero => intro w6 hw6 kw6 x7 v8 hd3; exact (t_zero hd3).elim
    | succ d3 ih3 =>
      intro w6 hw6 kw6 x7 v8 hd3
      refine z_iload hC (pc := 3) 4 dX0_filledPart_3 rfl ?_
      refine z_aload_n hC (pc := 5) 0 dX0_filledPart_5 rfl rfl ?_
      refine u_get hC hw6 (pc := 6) zf0 1 (hE.o0 h0) rfl dX0_filledPart_6 zw449 (kk := fun va9 ta9 fa9 => ?_)
      obtain ⟨a9, ma9, rfl⟩ := ta9
      refine u_get hC hw6 (pc := 9) zf2 8 (hE.o2 ma9) rfl dX0_filledPart_9 zw261 (kk := fun vx10 tx10 fx10 => ?_)
      obtain ⟨x10, rfl⟩ := tx10
      refine z_icmp_ge hC (pc := 12) 113 dX0_filledPart_12 (by decide) (fun c11 => ?_) (fun c11 => ?_)
      · refine z_iconst hC (pc := 113) (v := (-1)) dX0_filledPart_113 (by decide) ?_
        exact hR _ _ _ _ _ _ dX0_filledPart_114 rfl (Nat.le_of_ble_eq_true rfl) (Nat.le_of_ble_eq_true rfl) ⟨hw6, rfl, rfl, (tKeep.tr tKeep.rf kw6 rfl)⟩
      · refine z_iload hC (pc := 15) 4 dX0_filledPart_15 rfl ?_
        refine z_bipush hC (pc := 17) (v := 7) dX0_filledPart_17 (by decide) ?_
        refine z_imul hC (pc := 19) (v := (x7 * 7)) dX0_filledPart_19 rfl ?_
        refine z_istore hC (pc := 20) (lv' := [(5, .int (x7 * 7)), (0, .ref a0), (1, .int x1), (2, .int x2), (3, .int x3), (4, .int x7)]) dX0_filledPart_20 (by decide) rfl ?_
        refine z_aload_n hC (pc := 22) 1 dX0_filledPart_22 rfl rfl ?_
        refine u_getK hC (pc := 23) zf0 1 fa9 dX0_filledPart_23 zw449 (kk := ?_)
        refine u_get hC hw6 (pc := 26) zf2 7 (hE.o2 ma9) rfl dX0_filledPart_26 zw257 (kk := fun va12 ta12 fa12 => ?_)
        obtain ⟨a12, ma12, rfl⟩ := ta12
        refine z_iload hC (pc := 29) 0 dX0_filledPart_29 rfl ?_
        refine t_callSNi hC hw6 (pc := 31) (As := [.ref a12, .int (x7 * 7)]) (kX12_get l G T κ hst hE ma12) trivial dmX12_get dX0_filledPart_31 zw1668 rfl rfl (Nat.le_of_ble_eq_true rfl) (Nat.le_of_ble_eq_true rfl) (Nat.le_of_ble_eq_true rfl) (Nat.le_of_ble_eq_true rfl) (Nat.le_of_ble_eq_true rfl) (fun _ _ _ h => nomatch h) (fun x14 cw13 nw13 w13 hw13 pw13 => ?_)
        obtain ⟨rfl, rfl, kw13⟩ := pw13
        refine z_iconst hC (pc := 34) (v := 3) dX0_filledPart_34 (by decide) ?_
        have j107 : ∀ (w15 : va_W), tW T w15 → tKeep 0x0 w13 w15 → zS X G 6 w15 [(0, .ref a0), (1, .int x1), (2, .int x2), (3, .int x3), (4, .int x7)] 0 0 107 [] := by
          intro w15 hw15 kw15
          refine z_iinc hC (pc := 107) (v := (x7 + 1)) (lv' := [(4, .int (x7 + 1)), (0, .ref a0), (1, .int x1), (2, .int x2), (3, .int x3)]) 4 dX0_filledPart_107 rfl (congrArg _ (by decide)) (by decide) rfl ?_
          refine z_goto hC (pc := 110) 3 dX0_filledPart_110 (by decide) ?_
          refine z_lvs [1, 2, 3, 4, 0] rfl ?_
          exact ih3 w15 hw15 (tKeep.tr (tKeep.tr (tKeep.tr tKeep.rf kw6 rfl) kw13 rfl) kw15 rfl) (x7 + 1) (t_nnI v8 (Int32.not_le.mp c11)) (t_up (Int32.not_le.mp c11) hd3)
        refine z_icmp_ne hC (pc := 35) 107 dX0_filledPart_35 (by decide) (fun c16 => ?_) (fun c16 => ?_)
        · refine z_lvs [1, 2, 3, 4, 5] rfl ?_
          exact j107 w13 hw13 tKeep.rf
        · refine z_aload_n hC (pc := 38) 1 dX0_filledPart_38 rfl rfl ?_
          refine u_getK hC (pc := 39) zf0 1 (tKeep.F kw13 fa9 rfl) dX0_filledPart_39 zw449 (kk := ?_)
          refine u_getK hC (pc := 42) zf2 7 (tKeep.F kw13 fa12 rfl) dX0_filledPart_42 zw257 (kk := ?_)
          refine z_iload hC (pc := 45) 0 dX0_filledPart_45 rfl ?_
          refine z_iconst hC (pc := 47) (v := 1) dX0_filledPart_47 (by decide) ?_
          refine z_iadd hC (pc := 48) (v := ((x7 * 7) + 1)) dX0_filledPart_48 rfl ?_
          refine t_callSNi hC hw13 (pc := 49) (As := [.ref a12, .int ((x7 * 7) + 1)]) (kX12_get l G T κ hst hE ma12) trivial dmX12_get dX0_filledPart_49 zw1668 rfl rfl (Nat.le_of_ble_eq_true rfl) (Nat.le_of_ble_eq_true rfl) (Nat.le_of_ble_eq_true rfl) (Nat.le_of_ble_eq_true rfl) (Nat.le_of_ble_eq_true rfl) (fun _ _ _ h => nomatch h) (fun x18 cw17 nw17 w17 hw17 pw17 => ?_)
          obtain ⟨rfl, rfl, kw17⟩ := pw17
          refine z_iload_n hC (pc := 52) 2 dX0_filledPart_52 rfl rfl ?_
          refine z_icmp_ne hC (pc := 53) 107 dX0_filledPart_53 (by decide) (fun c19 => ?_) (fun c19 => ?_)
          · refine z_lvs [1, 2, 3, 4, 5] rfl ?_
            exact j107 w17 hw17 (tKeep.tr tKeep.rf kw17 rfl)
          · refine z_aload_n hC (pc := 56) 1 dX0_filledPart_56 rfl rfl ?_
            refine u_getK hC (pc := 57) zf0 1 (tKeep.F kw17 (tKeep.F kw13 fa9 rfl) rfl) dX0_filledPart_57 zw449 (kk := ?_)
            refine u_getK hC (pc := 60) zf2 7 (tKeep.F kw17 (tKeep.F kw13 fa12 rfl) rfl) dX0_filledPart_60 zw257 (kk := ?_)
            refine z_iload hC (pc := 63) 0 dX0_filledPart_63 rfl ?_
            refine z_iconst hC (pc := 65) (v := 2) dX0_filledPart_65 (by decide) ?_
            refine z_iadd hC (pc := 66) (v := ((x7 * 7) + 2)) dX0_filledPart_66 rfl ?_
            refine t_callSNi hC hw17 (pc := 67) (As := [.ref a12, .int ((x7 * 7) + 2)]) (kX12_get l G T κ hst hE ma12) trivial dmX12_get dX0_filledPart_67 zw1668 rfl rfl (Nat.le_of_ble_eq_true rfl) (Nat.le_of_ble_eq_true rfl) (Nat.le_of_ble_eq_true rfl) (Nat.le_of_ble_eq_true rfl) (Nat.le_of_ble_eq_true rfl) (fun _ _ _ h => nomatch h) (fun x21 cw20 nw20 w20 hw20 pw20 => ?_)
            obtain ⟨rfl, rfl, kw20⟩ := pw20
            refine z_iload_n hC (pc := 70) 3 dX0_filledPart_70 rfl rfl ?_
            refine z_icmp_ne hC (pc := 71) 107 dX0_filledPart_71 (by decide) (fun c22 => ?_) (fun c22 => ?_)
            · refine z_lvs [1, 2, 3, 4, 5] rfl ?_
              exact j107 w20 hw20 (tKeep.tr (tKeep.tr tKeep.rf kw17 rfl) kw20 rfl)
            · refine z_aload_n hC (pc := 74) 1 dX0_filledPart_74 rfl rfl ?_
              refine u_getK hC (pc := 75) zf0 1 (tKeep.F kw20 (tKeep.F kw17 (tKeep.F kw13 fa9 rfl) rfl) rfl) dX0_filledPart_75 zw449 (kk := ?_)
              refine u_getK hC (pc := 78) zf2 7 (tKeep.F kw20 (tKeep.F kw17 (tKeep.F kw13 fa12 rfl) rfl) rfl) dX0_filledPart_78 zw257 (kk := ?_)
              refine z_iload hC (pc := 81) 0 dX0_filledPart_81 rfl ?_
              refine z_iconst hC (pc := 83) (v := 5) dX0_filledPart_83 (by decide) ?_
              refine z_iadd hC (pc := 84) (v := ((x7 * 7) + 5)) dX0_filledPart_84 rfl ?_
              refine t_callSNi hC hw20 (pc := 85) (As := [.ref a12, .int ((x7 * 7) + 5)]) (kX12_get l G T κ hst hE ma12) trivial dmX12_get dX0_filledPart_85 zw1668 rfl rfl (Nat.le_of_ble_eq_true rfl) (Nat.le_of_ble_eq_true rfl) (Nat.le_of_ble_eq_true rfl) (Nat.le_of_ble_eq_true rfl) (Nat.le_of_ble_eq_true rfl) (fun _ _ _ h => nomatch h) (fun x24 cw23 nw23 w23 hw23 pw23 => ?_)
              obtain ⟨rfl, rfl, kw23⟩ := pw23
              refine z_iload_n hC (pc := 88) 4 dX0_filledPart_88 rfl rfl ?_
              refine z_icmp_ne hC (pc := 89) 107 dX0_filledPart_89 (by decide) (fun c25 => ?_) (fun c25 => ?_)
              · refine z_lvs [1, 2, 3, 4, 5] rfl ?_
                exact j107 w23 hw23 (tKeep.tr (tKeep.tr (tKeep.tr tKeep.rf kw17 rfl) kw20 rfl) kw23 rfl)
              · refine z_aload_n hC (pc := 92) 1 dX0_filledPart_92 rfl rfl ?_
                refine u_getK hC (pc := 93) zf0 1 (tKeep.F kw23 (tKeep.F kw20 (tKeep.F kw17 (tKeep.F kw13 fa9 rfl) rfl) rfl) rfl) dX0_filledPart_93 zw449 (kk := ?_)
                refine u_getK hC (pc := 96) zf2 7 (tKeep.F kw23 (tKeep.F kw20 (tKeep.F kw17 (tKeep.F kw13 fa12 rfl) rfl) rfl) rfl) dX0_filledPart_96 zw257 (kk := ?_)
                refine z_iload hC (pc := 99) 0 dX0_filledPart_99 rfl ?_
                refine z_iconst hC (pc := 101) (v := 4) dX0_filledPart_101 (by decide) ?_
                refine z_iadd hC (pc := 102) (v := ((x7 * 7) + 4)) dX0_filledPart_102 rfl ?_
                refine t_callSNi hC hw23 (pc := 103) (As := [.ref a12, .int ((x7 * 7) + 4)]) (kX12_get l G T κ hst hE ma12) trivial dmX12_get dX0_filledPart_103 zw1668 rfl rfl (Nat.le_of_ble_eq_true rfl) (Nat.le_of_ble_eq_true rfl) (Nat.le_of_ble_eq_true rfl) (Nat.le_of_ble_eq_true rfl) (Nat.le_of_ble_eq_true rfl) (fun _ _ _ h => nomatch h) (fun x27 cw26 nw26 w26 hw26 pw26 => ?_)
                obtain ⟨rfl, rfl, kw26⟩ := pw26
                exact hR _ _ _ _ _ _ dX0_filledPart_106 rfl (Nat.le_of_ble_eq_true rfl) (Nat.le_of_ble_eq_true rfl) ⟨hw26, rfl, rfl, (tKeep.tr (tKeep.tr (tKeep.tr (tKeep.tr (tKeep.tr (tKeep.tr tKeep.rf kw6 rfl) kw13 rfl) kw17 rfl) kw20 rfl) kw23 rfl) kw26 rfl)⟩
  refine z_lvs [1, 2, 3, 4, 0] rfl ?_
  exact j3 _ w0 hw0 tKeep.rf 0 (by decide) (Nat.le_refl _)
set_option maxRecDepth 20000 in
theorem kX0_partFrom (l : Launch) (G : zG) (T : tT) (κ : Nat → List Nat) (hst : l.stackTraces = false) (hE : tE G T κ) {a0 : Nat} (h0 : a0 ∈ κ 0) {x1 : Int32} {x2 : Int32} {x3 : Int32} {x4 : Int32} : tMi l G T yX0_partFrom cX0_partFrom 8 .int [] 2 46 0 0 [.ref a0, .int x1, .int x2, .int x3, .int x4] uT (uPi 0x0) := by
  refine tMi.intro hst rfl (Nat.le_of_ble_eq_true rfl) ?_
  intro w0 hw0 _ X hC hR hO hX
  refine z_iload_n hC (pc := 0) 2 dX0_partFrom_0 rfl rfl ?_
  refine z_istore hC (pc := 1) (lv' := [(5, .int x2), (0, .ref a0), (1, .int x1), (2, .int x2), (3, .int x3), (4, .int x4)]) dX0_partFrom_1 (by decide) rfl ?_
  have j3 : ∀ (d3 : Nat), ∀ (w7 : va_W), tW T w7 → tKeep 0x0 w0 w7 → ∀ (x8 : Int32), (2 ^ 31 - (x8 : Int32).toInt).toNat ≤ d3 → zS X G 8 w7 [(0, .ref a0), (1, .int x1), (3, .int x3), (4, .int x4), (5, .int x8)] 0 0 3 [] := by
    intro d3
    induction d3 with
    | zero => intro w7 hw7 kw7 x8 hd3; exact (t_zero hd3).elim
    | succ d3 ih3 =>
      intro w7 hw7 kw7 x8 hd3
      refine z_iload hC (pc := 3) 4 dX0_partFrom_3 rfl ?_
      refine z_aload_n hC (pc := 5) 0 dX0_partFrom_5 rfl rfl ?_
      refine u_get hC hw7 (pc := 6) zf0 1 (hE.o0 h0) rfl dX0_partFrom_6 zw449 (kk := fun va9 ta9 fa9 => ?_)
      obtain ⟨a9, ma9, rfl⟩ := ta9
      refine u_get hC hw7 (pc := 9) zf2 1 (hE.o2 ma9) rfl dX0_partFrom_9 zw237 (kk := fun va10 ta10 fa10 => ?_)
      obtain ⟨a10, ma10, rfl⟩ := ta10
      refine z_iload_n hC (pc := 12) 1 dX0_partFrom_12 rfl rfl ?_
      obtain ⟨q11, hqq11⟩ := hE.o4 ma10
      refine t_callVi hC hw7 (pc := 13) (As := [.int x1]) (kX4_wayLength l G T κ hst hE ma10) trivial dmX4_wayLength zf4 hqq11 dX0_partFrom_13 zw1669 rfl rfl (Nat.le_of_ble_eq_true rfl) (Nat.le_of_ble_eq_true rfl) (Nat.le_of_ble_eq_true rfl) (Nat.le_of_ble_eq_true rfl) (Nat.le_of_ble_eq_true rfl) (fun _ _ _ h => nomatch h) (fun x13 cw12 nw12 w12 hw12 pw12 => ?_)
      obtain ⟨rfl, rfl, kw12⟩ := pw12
      refine z_icmp_ge hC (pc := 16) 77 dX0_partFrom_16 (by decide) (fun c14 => ?_) (fun c14 => ?_)
      · refine z_iconst hC (pc := 77) (v := (-1)) dX0_partFrom_77 (by decide) ?_
        exact hR _ _ _ _ _ _ dX0_partFrom_78 rfl (Nat.le_of_ble_eq_true rfl) (Nat.le_of_ble_eq_true rfl) ⟨hw12, rfl, rfl, (tKeep.tr (tKeep.tr tKeep.rf kw7 rfl) kw12 rfl)⟩
      · refine z_aload_n hC (pc := 19) 0 dX0_partFrom_19 rfl rfl ?_
        refine u_getK hC (pc := 20) zf0 1 (tKeep.F kw12 fa9 rfl) dX0_partFrom_20 zw449 (kk := ?_)
        refine u_getK hC (pc := 23) zf2 1 (tKeep.F kw12 fa10 rfl) dX0_partFrom_23 zw237 (kk := ?_)
        refine z_iload_n hC (pc := 26) 1 dX0_partFrom_26 rfl rfl ?_
        refine z_iload hC (pc := 27) 4 dX0_partFrom_27 rfl ?_
        refine t_callVi hC hw12 (pc := 29) (As := [.int x1, .int x8]) (kX4_way l G T κ hst hE ma10) trivial dmX4_way zf4 hqq11 dX0_partFrom_29 zw1673 rfl rfl (Nat.le_of_ble_eq_true rfl) (Nat.le_of_ble_eq_true rfl) (Nat.le_of_ble_eq_true rfl) (Nat.le_of_ble_eq_true rfl) (Nat.le_of_ble_eq_true rfl) (fun _ _ _ h => nomatch h) (fun x16 cw15 nw15 w15 hw15 pw15 => ?_)
        obtain ⟨rfl, rfl, kw15⟩ := pw15
        refine z_istore hC (pc := 32) (lv' := [(6, .int x16), (0, .ref a0), (1, .int x1), (3, .int x3), (4, .int x4), (5, .int x8)]) dX0_partFrom_32 (by decide) rfl ?_
        refine z_aload_n hC (pc := 34) 1 dX0_partFrom_34 rfl rfl ?_
        refine z_iload hC (pc := 35) 0 dX0_partFrom_35 rfl ?_
        refine z_iload_n hC (pc := 37) 3 dX0_partFrom_37 rfl rfl ?_
        refine z_iload hC (pc := 38) 4 dX0_partFrom_38 rfl ?_
        obtain ⟨q17, hqq17⟩ := hE.o0 h0
        refine t_callVi hC hw15 (pc := 40) (As := [.int x16, .int x3, .int x4]) (kX0_filledPart l G T κ hst hE h0) trivial dmX0_filledPart zf0 hqq17 dX0_partFrom_40 zw1731 rfl rfl (Nat.le_of_ble_eq_true rfl) (Nat.le_of_ble_eq_true rfl) (Nat.le_of_ble_eq_true rfl) (Nat.le_of_ble_eq_true rfl) (Nat.le_of_ble_eq_true rfl) (fun _ _ _ h => nomatch h) (fun x19 cw18 nw18 w18 hw18 pw18 => ?_)
        obtain ⟨rfl, rfl, kw18⟩ := pw18
        refine z_istore hC (pc := 43) (lv' := [(7, .int x19), (6, .int x16), (0, .ref a0), (1, .int x1), (3, .int x3), (4, .int x4), (5, .int x8)]) dX0_partFrom_43 (by decide) rfl ?_
        refine z_iload hC (pc := 45) 0 dX0_partFrom_45 rfl ?_
        refine z_iconst hC (pc := 47) (v := (-1)) dX0_partFrom_47 (by decide) ?_
        have j62 : ∀ (w20 : va_W), tW T w20 → tKeep 0x0 w18 w20 → ∀ (x21 : Int32), zS X G 8 w20 [(0, .ref a0), (1, .int x1), (3, .int x3), (4, .int x4), (5, .int x8), (7, .int x21)] 0 0 62 [] := by
          intro w20 hw20 kw20 x21
          refine z_iload hC (pc := 62) 5 dX0_partFrom_62 rfl ?_
          refine z_iconst hC (pc := 64) (v := (-1)) dX0_partFrom_64 (by decide) ?_
          refine z_icmp_eq hC (pc := 65) 71 dX0_partFrom_65 (by decide) (fun c22 => ?_) (fun c22 => ?_)
          · refine z_iinc hC (pc := 71) (v := (x8 + 1)) (lv' := [(5, .int (x8 + 1)), (0, .ref a0), (1, .int x1), (3, .int x3), (4, .int x4), (7, .int x21)]) 4 dX0_partFrom_71 rfl (congrArg _ (by decide)) (by decide) rfl ?_
            refine z_goto hC (pc := 74) 3 dX0_partFrom_74 (by decide) ?_
            refine z_lvs [1, 2, 3, 4, 0] rfl ?_
            exact ih3 w20 hw20 (tKeep.tr (tKeep.tr (tKeep.tr (tKeep.tr (tKeep.tr tKeep.rf kw7 rfl) kw12 rfl) kw15 rfl) kw18 rfl) kw20 rfl) (x8 + 1) (t_up (Int32.not_le.mp c14) hd3)
          · refine z_iload hC (pc := 68) 5 dX0_partFrom_68 rfl ?_
            exact hR _ _ _ _ _ _ dX0_partFrom_70 rfl (Nat.le_of_ble_eq_true rfl) (Nat.le_of_ble_eq_true rfl) ⟨hw20, rfl, rfl, (tKeep.tr (tKeep.tr (tKeep.tr (tKeep.tr (tKeep.tr tKeep.rf kw7 rfl) kw12 rfl) kw15 rfl) kw18 rfl) kw20 rfl)⟩
        refine z_icmp_ne hC (pc := 48) 62 dX0_partFrom_48 (by decide) (fun c23 => ?_) (fun c23 => ?_)
        · refine z_lvs [2, 3, 4, 5, 6, 0] rfl ?_
          exact j62 w18 hw18 tKeep.rf x19
        · refine z_aload_n hC (pc := 51) 2 dX0_partFrom_51 rfl rfl ?_
          refine z_iload hC (pc := 52) 1 dX0_partFrom_52 rfl ?_
          refine z_iload_n hC (pc := 54) 4 dX0_partFrom_54 rfl rfl ?_
          refine z_iload hC (pc := 55) 5 dX0_partFrom_55 rfl ?_
          refine t_callVi hC hw18 (pc := 57) (As := [.int x16, .int x3, .int x4]) (kX0_ownPart l G T κ hst hE h0) trivial dmX0_ownPart zf0 hqq17 dX0_partFrom_57 zw1697 rfl rfl (Nat.le_of_ble_eq_true rfl) (Nat.le_of_ble_eq_true rfl) (Nat.le_of_ble_eq_true rfl) (Nat.le_of_ble_eq_true rfl) (Nat.le_of_ble_eq_true rfl) (fun _ _ _ h => nomatch h) (fun x25 cw24 nw24 w24 hw24 pw24 => ?_)
          obtain ⟨rfl, rfl, kw24⟩ := pw24
          refine z_istore hC (pc := 60) (lv' := [(7, .int x25), (6, .int x16), (0, .ref a0), (1, .int x1), (3, .int x3), (4, .int x4), (5, .int x8)]) dX0_partFrom_60 (by decide) rfl ?_
          refine z_lvs [2, 3, 4, 5, 6, 0] rfl ?_
          exact j62 w24 hw24 (tKeep.tr tKeep.rf kw24 rfl) x25
  refine z_lvs [1, 2, 4, 5, 0] rfl ?_
  exact j3 _ w0 hw0 tKeep.rf x2 (Nat.le_refl _)
set_option maxRecDepth 20000 in
theorem kX0_checkParts (l : Launch) (G : zG) (T : tT) (κ : Nat → List Nat) (hst : l.stackTraces = false) (hE : tE G T κ) {a0 : Nat} (h0 : a0 ∈ κ 0) : tMv l G T yX0_checkParts cX0_checkParts 3 [] 3 73 0 0 [.ref a0] uT (uPv 0x18) := by
  refine tMv.intro hst rfl (Nat.le_of_ble_eq_true rfl) ?_
  intro w0 hw0 _ X hC hR hO hX
  refine z_iconst hC (pc := 0) (v := 0) dX0_checkParts_0 (by decide) ?_
  refine z_istore_n hC (pc := 1) (lv' := [(1, .int 0), (0, .ref a0)]) dX0_checkParts_1 rfl (by decide) rfl ?_
  have j2 : ∀ (d2 : Nat), ∀ (w3 : va_W), tW T w3 → tKeep 0x18 w0 w3 → ∀ (x4 : Int32), ¬ x4 < 0 → (2 ^ 31 - (x4 : Int32).toInt).toNat ≤ d2 → zS X G 3 w3 [(0, .ref a0), (1, .int x4)] 0 0 2 [] := by
    intro d2
    induction d2 with
    | zero => intro w3 hw3 kw3 x4 v5 hd2; exact (t_zero hd2).elim
    | succ d2 ih2 =>
      intro w3 hw3 kw3 x4 v5 hd2
      refine z_iload_n hC (pc := 2) 1 dX0_checkParts_2 rfl rfl ?_
      refine z_aload_n hC (pc := 3) 0 dX0_checkParts_3 rfl rfl ?_
      refine u_get hC hw3 (pc := 4) zf0 1 (hE.o0 h0) rfl dX0_checkParts_4 zw449 (kk := fun va6 ta6 fa6 => ?_)
      obtain ⟨a6, ma6, rfl⟩ := ta6
      refine u_get hC hw3 (pc := 7) zf2 10 (hE.o2 ma6) rfl dX0_checkParts_7 zw267 (kk := fun vx7 tx7 fx7 => ?_)
      obtain ⟨x7, rfl⟩ := tx7
      refine z_icmp_ge hC (pc := 10) 117 dX0_checkParts_10 (by decide) (fun c8 => ?_) (fun c8 => ?_)
      · exact hR _ _ _ _ _ dX0_checkParts_117 (Nat.le_of_ble_eq_true rfl) (Nat.le_of_ble_eq_true rfl) ⟨hw3, rfl, rfl, (tKeep.tr tKeep.rf kw3 rfl)⟩
      · refine z_iload_n hC (pc := 13) 1 dX0_checkParts_13 rfl rfl ?_
        refine z_bipush hC (pc := 14) (v := 6) dX0_checkParts_14 (by decide) ?_
        refine z_imul hC (pc := 16) (v := (x4 * 6)) dX0_checkParts_16 rfl ?_
        refine z_istore_n hC (pc := 17) (lv' := [(2, .int (x4 * 6)), (0, .ref a0), (1, .int x4)]) dX0_checkParts_17 rfl (by decide) rfl ?_
        refine z_aload_n hC (pc := 18) 1 dX0_checkParts_18 rfl rfl ?_
        refine u_getK hC (pc := 19) zf0 1 fa6 dX0_checkParts_19 zw449 (kk := ?_)
        refine u_get hC hw3 (pc := 22) zf2 9 (hE.o2 ma6) rfl dX0_checkParts_22 zw263 (kk := fun va9 ta9 fa9 => ?_)
        obtain ⟨a9, ma9, rfl⟩ := ta9
        refine z_iload_n hC (pc := 25) 0 dX0_checkParts_25 rfl rfl ?_
        refine t_callSNi hC hw3 (pc := 26) (As := [.ref a9, .int (x4 * 6)]) (kX12_get l G T κ hst hE ma9) trivial dmX12_get dX0_checkParts_26 zw1668 rfl rfl (Nat.le_of_ble_eq_true rfl) (Nat.le_of_ble_eq_true rfl) (Nat.le_of_ble_eq_true rfl) (Nat.le_of_ble_eq_true rfl) (Nat.le_of_ble_eq_true rfl) (fun _ _ _ h => nomatch h) (fun x11 cw10 nw10 w10 hw10 pw10 => ?_)
        obtain ⟨rfl, rfl, kw10⟩ := pw10
        refine z_aload_n hC (pc := 29) 1 dX0_checkParts_29 rfl rfl ?_
        refine u_get hC hw10 (pc := 30) zf0 2 (hE.o0 h0) rfl dX0_checkParts_30 zw450 (kk := fun vx12 tx12 fx12 => ?_)
        obtain ⟨x12, rfl⟩ := tx12
        have j111 : ∀ (w13 : va_W), tW T w13 → tKeep 0x18 w10 w13 → zS X G 3 w13 [(0, .ref a0), (1, .int x4)] 0 0 111 [] := by
          intro w13 hw13 kw13
          refine z_iinc hC (pc := 111) (v := (x4 + 1)) (lv' := [(1, .int (x4 + 1)), (0, .ref a0)]) 1 dX0_checkParts_111 rfl (congrArg _ (by decide)) (by decide) rfl ?_
          refine z_goto hC (pc := 114) 2 dX0_checkParts_114 (by decide) ?_
          refine z_lvs [1, 0] rfl ?_
          exact ih2 w13 hw13 (tKeep.tr (tKeep.tr (tKeep.tr tKeep.rf kw3 rfl) kw10 rfl) kw13 rfl) (x4 + 1) (t_nnI v5 (Int32.not_le.mp c8)) (t_up (Int32.not_le.mp c8) hd2)
        refine z_icmp_ne hC (pc := 33) 111 dX0_checkParts_33 (by decide) (fun c14 => ?_) (fun c14 => ?_)
        · refine z_lvs [1, 2] rfl ?_
          exact j111 w10 hw10 tKeep.rf
        · refine z_aload_n hC (pc := 36) 1 dX0_checkParts_36 rfl rfl ?_
          refine u_getK hC (pc := 37) zf0 1 (tKeep.F kw10 fa6 rfl) dX0_checkParts_37 zw449 (kk := ?_)
          refine u_getK hC (pc := 40) zf2 9 (tKeep.F kw10 fa9 rfl) dX0_checkParts_40 zw263 (kk := ?_)
          refine z_iload_n hC (pc := 43) 0 dX0_checkParts_43 rfl rfl ?_
          refine z_iconst hC (pc := 44) (v := 4) dX0_checkParts_44 (by decide) ?_
          refine z_iadd hC (pc := 45) (v := ((x4 * 6) + 4)) dX0_checkParts_45 rfl ?_
          refine t_callSNi hC hw10 (pc := 46) (As := [.ref a9, .int ((x4 * 6) + 4)]) (kX12_get l G T κ hst hE ma9) trivial dmX12_get dX0_checkParts_46 zw1668 rfl rfl (Nat.le_of_ble_eq_true rfl) (Nat.le_of_ble_eq_true rfl) (Nat.le_of_ble_eq_true rfl) (Nat.le_of_ble_eq_true rfl) (Nat.le_of_ble_eq_true rfl) (fun _ _ _ h => nomatch h) (fun x16 cw15 nw15 w15 hw15 pw15 => ?_)
          obtain ⟨rfl, rfl, kw15⟩ := pw15
          refine z_iconst hC (pc := 49) (v := 1) dX0_checkParts_49 (by decide) ?_
          refine z_icmp_ne hC (pc := 50) 111 dX0_checkParts_50 (by decide) (fun c17 => ?_) (fun c17 => ?_)
          · refine z_lvs [1, 2] rfl ?_
            exact j111 w15 hw15 (tKeep.tr tKeep.rf kw15 rfl)
          · refine z_aload_n hC (pc := 53) 1 dX0_checkParts_53 rfl rfl ?_
            refine z_aload_n hC (pc := 54) 1 dX0_checkParts_54 rfl rfl ?_
            refine u_getK hC (pc := 55) zf0 2 (tKeep.F kw15 fx12 rfl) dX0_checkParts_55 zw450 (kk := ?_)
            refine z_iconst hC (pc := 58) (v := 1) dX0_checkParts_58 (by decide) ?_
            refine z_aload_n hC (pc := 59) 1 dX0_checkParts_59 rfl rfl ?_
            refine u_getK hC (pc := 60) zf0 1 (tKeep.F kw15 (tKeep.F kw10 fa6 rfl) rfl) dX0_checkParts_60 zw449 (kk := ?_)
            refine u_getK hC (pc := 63) zf2 9 (tKeep.F kw15 (tKeep.F kw10 fa9 rfl) rfl) dX0_checkParts_63 zw263 (kk := ?_)
            refine z_iload_n hC (pc := 66) 0 dX0_checkParts_66 rfl rfl ?_
            refine z_iconst hC (pc := 67) (v := 1) dX0_checkParts_67 (by decide) ?_
            refine z_iadd hC (pc := 68) (v := ((x4 * 6) + 1)) dX0_checkParts_68 rfl ?_
            refine t_callSNi hC hw15 (pc := 69) (As := [.ref a9, .int ((x4 * 6) + 1)]) (kX12_get l G T κ hst hE ma9) trivial dmX12_get dX0_checkParts_69 zw1668 rfl rfl (Nat.le_of_ble_eq_true rfl) (Nat.le_of_ble_eq_true rfl) (Nat.le_of_ble_eq_true rfl) (Nat.le_of_ble_eq_true rfl) (Nat.le_of_ble_eq_true rfl) (fun _ _ _ h => nomatch h) (fun x19 cw18 nw18 w18 hw18 pw18 => ?_)
            obtain ⟨rfl, rfl, kw18⟩ := pw18
            refine z_aload_n hC (pc := 72) 1 dX0_checkParts_72 rfl rfl ?_
            refine u_getK hC (pc := 73) zf0 1 (tKeep.F kw18 (tKeep.F kw15 (tKeep.F kw10 fa6 rfl) rfl) rfl) dX0_checkParts_73 zw449 (kk := ?_)
            refine u_getK hC (pc := 76) zf2 9 (tKeep.F kw18 (tKeep.F kw15 (tKeep.F kw10 fa9 rfl) rfl) rfl) dX0_checkParts_76 zw263 (kk := ?_)
            refine z_iload_n hC (pc := 79) 0 dX0_checkParts_79 rfl rfl ?_
            refine z_iconst hC (pc := 80) (v := 2) dX0_checkParts_80 (by decide) ?_
            refine z_iadd hC (pc := 81) (v := ((x4 * 6) + 2)) dX0_checkParts_81 rfl ?_
            refine t_callSNi hC hw18 (pc := 82) (As := [.ref a9, .int ((x4 * 6) + 2)]) (kX12_get l G T κ hst hE ma9) trivial dmX12_get dX0_checkParts_82 zw1668 rfl rfl (Nat.le_of_ble_eq_true rfl) (Nat.le_of_ble_eq_true rfl) (Nat.le_of_ble_eq_true rfl) (Nat.le_of_ble_eq_true rfl) (Nat.le_of_ble_eq_true rfl) (fun _ _ _ h => nomatch h) (fun x21 cw20 nw20 w20 hw20 pw20 => ?_)
            obtain ⟨rfl, rfl, kw20⟩ := pw20
            obtain ⟨q22, hqq22⟩ := hE.o0 h0
            refine t_callVi hC hw20 (pc := 85) (As := [.int x12, .int 1, .int x19, .int x21]) (kX0_partFrom l G T κ hst hE h0) trivial dmX0_partFrom zf0 hqq22 dX0_checkParts_85 zw1727 rfl rfl (Nat.le_of_ble_eq_true rfl) (Nat.le_of_ble_eq_true rfl) (Nat.le_of_ble_eq_true rfl) (Nat.le_of_ble_eq_true rfl) (Nat.le_of_ble_eq_true rfl) (fun _ _ _ h => nomatch h) (fun x24 cw23 nw23 w23 hw23 pw23 => ?_)
            obtain ⟨rfl, rfl, kw23⟩ := pw23
            refine z_iconst hC (pc := 88) (v := (-1)) dX0_checkParts_88 (by decide) ?_
            refine z_icmp_ne hC (pc := 89) 111 dX0_checkParts_89 (by decide) (fun c25 => ?_) (fun c25 => ?_)
            · refine z_lvs [1, 2] rfl ?_
              exact j111 w23 hw23 (tKeep.tr (tKeep.tr (tKeep.tr (tKeep.tr tKeep.rf kw15 rfl) kw18 rfl) kw20 rfl) kw23 rfl)
            · refine z_aload_n hC (pc := 92) 1 dX0_checkParts_92 rfl rfl ?_
              refine z_bipush hC (pc := 93) (v := 9) dX0_checkParts_93 (by decide) ?_
              refine z_aload_n hC (pc := 95) 1 dX0_checkParts_95 rfl rfl ?_
              refine u_getK hC (pc := 96) zf0 1 (tKeep.F kw23 (tKeep.F kw20 (tKeep.F kw18 (tKeep.F kw15 (tKeep.F kw10 fa6 rfl) rfl) rfl) rfl) rfl) dX0_checkParts_96 zw449 (kk := ?_)
              refine u_getK hC (pc := 99) zf2 9 (tKeep.F kw23 (tKeep.F kw20 (tKeep.F kw18 (tKeep.F kw15 (tKeep.F kw10 fa9 rfl) rfl) rfl) rfl) rfl) dX0_checkParts_99 zw263 (kk := ?_)
              refine z_iload_n hC (pc := 102) 0 dX0_checkParts_102 rfl rfl ?_
              refine z_iconst hC (pc := 103) (v := 5) dX0_checkParts_103 (by decide) ?_
              refine z_iadd hC (pc := 104) (v := ((x4 * 6) + 5)) dX0_checkParts_104 rfl ?_
              refine t_callSNi hC hw23 (pc := 105) (As := [.ref a9, .int ((x4 * 6) + 5)]) (kX12_get l G T κ hst hE ma9) trivial dmX12_get dX0_checkParts_105 zw1668 rfl rfl (Nat.le_of_ble_eq_true rfl) (Nat.le_of_ble_eq_true rfl) (Nat.le_of_ble_eq_true rfl) (Nat.le_of_ble_eq_true rfl) (Nat.le_of_ble_eq_true rfl) (fun _ _ _ h => nomatch h) (fun x27 cw26 nw26 w26 hw26 pw26 => ?_)
              obtain ⟨rfl, rfl, kw26⟩ := pw26
              refine t_callVv hC hw26 (pc := 108) (As := [.int 9, .int x27]) (kX0_mark l G T κ hst hE h0) trivial dmX0_mark zf0 hqq22 dX0_checkParts_108 zw1689 rfl rfl (Nat.le_of_ble_eq_true rfl) (Nat.le_of_ble_eq_true rfl) (Nat.le_of_ble_eq_true rfl) (Nat.le_of_ble_eq_true rfl) (Nat.le_of_ble_eq_true rfl) (fun _ _ _ h => nomatch h) (fun cw28 nw28 w28 hw28 pw28 => ?_)
              obtain ⟨rfl, rfl, kw28⟩ := pw28
              refine z_lvs [1, 2] rfl ?_
              exact j111 w28 hw28 (tKeep.tr (tKeep.tr (tKeep.tr (tKeep.tr (tKeep.tr (tKeep.tr tKeep.rf kw15 rfl) kw18 rfl) kw20 rfl) kw23 rfl) kw26 rfl) kw28 rfl)
  refine z_lvs [1, 0] rfl ?_
  exact j2 _ w0 hw0 tKeep.rf 0 (by decide) (Nat.le_refl _)
set_option maxRecDepth 20000 in
theorem kX0_tieParts (l : Launch) (G : zG) (T : tT) (κ : Nat → List Nat) (hst : l.stackTraces = false) (hE : tE G T κ) {a0 : Nat} (h0 : a0 ∈ κ 0) : tMv l G T yX0_tieParts cX0_tieParts 6 [] 3 73 0 0 [.ref a0] uT (uPv 0x0) := by
  refine tMv.intro hst rfl (Nat.le_of_ble_eq_true rfl) ?_
  intro w0 hw0 _ X hC hR hO hX
  refine z_aload_n hC (pc := 0) 0 dX0_tieParts_0 rfl rfl ?_
  refine u_get hC hw0 (pc := 1) zf0 1 (hE.o0 h0) rfl dX0_tieParts_1 zw449 (kk := fun va3 ta3 fa3 => ?_)
  obtain ⟨a3, ma3, rfl⟩ := ta3
  refine u_get hC hw0 (pc := 4) zf2 1 (hE.o2 ma3) rfl dX0_tieParts_4 zw237 (kk := fun va4 ta4 fa4 => ?_)
  obtain ⟨a4, ma4, rfl⟩ := ta4
  refine u_get hC hw0 (pc := 7) zf4 4 (hE.o4 ma4) rfl dX0_tieParts_7 zw213 (kk := fun va5 ta5 fa5 => ?_)
  obtain ⟨a5, ma5, rfl⟩ := ta5
  refine z_iconst hC (pc := 10) (v := 0) dX0_tieParts_10 (by decide) ?_
  refine t_callSNi hC hw0 (pc := 11) (As := [.ref a5, .int 0]) (kX12_get l G T κ hst hE ma5) trivial dmX12_get dX0_tieParts_11 zw1668 rfl rfl (Nat.le_of_ble_eq_true rfl) (Nat.le_of_ble_eq_true rfl) (Nat.le_of_ble_eq_true rfl) (Nat.le_of_ble_eq_true rfl) (Nat.le_of_ble_eq_true rfl) (fun _ _ _ h => nomatch h) (fun x7 cw6 nw6 w6 hw6 pw6 => ?_)
  obtain ⟨rfl, rfl, kw6⟩ := pw6
  refine z_istore_n hC (pc := 14) (lv' := [(1, .int x7), (0, .ref a0)]) dX0_tieParts_14 rfl (by decide) rfl ?_
  refine z_iconst hC (pc := 15) (v := 0) dX0_tieParts_15 (by decide) ?_
  refine z_istore_n hC (pc := 16) (lv' := [(2, .int 0), (1, .int x7), (0, .ref a0)]) dX0_tieParts_16 rfl (by decide) rfl ?_
  have j17 : ∀ (d17 : Nat), ∀ (w8 : va_W), tW T w8 → tKeep 0x0 w6 w8 → ∀ (x9 : Int32), ¬ x9 < 0 → (2 ^ 31 - (x9 : Int32).toInt).toNat ≤ d17 → zS X G 6 w8 [(0, .ref a0), (1, .int x7), (2, .int x9)] 0 0 17 [] := by
    intro d17
    induction d17 with
    | zero => intro w8 hw8 kw8 x9 v10 hd17; exact (t_zero hd17).elim
    | succ d17 ih17 =>
      intro w8 hw8 kw8 x9 v10 hd17
      refine z_iload_n hC (pc := 17) 2 dX0_tieParts_17 rfl rfl ?_
      refine z_aload_n hC (pc := 18) 0 dX0_tieParts_18 rfl rfl ?_
      refine u_getK hC (pc := 19) zf0 1 (tKeep.F kw8 (tKeep.F kw6 fa3 rfl) rfl) dX0_tieParts_19 zw449 (kk := ?_)
      refine u_get hC hw8 (pc := 22) zf2 10 (hE.o2 ma3) rfl dX0_tieParts_22 zw267 (kk := fun vx11 tx11 fx11 => ?_)
      obtain ⟨x11, rfl⟩ := tx11
      refine z_icmp_ge hC (pc := 25) 152 dX0_tieParts_25 (by decide) (fun c12 => ?_) (fun c12 => ?_)
      · exact hR _ _ _ _ _ dX0_tieParts_152 (Nat.le_of_ble_eq_true rfl) (Nat.le_of_ble_eq_true rfl) ⟨hw8, rfl, rfl, (tKeep.tr (tKeep.tr tKeep.rf kw6 rfl) kw8 rfl)⟩
      · refine z_iload_n hC (pc := 28) 2 dX0_tieParts_28 rfl rfl ?_
        refine z_bipush hC (pc := 29) (v := 6) dX0_tieParts_29 (by decide) ?_
        refine z_imul hC (pc := 31) (v := (x9 * 6)) dX0_tieParts_31 rfl ?_
        refine z_istore_n hC (pc := 32) (lv' := [(3, .int (x9 * 6)), (0, .ref a0), (1, .int x7), (2, .int x9)]) dX0_tieParts_32 rfl (by decide) rfl ?_
        refine z_aload_n hC (pc := 33) 1 dX0_tieParts_33 rfl rfl ?_
        refine u_getK hC (pc := 34) zf0 1 (tKeep.F kw8 (tKeep.F kw6 fa3 rfl) rfl) dX0_tieParts_34 zw449 (kk := ?_)
        refine u_get hC hw8 (pc := 37) zf2 9 (hE.o2 ma3) rfl dX0_tieParts_37 zw263 (kk := fun va13 ta13 fa13 => ?_)
        obtain ⟨a13, ma13, rfl⟩ := ta13
        refine z_iload_n hC (pc := 40) 0 dX0_tieParts_40 rfl rfl ?_
        refine z_iconst hC (pc := 41) (v := 4) dX0_tieParts_41 (by decide) ?_
        refine z_iadd hC (pc := 42) (v := ((x9 * 6) + 4)) dX0_tieParts_42 rfl ?_
        refine t_callSNi hC hw8 (pc := 43) (As := [.ref a13, .int ((x9 * 6) + 4)]) (kX12_get l G T κ hst hE ma13) trivial dmX12_get dX0_tieParts_43 zw1668 rfl rfl (Nat.le_of_ble_eq_true rfl) (Nat.le_of_ble_eq_true rfl) (Nat.le_of_ble_eq_true rfl) (Nat.le_of_ble_eq_true rfl) (Nat.le_of_ble_eq_true rfl) (fun _ _ _ h => nomatch h) (fun x15 cw14 nw14 w14 hw14 pw14 => ?_)
        obtain ⟨rfl, rfl, kw14⟩ := pw14
        refine z_iconst hC (pc := 46) (v := 1) dX0_tieParts_46 (by decide) ?_
        have j55 : ∀ (x16 : Int32), tZ (.int x16) → zS X G 6 w14 [(0, .ref a0), (1, .int x7), (2, .int x9), (3, .int (x9 * 6))] 0 0 55 [.int x16] := by
          intro x16 zx16
          refine z_istore hC (pc := 55) (lv' := [(4, .int x16), (0, .ref a0), (1, .int x7), (2, .int x9), (3, .int (x9 * 6))]) dX0_tieParts_55 (by decide) rfl ?_
          refine z_aload_n hC (pc := 57) 1 dX0_tieParts_57 rfl rfl ?_
          refine z_iload hC (pc := 58) 0 dX0_tieParts_58 rfl ?_
          have j78 : ∀ (w17 : va_W), tW T w17 → tKeep 0x0 w14 w17 → ∀ (x18 : Int32), zS X G 6 w17 [(0, .ref a0), (1, .int x7), (2, .int x9), (3, .int (x9 * 6)), (4, .int x16)] 0 0 78 [.int x18, .ref a0] := by
            intro w17 hw17 kw17 x18
            refine z_iload hC (pc := 78) 4 dX0_tieParts_78 rfl ?_
            have j88 : ∀ (x19 : Int32), tZ (.int x19) → zS X G 6 w17 [(0, .ref a0), (1, .int x7), (2, .int x9), (3, .int (x9 * 6))] 0 0 88 [.int x19, .int x18, .ref a0] := by
              intro x19 zx19
              refine z_aload_n hC (pc := 88) 0 dX0_tieParts_88 rfl rfl ?_
              refine u_getK hC (pc := 89) zf0 1 (tKeep.F kw17 (tKeep.F kw14 (tKeep.F kw8 (tKeep.F kw6 fa3 rfl) rfl) rfl) rfl) dX0_tieParts_89 zw449 (kk := ?_)
              refine u_getK hC (pc := 92) zf2 9 (tKeep.F kw17 (tKeep.F kw14 fa13 rfl) rfl) dX0_tieParts_92 zw263 (kk := ?_)
              refine z_iload_n hC (pc := 95) 3 dX0_tieParts_95 rfl rfl ?_
              refine z_iconst hC (pc := 96) (v := 1) dX0_tieParts_96 (by decide) ?_
              refine z_iadd hC (pc := 97) (v := ((x9 * 6) + 1)) dX0_tieParts_97 rfl ?_
              refine t_callSNi hC hw17 (pc := 98) (As := [.ref a13, .int ((x9 * 6) + 1)]) (kX12_get l G T κ hst hE ma13) trivial dmX12_get dX0_tieParts_98 zw1668 rfl rfl (Nat.le_of_ble_eq_true rfl) (Nat.le_of_ble_eq_true rfl) (Nat.le_of_ble_eq_true rfl) (Nat.le_of_ble_eq_true rfl) (Nat.le_of_ble_eq_true rfl) (fun _ _ _ h => nomatch h) (fun x21 cw20 nw20 w20 hw20 pw20 => ?_)
              obtain ⟨rfl, rfl, kw20⟩ := pw20
              refine z_aload_n hC (pc := 101) 0 dX0_tieParts_101 rfl rfl ?_
              refine u_getK hC (pc := 102) zf0 1 (tKeep.F kw20 (tKeep.F kw17 (tKeep.F kw14 (tKeep.F kw8 (tKeep.F kw6 fa3 rfl) rfl) rfl) rfl) rfl) dX0_tieParts_102 zw449 (kk := ?_)
              refine u_getK hC (pc := 105) zf2 9 (tKeep.F kw20 (tKeep.F kw17 (tKeep.F kw14 fa13 rfl) rfl) rfl) dX0_tieParts_105 zw263 (kk := ?_)
              refine z_iload_n hC (pc := 108) 3 dX0_tieParts_108 rfl rfl ?_
              refine z_iconst hC (pc := 109) (v := 2) dX0_tieParts_109 (by decide) ?_
              refine z_iadd hC (pc := 110) (v := ((x9 * 6) + 2)) dX0_tieParts_110 rfl ?_
              refine t_callSNi hC hw20 (pc := 111) (As := [.ref a13, .int ((x9 * 6) + 2)]) (kX12_get l G T κ hst hE ma13) trivial dmX12_get dX0_tieParts_111 zw1668 rfl rfl (Nat.le_of_ble_eq_true rfl) (Nat.le_of_ble_eq_true rfl) (Nat.le_of_ble_eq_true rfl) (Nat.le_of_ble_eq_true rfl) (Nat.le_of_ble_eq_true rfl) (fun _ _ _ h => nomatch h) (fun x23 cw22 nw22 w22 hw22 pw22 => ?_)
              obtain ⟨rfl, rfl, kw22⟩ := pw22
              obtain ⟨q24, hqq24⟩ := hE.o0 h0
              refine t_callVi hC hw22 (pc := 114) (As := [.int x18, .int x19, .int x21, .int x23]) (kX0_partFrom l G T κ hst hE h0) trivial dmX0_partFrom zf0 hqq24 dX0_tieParts_114 zw1727 rfl rfl (Nat.le_of_ble_eq_true rfl) (Nat.le_of_ble_eq_true rfl) (Nat.le_of_ble_eq_true rfl) (Nat.le_of_ble_eq_true rfl) (Nat.le_of_ble_eq_true rfl) (fun _ _ _ h => nomatch h) (fun x26 cw25 nw25 w25 hw25 pw25 => ?_)
              obtain ⟨rfl, rfl, kw25⟩ := pw25
              refine z_istore hC (pc := 117) (lv' := [(5, .int x26), (0, .ref a0), (1, .int x7), (2, .int x9), (3, .int (x9 * 6))]) dX0_tieParts_117 (by decide) rfl ?_
              refine z_aload_n hC (pc := 119) 1 dX0_tieParts_119 rfl rfl ?_
              refine u_getK hC (pc := 120) zf0 1 (tKeep.F kw25 (tKeep.F kw22 (tKeep.F kw20 (tKeep.F kw17 (tKeep.F kw14 (tKeep.F kw8 (tKeep.F kw6 fa3 rfl) rfl) rfl) rfl) rfl) rfl) rfl) dX0_tieParts_120 zw449 (kk := ?_)
              refine u_get hC hw25 (pc := 123) zf2 2 (hE.o2 ma3) rfl dX0_tieParts_123 zw241 (kk := fun va27 ta27 fa27 => ?_)
              obtain ⟨a27, ma27, rfl⟩ := ta27
              refine z_aload_n hC (pc := 126) 1 dX0_tieParts_126 rfl rfl ?_
              refine u_getK hC (pc := 127) zf0 1 (tKeep.F kw25 (tKeep.F kw22 (tKeep.F kw20 (tKeep.F kw17 (tKeep.F kw14 (tKeep.F kw8 (tKeep.F kw6 fa3 rfl) rfl) rfl) rfl) rfl) rfl) rfl) dX0_tieParts_127 zw449 (kk := ?_)
              refine u_getK hC (pc := 130) zf2 9 (tKeep.F kw25 (tKeep.F kw22 (tKeep.F kw20 (tKeep.F kw17 (tKeep.F kw14 fa13 rfl) rfl) rfl) rfl) rfl) dX0_tieParts_130 zw263 (kk := ?_)
              refine z_iload_n hC (pc := 133) 4 dX0_tieParts_133 rfl rfl ?_
              refine z_iconst hC (pc := 134) (v := 3) dX0_tieParts_134 (by decide) ?_
              refine z_iadd hC (pc := 135) (v := ((x9 * 6) + 3)) dX0_tieParts_135 rfl ?_
              refine t_callSNi hC hw25 (pc := 136) (As := [.ref a13, .int ((x9 * 6) + 3)]) (kX12_get l G T κ hst hE ma13) trivial dmX12_get dX0_tieParts_136 zw1668 rfl rfl (Nat.le_of_ble_eq_true rfl) (Nat.le_of_ble_eq_true rfl) (Nat.le_of_ble_eq_true rfl) (Nat.le_of_ble_eq_true rfl) (Nat.le_of_ble_eq_true rfl) (fun _ _ _ h => nomatch h) (fun x29 cw28 nw28 w28 hw28 pw28 => ?_)
              obtain ⟨rfl, rfl, kw28⟩ := pw28
              refine z_iconst hC (pc := 139) (v := 5) dX0_tieParts_139 (by decide) ?_
              refine z_iadd hC (pc := 140) (v := (x29 + 5)) dX0_tieParts_140 rfl ?_
              refine z_iload hC (pc := 141) 0 dX0_tieParts_141 rfl ?_
              refine t_callSNv hC hw28 (pc := 143) (As := [.ref a27, .int (x29 + 5), .int x26]) (kX12_set l G T κ hst hE ma27) trivial dmX12_set dX0_tieParts_143 zw1667 rfl rfl (Nat.le_of_ble_eq_true rfl) (Nat.le_of_ble_eq_true rfl) (Nat.le_of_ble_eq_true rfl) (Nat.le_of_ble_eq_true rfl) (Nat.le_of_ble_eq_true rfl) (fun _ _ _ h => nomatch h) (fun cw30 nw30 w30 hw30 pw30 => ?_)
              obtain ⟨rfl, rfl, kw30⟩ := pw30
              refine z_iinc hC (pc := 146) (v := (x9 + 1)) (lv' := [(2, .int (x9 + 1)), (5, .int x26), (0, .ref a0), (1, .int x7), (3, .int (x9 * 6))]) 3 dX0_tieParts_146 rfl (congrArg _ (by decide)) (by decide) rfl ?_
              refine z_goto hC (pc := 149) 17 dX0_tieParts_149 (by decide) ?_
              refine z_lvs [2, 3, 0] rfl ?_
              exact ih17 w30 hw30 (tKeep.tr (tKeep.tr (tKeep.tr (tKeep.tr (tKeep.tr (tKeep.tr (tKeep.tr (tKeep.tr tKeep.rf kw8 rfl) kw14 rfl) kw17 rfl) kw20 rfl) kw22 rfl) kw25 rfl) kw28 rfl) kw30 rfl) (x9 + 1) (t_nnI v10 (Int32.not_le.mp c12)) (t_up (Int32.not_le.mp c12) hd17)
            refine z_if_eq hC (pc := 80) 87 dX0_tieParts_80 (by decide) (fun c32 => ?_) (fun c32 => ?_)
            · refine z_iconst hC (pc := 87) (v := 0) dX0_tieParts_87 (by decide) ?_
              refine z_lvs [0, 1, 2, 3] rfl ?_
              exact j88 0 (Or.inl rfl)
            · refine z_iconst hC (pc := 83) (v := 1) dX0_tieParts_83 (by decide) ?_
              refine z_goto hC (pc := 84) 88 dX0_tieParts_84 (by decide) ?_
              refine z_lvs [0, 1, 2, 3] rfl ?_
              exact j88 1 (Or.inr rfl)
          refine z_if_eq hC (pc := 60) 77 dX0_tieParts_60 (by decide) (fun c33 => ?_) (fun c33 => ?_)
          · refine z_iload_n hC (pc := 77) 2 dX0_tieParts_77 rfl rfl ?_
            refine z_lvs [1, 2, 3, 4, 0] rfl ?_
            exact j78 w14 hw14 tKeep.rf x7
          · refine z_aload_n hC (pc := 63) 1 dX0_tieParts_63 rfl rfl ?_
            refine u_getK hC (pc := 64) zf0 1 (tKeep.F kw14 (tKeep.F kw8 (tKeep.F kw6 fa3 rfl) rfl) rfl) dX0_tieParts_64 zw449 (kk := ?_)
            refine u_getK hC (pc := 67) zf2 9 (tKeep.F kw14 fa13 rfl) dX0_tieParts_67 zw263 (kk := ?_)
            refine z_iload_n hC (pc := 70) 4 dX0_tieParts_70 rfl rfl ?_
            refine t_callSNi hC hw14 (pc := 71) (As := [.ref a13, .int (x9 * 6)]) (kX12_get l G T κ hst hE ma13) trivial dmX12_get dX0_tieParts_71 zw1668 rfl rfl (Nat.le_of_ble_eq_true rfl) (Nat.le_of_ble_eq_true rfl) (Nat.le_of_ble_eq_true rfl) (Nat.le_of_ble_eq_true rfl) (Nat.le_of_ble_eq_true rfl) (fun _ _ _ h => nomatch h) (fun x35 cw34 nw34 w34 hw34 pw34 => ?_)
            obtain ⟨rfl, rfl, kw34⟩ := pw34
            refine z_goto hC (pc := 74) 78 dX0_tieParts_74 (by decide) ?_
            refine z_lvs [1, 2, 3, 4, 0] rfl ?_
            exact j78 w34 hw34 (tKeep.tr tKeep.rf kw34 rfl) x35
        refine z_icmp_ne hC (pc := 47) 54 dX0_tieParts_47 (by decide) (fun c36 => ?_) (fun c36 => ?_)
        · refine z_iconst hC (pc := 54) (v := 0) dX0_tieParts_54 (by decide) ?_
          refine z_lvs [1, 2, 3, 0] rfl ?_
          exact j55 0 (Or.inl rfl)
        · refine z_iconst hC (pc := 50) (v := 1) dX0_tieParts_50 (by decide) ?_
          refine z_goto hC (pc := 51) 55 dX0_tieParts_51 (by decide) ?_
          refine z_lvs [1, 2, 3, 0] rfl ?_
          exact j55 1 (Or.inr rfl)
  refine z_lvs [2, 1, 0] rfl ?_
  exact j17 _ w6 hw6 tKeep.rf 0 (by decide) (Nat.le_refl _)
set_option maxRecDepth 20000 in
theorem kX12_fault (l : Launch) (G : zG) (T : tT) (κ : Nat → List Nat) (hst : l.stackTraces = false) (hE : tE G T κ) {a0 : Nat} (h0 : a0 ∈ κ 12) {x1 : Int32} : tMi l G T yX12_fault cX12_fault 2 .int [] 0 0 0 0 [.ref a0, .int x1] uT (uPi 0x0) := by
  refine tMi.intro hst rfl (Nat.le_of_ble_eq_true rfl) ?_
  intro w0 hw0 _ X hC hR hO hX
  refine z_iload_n hC (pc := 0) 1 dX12_fault_0 rfl rfl ?_
  refine z_if_ne hC (pc := 1) 9 dX12_fault_1 (by decide) (fun c4 => ?_) (fun c4 => ?_)
  · refine z_iload_n hC (pc := 9) 1 dX12_fault_9 rfl rfl ?_
    refine z_iconst hC (pc := 10) (v := 1) dX12_fault_10 (by decide) ?_
    have j34 : ∀ (x5 : Int32), zS X G 2 w0 [] 0 0 34 [.int x5] := by
      intro x5
      exact hR _ _ _ _ _ _ dX12_fault_34 rfl (Nat.le_of_ble_eq_true rfl) (Nat.le_of_ble_eq_true rfl) ⟨hw0, rfl, rfl, tKeep.rf⟩
    refine z_icmp_ne hC (pc := 11) 21 dX12_fault_11 (by decide) (fun c6 => ?_) (fun c6 => ?_)
    · refine z_iload_n hC (pc := 21) 1 dX12_fault_21 rfl rfl ?_
      refine z_iconst hC (pc := 22) (v := 2) dX12_fault_22 (by decide) ?_
      refine z_icmp_ne hC (pc := 23) 33 dX12_fault_23 (by decide) (fun c7 => ?_) (fun c7 => ?_)
      · refine z_iconst hC (pc := 33) (v := (-1)) dX12_fault_33 (by decide) ?_
        refine z_lvs [] rfl ?_
        exact j34 (-1)
      · refine z_aload_n hC (pc := 26) 0 dX12_fault_26 rfl rfl ?_
        refine u_get hC hw0 (pc := 27) zf12 15 (hE.o12 h0) rfl dX12_fault_27 zw723 (kk := fun vx8 tx8 fx8 => ?_)
        obtain ⟨x8, rfl⟩ := tx8
        refine z_goto hC (pc := 30) 34 dX12_fault_30 (by decide) ?_
        refine z_lvs [] rfl ?_
        exact j34 x8
    · refine z_aload_n hC (pc := 14) 0 dX12_fault_14 rfl rfl ?_
      refine u_get hC hw0 (pc := 15) zf12 14 (hE.o12 h0) rfl dX12_fault_15 zw722 (kk := fun vx9 tx9 fx9 => ?_)
      obtain ⟨x9, rfl⟩ := tx9
      refine z_goto hC (pc := 18) 34 dX12_fault_18 (by decide) ?_
      refine z_lvs [] rfl ?_
      exact j34 x9
  · refine z_aload_n hC (pc := 4) 0 dX12_fault_4 rfl rfl ?_
    refine u_get hC hw0 (pc := 5) zf12 13 (hE.o12 h0) rfl dX12_fault_5 zw721 (kk := fun vx10 tx10 fx10 => ?_)
    obtain ⟨x10, rfl⟩ := tx10
    exact hR _ _ _ _ _ _ dX12_fault_8 rfl (Nat.le_of_ble_eq_true rfl) (Nat.le_of_ble_eq_true rfl) ⟨hw0, rfl, rfl, tKeep.rf⟩
set_option maxRecDepth 20000 in
theorem kX8_make (l : Launch) (G : zG) (T : tT) (κ : Nat → List Nat) (hst : l.stackTraces = false) (hE : tE G T κ) {a0 : Nat} (h0 : a0 ∈ κ 8) {x1 : Int32} {x2 : Int64} {x4 : Int32} : tMi l G T yX8_make cX8_make 5 .int [] 1 22 0 0 [.ref a0, .int x1, .long x2, .int x4] uT (uPi 0x8000000000000000000000000000000000000000000000000000000000000000000000000000000000000000000000000000000000000000000000000000000000) := by
  refine tMi.intro hst rfl (Nat.le_of_ble_eq_true rfl) ?_
  intro w0 hw0 _ X hC hR hO hX
  refine z_aload_n hC (pc := 0) 0 dX8_make_0 rfl rfl ?_
  refine u_get hC hw0 (pc := 1) zf8 7 (hE.o8 h0) rfl dX8_make_1 zw62 (kk := fun vx7 tx7 fx7 => ?_)
  obtain ⟨x7, rfl, nx7⟩ := tx7
  refine z_sipush hC (pc := 4) (v := 500) dX8_make_4 (by decide) ?_
  have j23 : zS X G 5 w0 [] 0 0 23 [] := by
    refine z_iconst hC (pc := 23) (v := (-1)) dX8_make_23 (by decide) ?_
    exact hR _ _ _ _ _ _ dX8_make_24 rfl (Nat.le_of_ble_eq_true rfl) (Nat.le_of_ble_eq_true rfl) ⟨hw0, rfl, rfl, tKeep.rf⟩
  refine z_icmp_ge hC (pc := 7) 23 dX8_make_7 (by decide) (fun c8 => ?_) (fun c8 => ?_)
  · refine z_lvs [] rfl ?_
    exact j23
  · refine z_aload_n hC (pc := 10) 0 dX8_make_10 rfl rfl ?_
    refine u_get hC hw0 (pc := 11) zf8 8 (hE.o8 h0) rfl dX8_make_11 zw65 (kk := fun vx9 tx9 fx9 => ?_)
    obtain ⟨x9, rfl⟩ := tx9
    refine z_iload hC (pc := 14) 3 dX8_make_14 rfl ?_
    refine z_iadd hC (pc := 16) (v := (x9 + x4)) dX8_make_16 rfl ?_
    refine z_sipush hC (pc := 17) (v := 16000) dX8_make_17 (by decide) ?_
    refine z_icmp_le hC (pc := 20) 25 dX8_make_20 (by decide) (fun c10 => ?_) (fun c10 => ?_)
    · refine z_aload_n hC (pc := 25) 0 dX8_make_25 rfl rfl ?_
      refine u_get hC hw0 (pc := 26) zf8 0 (hE.o8 h0) rfl dX8_make_26 zw47 (kk := fun va11 ta11 fa11 => ?_)
      obtain ⟨a11, ma11, rfl⟩ := ta11
      refine z_aload_n hC (pc := 29) 0 dX8_make_29 rfl rfl ?_
      refine u_getK hC (pc := 30) zf8 7 fx7 dX8_make_30 zw62 (kk := ?_)
      refine z_iload_n hC (pc := 33) 1 dX8_make_33 rfl rfl ?_
      refine t_callSNv hC hw0 (pc := 34) (As := [.ref a11, .int x7, .int x1]) (kX12_set l G T κ hst hE ma11) trivial dmX12_set dX8_make_34 zw803 rfl rfl (Nat.le_of_ble_eq_true rfl) (Nat.le_of_ble_eq_true rfl) (Nat.le_of_ble_eq_true rfl) (Nat.le_of_ble_eq_true rfl) (Nat.le_of_ble_eq_true rfl) (fun _ _ _ h => nomatch h) (fun cw12 nw12 w12 hw12 pw12 => ?_)
      obtain ⟨rfl, rfl, kw12⟩ := pw12
      refine z_aload_n hC (pc := 37) 0 dX8_make_37 rfl rfl ?_
      refine u_getK hC (pc := 38) zf8 7 (tKeep.F kw12 fx7 rfl) dX8_make_38 zw62 (kk := ?_)
      refine z_aload_n hC (pc := 41) 0 dX8_make_41 rfl rfl ?_
      refine u_get hC hw12 (pc := 42) zf8 1 (hE.o8 h0) rfl dX8_make_42 zw49 (kk := fun va14 ta14 fa14 => ?_)
      obtain ⟨a14, ma14, rfl⟩ := ta14
      obtain ⟨N15, gN15, AN15⟩ := hE.lngs ma14
      have hN15 : N15 < 2 ^ 31 := Nat.lt_trans gN15 (by decide)
      refine u_alenL hC hw12 (pc := 45) AN15 dX8_make_45 ?_
      have j59 : ∀ (w16 : va_W), tW T w16 → tKeep 0x0 w12 w16 → zS X G 5 w16 [(0, .ref a0), (4, .int x4)] 0 0 59 [] := by
        intro w16 hw16 kw16
        refine z_aload_n hC (pc := 59) 0 dX8_make_59 rfl rfl ?_
        refine u_get hC hw16 (pc := 60) zf8 2 (hE.o8 h0) rfl dX8_make_60 zw51 (kk := fun va17 ta17 fa17 => ?_)
        obtain ⟨a17, ma17, rfl⟩ := ta17
        refine z_aload_n hC (pc := 63) 0 dX8_make_63 rfl rfl ?_
        refine u_getK hC (pc := 64) zf8 7 (tKeep.F kw16 (tKeep.F kw12 fx7 rfl) rfl) dX8_make_64 zw62 (kk := ?_)
        refine z_aload_n hC (pc := 67) 0 dX8_make_67 rfl rfl ?_
        refine u_getK hC (pc := 68) zf8 8 (tKeep.F kw16 (tKeep.F kw12 fx9 rfl) rfl) dX8_make_68 zw65 (kk := ?_)
        refine t_callSNv hC hw16 (pc := 71) (As := [.ref a17, .int x7, .int x9]) (kX12_set l G T κ hst hE ma17) trivial dmX12_set dX8_make_71 zw803 rfl rfl (Nat.le_of_ble_eq_true rfl) (Nat.le_of_ble_eq_true rfl) (Nat.le_of_ble_eq_true rfl) (Nat.le_of_ble_eq_true rfl) (Nat.le_of_ble_eq_true rfl) (fun _ _ _ h => nomatch h) (fun cw18 nw18 w18 hw18 pw18 => ?_)
        obtain ⟨rfl, rfl, kw18⟩ := pw18
        refine z_aload_n hC (pc := 74) 0 dX8_make_74 rfl rfl ?_
        refine u_get hC hw18 (pc := 75) zf8 3 (hE.o8 h0) rfl dX8_make_75 zw53 (kk := fun va20 ta20 fa20 => ?_)
        obtain ⟨a20, ma20, rfl⟩ := ta20
        refine z_aload_n hC (pc := 78) 0 dX8_make_78 rfl rfl ?_
        refine u_getK hC (pc := 79) zf8 7 (tKeep.F kw18 (tKeep.F kw16 (tKeep.F kw12 fx7 rfl) rfl) rfl) dX8_make_79 zw62 (kk := ?_)
        refine z_iload hC (pc := 82) 1 dX8_make_82 rfl ?_
        refine t_callSNv hC hw18 (pc := 84) (As := [.ref a20, .int x7, .int x4]) (kX12_set l G T κ hst hE ma20) trivial dmX12_set dX8_make_84 zw803 rfl rfl (Nat.le_of_ble_eq_true rfl) (Nat.le_of_ble_eq_true rfl) (Nat.le_of_ble_eq_true rfl) (Nat.le_of_ble_eq_true rfl) (Nat.le_of_ble_eq_true rfl) (fun _ _ _ h => nomatch h) (fun cw21 nw21 w21 hw21 pw21 => ?_)
        obtain ⟨rfl, rfl, kw21⟩ := pw21
        refine z_aload_n hC (pc := 87) 0 dX8_make_87 rfl rfl ?_
        refine u_get hC hw21 (pc := 88) zf8 4 (hE.o8 h0) rfl dX8_make_88 zw55 (kk := fun va23 ta23 fa23 => ?_)
        obtain ⟨a23, ma23, rfl⟩ := ta23
        refine z_aload_n hC (pc := 91) 0 dX8_make_91 rfl rfl ?_
        refine u_getK hC (pc := 92) zf8 7 (tKeep.F kw21 (tKeep.F kw18 (tKeep.F kw16 (tKeep.F kw12 fx7 rfl) rfl) rfl) rfl) dX8_make_92 zw62 (kk := ?_)
        refine z_iconst hC (pc := 95) (v := 0) dX8_make_95 (by decide) ?_
        refine t_callSNv hC hw21 (pc := 96) (As := [.ref a23, .int x7, .int 0]) (kX12_set l G T κ hst hE ma23) trivial dmX12_set dX8_make_96 zw803 rfl rfl (Nat.le_of_ble_eq_true rfl) (Nat.le_of_ble_eq_true rfl) (Nat.le_of_ble_eq_true rfl) (Nat.le_of_ble_eq_true rfl) (Nat.le_of_ble_eq_true rfl) (fun _ _ _ h => nomatch h) (fun cw24 nw24 w24 hw24 pw24 => ?_)
        obtain ⟨rfl, rfl, kw24⟩ := pw24
        refine z_aload_n hC (pc := 99) 0 dX8_make_99 rfl rfl ?_
        refine z_dup hC (pc := 100) dX8_make_100 rfl ?_
        refine u_getK hC (pc := 101) zf8 7 (tKeep.F kw24 (tKeep.F kw21 (tKeep.F kw18 (tKeep.F kw16 (tKeep.F kw12 fx7 rfl) rfl) rfl) rfl) rfl) dX8_make_101 zw62 (kk := ?_)
        refine z_iconst hC (pc := 104) (v := 1) dX8_make_104 (by decide) ?_
        refine z_iadd hC (pc := 105) (v := (x7 + 1)) dX8_make_105 rfl ?_
        refine u_put hC hw24 (pc := 106) zf8 7 (hE.o8 h0) rfl ⟨_, rfl, (t_nnI nx7 (Int32.not_le.mp c8))⟩ dX8_make_106 zw62 rfl rfl rfl (kk := fun w26 hw26 fw26 kw26 => ?_)
        refine z_aload_n hC (pc := 109) 0 dX8_make_109 rfl rfl ?_
        refine u_getK hC (pc := 110) zf8 7 fw26 dX8_make_110 zw62 (kk := ?_)
        refine z_iconst hC (pc := 113) (v := 1) dX8_make_113 (by decide) ?_
        refine z_isub hC (pc := 114) (v := ((x7 + 1) - 1)) dX8_make_114 rfl ?_
        exact hR _ _ _ _ _ _ dX8_make_115 rfl (Nat.le_of_ble_eq_true rfl) (Nat.le_of_ble_eq_true rfl) ⟨hw26, rfl, rfl, (tKeep.tr (tKeep.tr (tKeep.tr (tKeep.tr (tKeep.tr (tKeep.tr tKeep.rf kw12 rfl) kw16 rfl) kw18 rfl) kw21 rfl) kw24 rfl) kw26 rfl)⟩
      refine z_icmp_ge hC (pc := 46) 59 dX8_make_46 (by decide) (fun c27 => ?_) (fun c27 => ?_)
      · refine z_lvs [0, 3] rfl ?_
        exact j59 w12 hw12 tKeep.rf
      · refine z_aload_n hC (pc := 49) 0 dX8_make_49 rfl rfl ?_
        refine u_getK hC (pc := 50) zf8 1 fa14 dX8_make_50 zw49 (kk := ?_)
        refine z_aload_n hC (pc := 53) 0 dX8_make_53 rfl rfl ?_
        refine u_getK hC (pc := 54) zf8 7 (tKeep.F kw12 fx7 rfl) dX8_make_54 zw62 (kk := ?_)
        refine z_lload_n hC (pc := 57) 2 dX8_make_57 rfl rfl ?_
        refine u_last hC hw12 (pc := 58) AN15 dX8_make_58 (t_inB hN15 nx7 c27) trivial (fun w28 hw28 kw28 => ?_)
        refine z_lvs [0, 3] rfl ?_
        exact j59 w28 hw28 (tKeep.tr tKeep.rf kw28 rfl)
    · refine z_lvs [] rfl ?_
      exact j23
set_option maxRecDepth 20000 in
theorem kX12_truth (l : Launch) (G : zG) (T : tT) (κ : Nat → List Nat) (hst : l.stackTraces = false) (hE : tE G T κ) {a0 : Nat} (h0 : a0 ∈ κ 12) {x1 : Int32} : tMi l G T yX12_truth cX12_truth 2 .int [] 2 46 0 0 [.ref a0, .int x1] uT (uPi 0x8000000000000000000000000000000000000000000000000000000000000000000000000000000000000000000000000000000000000000000000000000000000) := by
  refine tMi.intro hst rfl (Nat.le_of_ble_eq_true rfl) ?_
  intro w0 hw0 _ X hC hR hO hX
  refine z_aload_n hC (pc := 0) 0 dX12_truth_0 rfl rfl ?_
  refine u_get hC hw0 (pc := 1) zf12 17 (hE.o12 h0) rfl dX12_truth_1 zw725 (kk := fun vx4 tx4 fx4 => ?_)
  obtain ⟨x4, rfl⟩ := tx4
  refine z_iconst hC (pc := 4) (v := 1) dX12_truth_4 (by decide) ?_
  have j30 : ∀ (w5 : va_W), tW T w5 → tKeep 0x8000000000000000000000000000000000000000000000000000000000000000000000000000000000000000000000000000000000000000000000000000000000 w0 w5 → ∀ (x6 : Int32), zS X G 2 w5 [] 0 0 30 [.int x6] := by
    intro w5 hw5 kw5 x6
    exact hR _ _ _ _ _ _ dX12_truth_30 rfl (Nat.le_of_ble_eq_true rfl) (Nat.le_of_ble_eq_true rfl) ⟨hw5, rfl, rfl, (tKeep.tr tKeep.rf kw5 rfl)⟩
  refine z_icmp_ne hC (pc := 5) 12 dX12_truth_5 (by decide) (fun c7 => ?_) (fun c7 => ?_)
  · refine z_aload_n hC (pc := 12) 0 dX12_truth_12 rfl rfl ?_
    refine u_get hC hw0 (pc := 13) zf12 5 (hE.o12 h0) rfl dX12_truth_13 zw713 (kk := fun va8 ta8 fa8 => ?_)
    obtain ⟨a8, ma8, rfl⟩ := ta8
    refine z_iconst hC (pc := 16) (v := 0) dX12_truth_16 (by decide) ?_
    refine z_iload_n hC (pc := 17) 1 dX12_truth_17 rfl rfl ?_
    have j26 : ∀ (y9 : Int64), zS X G 2 w0 [] 0 0 26 [.long y9, .int 0, .ref a8] := by
      intro y9
      refine z_iconst hC (pc := 26) (v := 0) dX12_truth_26 (by decide) ?_
      obtain ⟨q10, hqq10⟩ := hE.o8 ma8
      refine t_callVi hC hw0 (pc := 27) (As := [.int 0, .long y9, .int 0]) (kX8_make l G T κ hst hE ma8) trivial dmX8_make zf8 hqq10 dX12_truth_27 zw799 rfl rfl (Nat.le_of_ble_eq_true rfl) (Nat.le_of_ble_eq_true rfl) (Nat.le_of_ble_eq_true rfl) (Nat.le_of_ble_eq_true rfl) (Nat.le_of_ble_eq_true rfl) (fun _ _ _ h => nomatch h) (fun x12 cw11 nw11 w11 hw11 pw11 => ?_)
      obtain ⟨rfl, rfl, kw11⟩ := pw11
      exact j30 w11 hw11 (tKeep.tr tKeep.rf kw11 rfl) x12
    refine z_if_eq hC (pc := 18) 25 dX12_truth_18 (by decide) (fun c13 => ?_) (fun c13 => ?_)
    · refine z_lconst hC (pc := 25) (v := 0) dX12_truth_25 (by decide) ?_
      refine z_lvs [] rfl ?_
      exact j26 0
    · refine z_lconst hC (pc := 21) (v := 1) dX12_truth_21 (by decide) ?_
      refine z_goto hC (pc := 22) 26 dX12_truth_22 (by decide) ?_
      refine z_lvs [] rfl ?_
      exact j26 1
  · refine z_iconst hC (pc := 8) (v := (-1)) dX12_truth_8 (by decide) ?_
    refine z_goto hC (pc := 9) 30 dX12_truth_9 (by decide) ?_
    refine z_lvs [] rfl ?_
    exact j30 w0 hw0 tKeep.rf (-1)
set_option maxRecDepth 20000 in
theorem kX12_number (l : Launch) (G : zG) (T : tT) (κ : Nat → List Nat) (hst : l.stackTraces = false) (hE : tE G T κ) {a0 : Nat} (h0 : a0 ∈ κ 12) {x1 : Int64} : tMi l G T yX12_number cX12_number 3 .int [] 2 46 0 0 [.ref a0, .long x1] uT (uPi 0x8000000000000000000000000000000000000000000000000000000000000000000000000000000000000000000000000000000000000000000000000000000000) := by
  refine tMi.intro hst rfl (Nat.le_of_ble_eq_true rfl) ?_
  intro w0 hw0 _ X hC hR hO hX
  refine z_aload_n hC (pc := 0) 0 dX12_number_0 rfl rfl ?_
  refine u_get hC hw0 (pc := 1) zf12 17 (hE.o12 h0) rfl dX12_number_1 zw725 (kk := fun vx5 tx5 fx5 => ?_)
  obtain ⟨x5, rfl⟩ := tx5
  refine z_iconst hC (pc := 4) (v := 1) dX12_number_4 (by decide) ?_
  have j22 : ∀ (w6 : va_W), tW T w6 → tKeep 0x8000000000000000000000000000000000000000000000000000000000000000000000000000000000000000000000000000000000000000000000000000000000 w0 w6 → ∀ (x7 : Int32), zS X G 3 w6 [] 0 0 22 [.int x7] := by
    intro w6 hw6 kw6 x7
    exact hR _ _ _ _ _ _ dX12_number_22 rfl (Nat.le_of_ble_eq_true rfl) (Nat.le_of_ble_eq_true rfl) ⟨hw6, rfl, rfl, (tKeep.tr tKeep.rf kw6 rfl)⟩
  refine z_icmp_ne hC (pc := 5) 12 dX12_number_5 (by decide) (fun c8 => ?_) (fun c8 => ?_)
  · refine z_aload_n hC (pc := 12) 0 dX12_number_12 rfl rfl ?_
    refine u_get hC hw0 (pc := 13) zf12 5 (hE.o12 h0) rfl dX12_number_13 zw713 (kk := fun va9 ta9 fa9 => ?_)
    obtain ⟨a9, ma9, rfl⟩ := ta9
    refine z_iconst hC (pc := 16) (v := 1) dX12_number_16 (by decide) ?_
    refine z_lload_n hC (pc := 17) 1 dX12_number_17 rfl rfl ?_
    refine z_iconst hC (pc := 18) (v := 0) dX12_number_18 (by decide) ?_
    obtain ⟨q10, hqq10⟩ := hE.o8 ma9
    refine t_callVi hC hw0 (pc := 19) (As := [.int 1, .long x1, .int 0]) (kX8_make l G T κ hst hE ma9) trivial dmX8_make zf8 hqq10 dX12_number_19 zw799 rfl rfl (Nat.le_of_ble_eq_true rfl) (Nat.le_of_ble_eq_true rfl) (Nat.le_of_ble_eq_true rfl) (Nat.le_of_ble_eq_true rfl) (Nat.le_of_ble_eq_true rfl) (fun _ _ _ h => nomatch h) (fun x12 cw11 nw11 w11 hw11 pw11 => ?_)
    obtain ⟨rfl, rfl, kw11⟩ := pw11
    refine z_lvs [] rfl ?_
    exact j22 w11 hw11 (tKeep.tr tKeep.rf kw11 rfl) x12
  · refine z_iconst hC (pc := 8) (v := (-1)) dX12_number_8 (by decide) ?_
    refine z_goto hC (pc := 9) 22 dX12_number_9 (by decide) ?_
    refine z_lvs [] rfl ?_
    exact j22 w0 hw0 tKeep.rf (-1)
set_option maxRecDepth 20000 in
theorem kX8_takeBytes (l : Launch) (G : zG) (T : tT) (κ : Nat → List Nat) (hst : l.stackTraces = false) (hE : tE G T κ) {a0 : Nat} (h0 : a0 ∈ κ 8) {a1 : Nat} (h1 : tRd G κ a1) {x2 : Int32} : tMv l G T yX8_takeBytes cX8_takeBytes 4 [] 1 22 0 0 [.ref a0, .ref a1, .int x2] uT (uPv 0x10000000000000000000000000000000000000000000000000000000000000000000000000000000000000000000000000000000000000000000000000000000000) := by
  refine tMv.intro hst rfl (Nat.le_of_ble_eq_true rfl) ?_
  intro w0 hw0 _ X hC hR hO hX
  refine z_iconst hC (pc := 0) (v := 0) dX8_takeBytes_0 (by decide) ?_
  refine z_istore_n hC (pc := 1) (lv' := [(3, .int 0), (0, .ref a0), (1, .ref a1), (2, .int x2)]) dX8_takeBytes_1 rfl (by decide) rfl ?_
  have j2 : ∀ (d2 : Nat), ∀ (w5 : va_W), tW T w5 → tKeep 0x0 w0 w5 → ∀ (x6 : Int32), ¬ x6 < 0 → (2 ^ 31 - (x6 : Int32).toInt).toNat ≤ d2 → zS X G 4 w5 [(0, .ref a0), (1, .ref a1), (2, .int x2), (3, .int x6)] 0 0 2 [] := by
    intro d2
    induction d2 with
    | zero => intro w5 hw5 kw5 x6 v7 hd2; exact (t_zero hd2).elim
    | succ d2 ih2 =>
      intro w5 hw5 kw5 x6 v7 hd2
      refine z_iload_n hC (pc := 2) 3 dX8_takeBytes_2 rfl rfl ?_
      refine z_iload_n hC (pc := 3) 2 dX8_takeBytes_3 rfl rfl ?_
      refine z_icmp_ge hC (pc := 4) 31 dX8_takeBytes_4 (by decide) (fun c8 => ?_) (fun c8 => ?_)
      · refine z_aload_n hC (pc := 31) 0 dX8_takeBytes_31 rfl rfl ?_
        refine z_dup hC (pc := 32) dX8_takeBytes_32 rfl ?_
        refine u_get hC hw5 (pc := 33) zf8 8 (hE.o8 h0) rfl dX8_takeBytes_33 zw65 (kk := fun vx9 tx9 fx9 => ?_)
        obtain ⟨x9, rfl⟩ := tx9
        refine z_iload_n hC (pc := 36) 2 dX8_takeBytes_36 rfl rfl ?_
        refine z_iadd hC (pc := 37) (v := (x9 + x2)) dX8_takeBytes_37 rfl ?_
        refine u_put hC hw5 (pc := 38) zf8 8 (hE.o8 h0) rfl ⟨_, rfl⟩ dX8_takeBytes_38 zw65 rfl rfl rfl (kk := fun w10 hw10 fw10 kw10 => ?_)
        exact hR _ _ _ _ _ dX8_takeBytes_41 (Nat.le_of_ble_eq_true rfl) (Nat.le_of_ble_eq_true rfl) ⟨hw10, rfl, rfl, (tKeep.tr (tKeep.tr tKeep.rf kw5 rfl) kw10 rfl)⟩
      · refine z_aload_n hC (pc := 7) 0 dX8_takeBytes_7 rfl rfl ?_
        refine u_get hC hw5 (pc := 8) zf8 6 (hE.o8 h0) rfl dX8_takeBytes_8 zw60 (kk := fun va11 ta11 fa11 => ?_)
        obtain ⟨a11, ma11, rfl⟩ := ta11
        refine z_aload_n hC (pc := 11) 0 dX8_takeBytes_11 rfl rfl ?_
        refine u_get hC hw5 (pc := 12) zf8 8 (hE.o8 h0) rfl dX8_takeBytes_12 zw65 (kk := fun vx12 tx12 fx12 => ?_)
        obtain ⟨x12, rfl⟩ := tx12
        refine z_iload_n hC (pc := 15) 3 dX8_takeBytes_15 rfl rfl ?_
        refine z_iadd hC (pc := 16) (v := (x12 + x6)) dX8_takeBytes_16 rfl ?_
        refine z_aload_n hC (pc := 17) 1 dX8_takeBytes_17 rfl rfl ?_
        refine z_iload_n hC (pc := 18) 3 dX8_takeBytes_18 rfl rfl ?_
        refine t_callSNi hC hw5 (pc := 19) (As := [.ref a1, .int x6]) (kX12_getByte l G T κ hst hE h1) trivial dmX12_getByte dX8_takeBytes_19 zw822 rfl rfl (Nat.le_of_ble_eq_true rfl) (Nat.le_of_ble_eq_true rfl) (Nat.le_of_ble_eq_true rfl) (Nat.le_of_ble_eq_true rfl) (Nat.le_of_ble_eq_true rfl) (fun _ _ _ h => nomatch h) (fun x14 cw13 nw13 w13 hw13 pw13 => ?_)
        obtain ⟨rfl, rfl, kw13⟩ := pw13
        refine t_callSNv hC hw13 (pc := 22) (As := [.ref a11, .int (x12 + x6), .int x14]) (kX12_setByte l G T κ hst hE ma11) trivial dmX12_setByte dX8_takeBytes_22 zw823 rfl rfl (Nat.le_of_ble_eq_true rfl) (Nat.le_of_ble_eq_true rfl) (Nat.le_of_ble_eq_true rfl) (Nat.le_of_ble_eq_true rfl) (Nat.le_of_ble_eq_true rfl) (fun _ _ _ h => nomatch h) (fun cw15 nw15 w15 hw15 pw15 => ?_)
        obtain ⟨rfl, rfl, kw15⟩ := pw15
        refine z_iinc hC (pc := 25) (v := (x6 + 1)) (lv' := [(3, .int (x6 + 1)), (0, .ref a0), (1, .ref a1), (2, .int x2)]) 3 dX8_takeBytes_25 rfl (congrArg _ (by decide)) (by decide) rfl ?_
        refine z_goto hC (pc := 28) 2 dX8_takeBytes_28 (by decide) ?_
        refine z_lvs [1, 2, 3, 0] rfl ?_
        exact ih2 w15 hw15 (tKeep.tr (tKeep.tr (tKeep.tr tKeep.rf kw5 rfl) kw13 rfl) kw15 rfl) (x6 + 1) (t_nnI v7 (Int32.not_le.mp c8)) (t_up (Int32.not_le.mp c8) hd2)
  refine z_lvs [1, 2, 3, 0] rfl ?_
  exact j2 _ w0 hw0 tKeep.rf 0 (by decide) (Nat.le_refl _)
set_option maxRecDepth 20000 in
theorem kX12_fromTape (l : Launch) (G : zG) (T : tT) (κ : Nat → List Nat) (hst : l.stackTraces = false) (hE : tE G T κ) {a0 : Nat} (h0 : a0 ∈ κ 12) {x1 : Int32} : tMi l G T yX12_fromTape cX12_fromTape 4 .int [] 2 46 0 0 [.ref a0, .int x1] uT (uPi 0x4000000000000000000000000000000000000000000000000000000000000018000000000000000000000000000000000000000000000000000000000000000000000000000000000000000000000000000000000000000000000000000000000) := by
  refine tMi.intro hst rfl (Nat.le_of_ble_eq_true rfl) ?_
  intro w0 hw0 _ X hC hR hO hX
  refine z_aload_n hC (pc := 0) 0 dX12_fromTape_0 rfl rfl ?_
  refine u_get hC hw0 (pc := 1) zf12 2 (hE.o12 h0) rfl dX12_fromTape_1 zw710 (kk := fun vx4 tx4 fx4 => ?_)
  obtain ⟨x4, rfl⟩ := tx4
  refine z_istore_n hC (pc := 4) (lv' := [(2, .int x4), (0, .ref a0), (1, .int x1)]) dX12_fromTape_4 rfl (by decide) rfl ?_
  refine z_aload_n hC (pc := 5) 1 dX12_fromTape_5 rfl rfl ?_
  refine z_iconst hC (pc := 6) (v := 0) dX12_fromTape_6 (by decide) ?_
  refine u_put hC hw0 (pc := 7) zf12 2 (hE.o12 h0) rfl ⟨_, rfl⟩ dX12_fromTape_7 zw710 rfl rfl rfl (kk := fun w5 hw5 fw5 kw5 => ?_)
  refine z_aload_n hC (pc := 10) 1 dX12_fromTape_10 rfl rfl ?_
  refine u_get hC hw5 (pc := 11) zf12 17 (hE.o12 h0) rfl dX12_fromTape_11 zw725 (kk := fun vx6 tx6 fx6 => ?_)
  obtain ⟨x6, rfl⟩ := tx6
  refine z_iconst hC (pc := 14) (v := 1) dX12_fromTape_14 (by decide) ?_
  refine z_icmp_ne hC (pc := 15) 20 dX12_fromTape_15 (by decide) (fun c7 => ?_) (fun c7 => ?_)
  · refine z_aload_n hC (pc := 20) 1 dX12_fromTape_20 rfl rfl ?_
    refine u_get hC hw5 (pc := 21) zf12 5 (hE.o12 h0) rfl dX12_fromTape_21 zw713 (kk := fun va8 ta8 fa8 => ?_)
    obtain ⟨a8, ma8, rfl⟩ := ta8
    refine z_iload_n hC (pc := 24) 2 dX12_fromTape_24 rfl rfl ?_
    refine z_lconst hC (pc := 25) (v := 0) dX12_fromTape_25 (by decide) ?_
    refine z_iload_n hC (pc := 26) 0 dX12_fromTape_26 rfl rfl ?_
    obtain ⟨q9, hqq9⟩ := hE.o8 ma8
    refine t_callVi hC hw5 (pc := 27) (As := [.int x1, .long 0, .int x4]) (kX8_make l G T κ hst hE ma8) trivial dmX8_make zf8 hqq9 dX12_fromTape_27 zw799 rfl rfl (Nat.le_of_ble_eq_true rfl) (Nat.le_of_ble_eq_true rfl) (Nat.le_of_ble_eq_true rfl) (Nat.le_of_ble_eq_true rfl) (Nat.le_of_ble_eq_true rfl) (fun _ _ _ h => nomatch h) (fun x11 cw10 nw10 w10 hw10 pw10 => ?_)
    obtain ⟨rfl, rfl, kw10⟩ := pw10
    refine z_istore_n hC (pc := 30) (lv' := [(3, .int x11), (2, .int x4), (0, .ref a0), (1, .int x1)]) dX12_fromTape_30 rfl (by decide) rfl ?_
    refine z_iload_n hC (pc := 31) 0 dX12_fromTape_31 rfl rfl ?_
    refine z_iconst hC (pc := 32) (v := (-1)) dX12_fromTape_32 (by decide) ?_
    have j48 : ∀ (w12 : va_W), tW T w12 → tKeep 0x10000000000000000000000000000000000000000000000000000000000000000000000000000000000000000000000000000000000000000000000000000000000 w10 w12 → zS X G 4 w12 [(3, .int x11)] 0 0 48 [] := by
      intro w12 hw12 kw12
      refine z_iload_n hC (pc := 48) 0 dX12_fromTape_48 rfl rfl ?_
      exact hR _ _ _ _ _ _ dX12_fromTape_49 rfl (Nat.le_of_ble_eq_true rfl) (Nat.le_of_ble_eq_true rfl) ⟨hw12, rfl, rfl, (tKeep.tr (tKeep.tr (tKeep.tr tKeep.rf kw5 rfl) kw10 rfl) kw12 rfl)⟩
    refine z_icmp_eq hC (pc := 33) 48 dX12_fromTape_33 (by decide) (fun c13 => ?_) (fun c13 => ?_)
    · refine z_lvs [0] rfl ?_
      exact j48 w10 hw10 tKeep.rf
    · refine z_aload_n hC (pc := 36) 2 dX12_fromTape_36 rfl rfl ?_
      refine u_getK hC (pc := 37) zf12 5 (tKeep.F kw10 fa8 rfl) dX12_fromTape_37 zw713 (kk := ?_)
      refine z_aload_n hC (pc := 40) 2 dX12_fromTape_40 rfl rfl ?_
      refine u_get hC hw10 (pc := 41) zf12 1 (hE.o12 h0) rfl dX12_fromTape_41 zw709 (kk := fun va14 ta14 fa14 => ?_)
      obtain ⟨a14, ma14, rfl⟩ := ta14
      refine z_iload_n hC (pc := 44) 1 dX12_fromTape_44 rfl rfl ?_
      refine t_callVv hC hw10 (pc := 45) (As := [.ref a14, .int x4]) (kX8_takeBytes l G T κ hst hE ma8 (Or.inl ma14)) trivial dmX8_takeBytes zf8 hqq9 dX12_fromTape_45 zw818 rfl rfl (Nat.le_of_ble_eq_true rfl) (Nat.le_of_ble_eq_true rfl) (Nat.le_of_ble_eq_true rfl) (Nat.le_of_ble_eq_true rfl) (Nat.le_of_ble_eq_true rfl) (fun _ _ _ h => nomatch h) (fun cw15 nw15 w15 hw15 pw15 => ?_)
      obtain ⟨rfl, rfl, kw15⟩ := pw15
      refine z_lvs [0] rfl ?_
      exact j48 w15 hw15 (tKeep.tr tKeep.rf kw15 rfl)
  · refine z_iconst hC (pc := 18) (v := (-1)) dX12_fromTape_18 (by decide) ?_
    exact hR _ _ _ _ _ _ dX12_fromTape_19 rfl (Nat.le_of_ble_eq_true rfl) (Nat.le_of_ble_eq_true rfl) ⟨hw5, rfl, rfl, (tKeep.tr tKeep.rf kw5 rfl)⟩
set_option maxRecDepth 20000 in
theorem kX12_word (l : Launch) (G : zG) (T : tT) (κ : Nat → List Nat) (hst : l.stackTraces = false) (hE : tE G T κ) {a0 : Nat} (h0 : a0 ∈ κ 12) : tMi l G T yX12_word cX12_word 1 .int [] 3 69 0 0 [.ref a0] uT (uPi 0x4000000000000000000000000000000000000000000000000000000000000018000000000000000000000000000000000000000000000000000000000000000000000000000000000000000000000000000000000000000000000000000000000) := by
  refine tMi.intro hst rfl (Nat.le_of_ble_eq_true rfl) ?_
  intro w0 hw0 _ X hC hR hO hX
  refine z_aload_n hC (pc := 0) 0 dX12_word_0 rfl rfl ?_
  refine z_iconst hC (pc := 1) (v := 2) dX12_word_1 (by decide) ?_
  obtain ⟨q3, hqq3⟩ := hE.o12 h0
  refine t_callVi hC hw0 (pc := 2) (As := [.int 2]) (kX12_fromTape l G T κ hst hE h0) trivial dmX12_fromTape zf12 hqq3 dX12_word_2 zw814 rfl rfl (Nat.le_of_ble_eq_true rfl) (Nat.le_of_ble_eq_true rfl) (Nat.le_of_ble_eq_true rfl) (Nat.le_of_ble_eq_true rfl) (Nat.le_of_ble_eq_true rfl) (fun _ _ _ h => nomatch h) (fun x5 cw4 nw4 w4 hw4 pw4 => ?_)
  obtain ⟨rfl, rfl, kw4⟩ := pw4
  exact hR _ _ _ _ _ _ dX12_word_5 rfl (Nat.le_of_ble_eq_true rfl) (Nat.le_of_ble_eq_true rfl) ⟨hw4, rfl, rfl, (tKeep.tr tKeep.rf kw4 rfl)⟩
set_option maxRecDepth 20000 in
theorem kX12_list (l : Launch) (G : zG) (T : tT) (κ : Nat → List Nat) (hst : l.stackTraces = false) (hE : tE G T κ) {a0 : Nat} (h0 : a0 ∈ κ 12) : tMi l G T yX12_list cX12_list 1 .int [] 2 46 0 0 [.ref a0] uT (uPi 0x8000000000000000000000000000000000000000000000000000000000000000000000000000000000000000000000000000000000000000000000000000000000) := by
  refine tMi.intro hst rfl (Nat.le_of_ble_eq_true rfl) ?_
  intro w0 hw0 _ X hC hR hO hX
  refine z_aload_n hC (pc := 0) 0 dX12_list_0 rfl rfl ?_
  refine u_get hC hw0 (pc := 1) zf12 17 (hE.o12 h0) rfl dX12_list_1 zw725 (kk := fun vx3 tx3 fx3 => ?_)
  obtain ⟨x3, rfl⟩ := tx3
  refine z_iconst hC (pc := 4) (v := 1) dX12_list_4 (by decide) ?_
  have j22 : ∀ (w4 : va_W), tW T w4 → tKeep 0x8000000000000000000000000000000000000000000000000000000000000000000000000000000000000000000000000000000000000000000000000000000000 w0 w4 → ∀ (x5 : Int32), zS X G 1 w4 [] 0 0 22 [.int x5] := by
    intro w4 hw4 kw4 x5
    exact hR _ _ _ _ _ _ dX12_list_22 rfl (Nat.le_of_ble_eq_true rfl) (Nat.le_of_ble_eq_true rfl) ⟨hw4, rfl, rfl, (tKeep.tr tKeep.rf kw4 rfl)⟩
  refine z_icmp_ne hC (pc := 5) 12 dX12_list_5 (by decide) (fun c6 => ?_) (fun c6 => ?_)
  · refine z_aload_n hC (pc := 12) 0 dX12_list_12 rfl rfl ?_
    refine u_get hC hw0 (pc := 13) zf12 5 (hE.o12 h0) rfl dX12_list_13 zw713 (kk := fun va7 ta7 fa7 => ?_)
    obtain ⟨a7, ma7, rfl⟩ := ta7
    refine z_iconst hC (pc := 16) (v := 3) dX12_list_16 (by decide) ?_
    refine z_lconst hC (pc := 17) (v := 0) dX12_list_17 (by decide) ?_
    refine z_iconst hC (pc := 18) (v := 0) dX12_list_18 (by decide) ?_
    obtain ⟨q8, hqq8⟩ := hE.o8 ma7
    refine t_callVi hC hw0 (pc := 19) (As := [.int 3, .long 0, .int 0]) (kX8_make l G T κ hst hE ma7) trivial dmX8_make zf8 hqq8 dX12_list_19 zw799 rfl rfl (Nat.le_of_ble_eq_true rfl) (Nat.le_of_ble_eq_true rfl) (Nat.le_of_ble_eq_true rfl) (Nat.le_of_ble_eq_true rfl) (Nat.le_of_ble_eq_true rfl) (fun _ _ _ h => nomatch h) (fun x10 cw9 nw9 w9 hw9 pw9 => ?_)
    obtain ⟨rfl, rfl, kw9⟩ := pw9
    refine z_lvs [] rfl ?_
    exact j22 w9 hw9 (tKeep.tr tKeep.rf kw9 rfl) x10
  · refine z_iconst hC (pc := 8) (v := (-1)) dX12_list_8 (by decide) ?_
    refine z_goto hC (pc := 9) 22 dX12_list_9 (by decide) ?_
    refine z_lvs [] rfl ?_
    exact j22 w0 hw0 tKeep.rf (-1)
set_option maxRecDepth 20000 in
theorem kX12_map (l : Launch) (G : zG) (T : tT) (κ : Nat → List Nat) (hst : l.stackTraces = false) (hE : tE G T κ) {a0 : Nat} (h0 : a0 ∈ κ 12) : tMi l G T yX12_map cX12_map 1 .int [] 2 46 0 0 [.ref a0] uT (uPi 0x8000000000000000000000000000000000000000000000000000000000000000000000000000000000000000000000000000000000000000000000000000000000) := by
  refine tMi.intro hst rfl (Nat.le_of_ble_eq_true rfl) ?_
  intro w0 hw0 _ X hC hR hO hX
  refine z_aload_n hC (pc := 0) 0 dX12_map_0 rfl rfl ?_
  refine u_get hC hw0 (pc := 1) zf12 17 (hE.o12 h0) rfl dX12_map_1 zw725 (kk := fun vx3 tx3 fx3 => ?_)
  obtain ⟨x3, rfl⟩ := tx3
  refine z_iconst hC (pc := 4) (v := 1) dX12_map_4 (by decide) ?_
  have j22 : ∀ (w4 : va_W), tW T w4 → tKeep 0x8000000000000000000000000000000000000000000000000000000000000000000000000000000000000000000000000000000000000000000000000000000000 w0 w4 → ∀ (x5 : Int32), zS X G 1 w4 [] 0 0 22 [.int x5] := by
    intro w4 hw4 kw4 x5
    exact hR _ _ _ _ _ _ dX12_map_22 rfl (Nat.le_of_ble_eq_true rfl) (Nat.le_of_ble_eq_true rfl) ⟨hw4, rfl, rfl, (tKeep.tr tKeep.rf kw4 rfl)⟩
  refine z_icmp_ne hC (pc := 5) 12 dX12_map_5 (by decide) (fun c6 => ?_) (fun c6 => ?_)
  · refine z_aload_n hC (pc := 12) 0 dX12_map_12 rfl rfl ?_
    refine u_get hC hw0 (pc := 13) zf12 5 (hE.o12 h0) rfl dX12_map_13 zw713 (kk := fun va7 ta7 fa7 => ?_)
    obtain ⟨a7, ma7, rfl⟩ := ta7
    refine z_iconst hC (pc := 16) (v := 4) dX12_map_16 (by decide) ?_
    refine z_lconst hC (pc := 17) (v := 0) dX12_map_17 (by decide) ?_
    refine z_iconst hC (pc := 18) (v := 0) dX12_map_18 (by decide) ?_
    obtain ⟨q8, hqq8⟩ := hE.o8 ma7
    refine t_callVi hC hw0 (pc := 19) (As := [.int 4, .long 0, .int 0]) (kX8_make l G T κ hst hE ma7) trivial dmX8_make zf8 hqq8 dX12_map_19 zw799 rfl rfl (Nat.le_of_ble_eq_true rfl) (Nat.le_of_ble_eq_true rfl) (Nat.le_of_ble_eq_true rfl) (Nat.le_of_ble_eq_true rfl) (Nat.le_of_ble_eq_true rfl) (fun _ _ _ h => nomatch h) (fun x10 cw9 nw9 w9 hw9 pw9 => ?_)
    obtain ⟨rfl, rfl, kw9⟩ := pw9
    refine z_lvs [] rfl ?_
    exact j22 w9 hw9 (tKeep.tr tKeep.rf kw9 rfl) x10
  · refine z_iconst hC (pc := 8) (v := (-1)) dX12_map_8 (by decide) ?_
    refine z_goto hC (pc := 9) 22 dX12_map_9 (by decide) ?_
    refine z_lvs [] rfl ?_
    exact j22 w0 hw0 tKeep.rf (-1)
set_option maxRecDepth 20000 in
theorem kX12_bean (l : Launch) (G : zG) (T : tT) (κ : Nat → List Nat) (hst : l.stackTraces = false) (hE : tE G T κ) {a0 : Nat} (h0 : a0 ∈ κ 12) : tMi l G T yX12_bean cX12_bean 1 .int [] 3 69 0 0 [.ref a0] uT (uPi 0x4000000000000000000000000000000000000000000000000000000000000018000000000000000000000000000000000000000000000000000000000000000000000000000000000000000000000000000000000000000000000000000000000) := by
  refine tMi.intro hst rfl (Nat.le_of_ble_eq_true rfl) ?_
  intro w0 hw0 _ X hC hR hO hX
  refine z_aload_n hC (pc := 0) 0 dX12_bean_0 rfl rfl ?_
  refine z_iconst hC (pc := 1) (v := 5) dX12_bean_1 (by decide) ?_
  obtain ⟨q3, hqq3⟩ := hE.o12 h0
  refine t_callVi hC hw0 (pc := 2) (As := [.int 5]) (kX12_fromTape l G T κ hst hE h0) trivial dmX12_fromTape zf12 hqq3 dX12_bean_2 zw814 rfl rfl (Nat.le_of_ble_eq_true rfl) (Nat.le_of_ble_eq_true rfl) (Nat.le_of_ble_eq_true rfl) (Nat.le_of_ble_eq_true rfl) (Nat.le_of_ble_eq_true rfl) (fun _ _ _ h => nomatch h) (fun x5 cw4 nw4 w4 hw4 pw4 => ?_)
  obtain ⟨rfl, rfl, kw4⟩ := pw4
  exact hR _ _ _ _ _ _ dX12_bean_5 rfl (Nat.le_of_ble_eq_true rfl) (Nat.le_of_ble_eq_true rfl) ⟨hw4, rfl, rfl, (tKeep.tr tKeep.rf kw4 rfl)⟩
set_option maxRecDepth 20000 in
theorem kX8_is (l : Launch) (G : zG) (T : tT) (κ : Nat → List Nat) (hst : l.stackTraces = false) (hE : tE G T κ) {a0 : Nat} (h0 : a0 ∈ κ 8) {x1 : Int32} {x2 : Int32} : tMi l G T yX8_is cX8_is 3 .boolean [] 1 21 0 0 [.ref a0, .int x1, .int x2] uT (uPz 0x0) := by
  refine tMi.intro hst rfl (Nat.le_of_ble_eq_true rfl) ?_
  intro w0 hw0 _ X hC hR hO hX
  refine z_iload_n hC (pc := 0) 1 dX8_is_0 rfl rfl ?_
  have j29 : ∀ (w5 : va_W), tW T w5 → tKeep 0x0 w0 w5 → ∀ (x6 : Int32), tZ (.int x6) → zS X G 3 w5 [] 0 0 29 [.int x6] := by
    intro w5 hw5 kw5 x6 zx6
    exact hR _ _ _ _ _ _ dX8_is_29 (t_nZ zx6) (Nat.le_of_ble_eq_true rfl) (Nat.le_of_ble_eq_true rfl) ⟨hw5, rfl, rfl, (tKeep.tr tKeep.rf kw5 rfl), zx6⟩
  have j28 : ∀ (w7 : va_W), tW T w7 → tKeep 0x0 w0 w7 → zS X G 3 w7 [] 0 0 28 [] := by
    intro w7 hw7 kw7
    refine z_iconst hC (pc := 28) (v := 0) dX8_is_28 (by decide) ?_
    exact j29 w7 hw7 (tKeep.tr tKeep.rf kw7 rfl) 0 (Or.inl rfl)
  refine z_if_lt hC (pc := 1) 28 dX8_is_1 (by decide) (fun c8 => ?_) (fun c8 => ?_)
  · refine z_lvs [] rfl ?_
    exact j28 w0 hw0 tKeep.rf
  · refine z_iload_n hC (pc := 4) 1 dX8_is_4 rfl rfl ?_
    refine z_aload_n hC (pc := 5) 0 dX8_is_5 rfl rfl ?_
    refine u_get hC hw0 (pc := 6) zf8 7 (hE.o8 h0) rfl dX8_is_6 zw62 (kk := fun vx9 tx9 fx9 => ?_)
    obtain ⟨x9, rfl, nx9⟩ := tx9
    refine z_icmp_ge hC (pc := 9) 28 dX8_is_9 (by decide) (fun c10 => ?_) (fun c10 => ?_)
    · refine z_lvs [] rfl ?_
      exact j28 w0 hw0 tKeep.rf
    · refine z_aload_n hC (pc := 12) 0 dX8_is_12 rfl rfl ?_
      refine u_get hC hw0 (pc := 13) zf8 0 (hE.o8 h0) rfl dX8_is_13 zw47 (kk := fun va11 ta11 fa11 => ?_)
      obtain ⟨a11, ma11, rfl⟩ := ta11
      refine z_iload_n hC (pc := 16) 1 dX8_is_16 rfl rfl ?_
      refine t_callSNi hC hw0 (pc := 17) (As := [.ref a11, .int x1]) (kX12_get l G T κ hst hE ma11) trivial dmX12_get dX8_is_17 zw844 rfl rfl (Nat.le_of_ble_eq_true rfl) (Nat.le_of_ble_eq_true rfl) (Nat.le_of_ble_eq_true rfl) (Nat.le_of_ble_eq_true rfl) (Nat.le_of_ble_eq_true rfl) (fun _ _ _ h => nomatch h) (fun x13 cw12 nw12 w12 hw12 pw12 => ?_)
      obtain ⟨rfl, rfl, kw12⟩ := pw12
      refine z_iload_n hC (pc := 20) 2 dX8_is_20 rfl rfl ?_
      refine z_icmp_ne hC (pc := 21) 28 dX8_is_21 (by decide) (fun c14 => ?_) (fun c14 => ?_)
      · refine z_lvs [] rfl ?_
        exact j28 w12 hw12 (tKeep.tr tKeep.rf kw12 rfl)
      · refine z_iconst hC (pc := 24) (v := 1) dX8_is_24 (by decide) ?_
        refine z_goto hC (pc := 25) 29 dX8_is_25 (by decide) ?_
        refine z_lvs [] rfl ?_
        exact j29 w12 hw12 (tKeep.tr tKeep.rf kw12 rfl) 1 (Or.inr rfl)
set_option maxRecDepth 20000 in
theorem kX8_mayHave (l : Launch) (G : zG) (T : tT) (κ : Nat → List Nat) (hst : l.stackTraces = false) (hE : tE G T κ) {a0 : Nat} (h0 : a0 ∈ κ 8) {x1 : Int32} {x2 : Int32} : tMi l G T yX8_mayHave cX8_mayHave 3 .boolean [] 2 43 0 0 [.ref a0, .int x1, .int x2] uT (uPz 0x0) := by
  refine tMi.intro hst rfl (Nat.le_of_ble_eq_true rfl) ?_
  intro w0 hw0 _ X hC hR hO hX
  refine z_iload_n hC (pc := 0) 2 dX8_mayHave_0 rfl rfl ?_
  refine z_iconst hC (pc := 1) (v := (-1)) dX8_mayHave_1 (by decide) ?_
  have j13 : zS X G 3 w0 [] 0 0 13 [] := by
    refine z_iconst hC (pc := 13) (v := 0) dX8_mayHave_13 (by decide) ?_
    exact hR _ _ _ _ _ _ dX8_mayHave_14 rfl (Nat.le_of_ble_eq_true rfl) (Nat.le_of_ble_eq_true rfl) ⟨hw0, rfl, rfl, tKeep.rf, (Or.inl rfl)⟩
  refine z_icmp_lt hC (pc := 2) 13 dX8_mayHave_2 (by decide) (fun c5 => ?_) (fun c5 => ?_)
  · refine z_lvs [] rfl ?_
    exact j13
  · refine z_iload_n hC (pc := 5) 2 dX8_mayHave_5 rfl rfl ?_
    refine z_aload_n hC (pc := 6) 0 dX8_mayHave_6 rfl rfl ?_
    refine u_get hC hw0 (pc := 7) zf8 7 (hE.o8 h0) rfl dX8_mayHave_7 zw62 (kk := fun vx6 tx6 fx6 => ?_)
    obtain ⟨x6, rfl, nx6⟩ := tx6
    refine z_icmp_lt hC (pc := 10) 15 dX8_mayHave_10 (by decide) (fun c7 => ?_) (fun c7 => ?_)
    · refine z_iload_n hC (pc := 15) 2 dX8_mayHave_15 rfl rfl ?_
      refine z_iload_n hC (pc := 16) 1 dX8_mayHave_16 rfl rfl ?_
      have j34 : ∀ (w8 : va_W), tW T w8 → tKeep 0x0 w0 w8 → ∀ (x9 : Int32), tZ (.int x9) → zS X G 3 w8 [] 0 0 34 [.int x9] := by
        intro w8 hw8 kw8 x9 zx9
        exact hR _ _ _ _ _ _ dX8_mayHave_34 (t_nZ zx9) (Nat.le_of_ble_eq_true rfl) (Nat.le_of_ble_eq_true rfl) ⟨hw8, rfl, rfl, (tKeep.tr tKeep.rf kw8 rfl), zx9⟩
      have j29 : ∀ (w10 : va_W), tW T w10 → tKeep 0x0 w0 w10 → zS X G 3 w10 [] 0 0 29 [] := by
        intro w10 hw10 kw10
        refine z_iconst hC (pc := 29) (v := 1) dX8_mayHave_29 (by decide) ?_
        refine z_goto hC (pc := 30) 34 dX8_mayHave_30 (by decide) ?_
        exact j34 w10 hw10 (tKeep.tr tKeep.rf kw10 rfl) 1 (Or.inr rfl)
      refine z_icmp_lt hC (pc := 17) 29 dX8_mayHave_17 (by decide) (fun c11 => ?_) (fun c11 => ?_)
      · refine z_lvs [] rfl ?_
        exact j29 w0 hw0 tKeep.rf
      · refine z_aload_n hC (pc := 20) 0 dX8_mayHave_20 rfl rfl ?_
        refine z_iload_n hC (pc := 21) 2 dX8_mayHave_21 rfl rfl ?_
        refine z_iconst hC (pc := 22) (v := 5) dX8_mayHave_22 (by decide) ?_
        obtain ⟨q12, hqq12⟩ := hE.o8 h0
        refine t_callVi hC hw0 (pc := 23) (As := [.int x2, .int 5]) (kX8_is l G T κ hst hE h0) trivial dmX8_is zf8 hqq12 dX8_mayHave_23 zw847 rfl rfl (Nat.le_of_ble_eq_true rfl) (Nat.le_of_ble_eq_true rfl) (Nat.le_of_ble_eq_true rfl) (Nat.le_of_ble_eq_true rfl) (Nat.le_of_ble_eq_true rfl) (fun _ _ _ h => nomatch h) (fun x14 cw13 nw13 w13 hw13 pw13 => ?_)
        obtain ⟨rfl, rfl, kw13, zx14⟩ := pw13
        refine z_if_eq hC (pc := 26) 33 dX8_mayHave_26 (by decide) (fun c15 => ?_) (fun c15 => ?_)
        · refine z_iconst hC (pc := 33) (v := 0) dX8_mayHave_33 (by decide) ?_
          refine z_lvs [] rfl ?_
          exact j34 w13 hw13 (tKeep.tr tKeep.rf kw13 rfl) 0 (Or.inl rfl)
        · refine z_lvs [] rfl ?_
          exact j29 w13 hw13 (tKeep.tr tKeep.rf kw13 rfl)
    · refine z_lvs [] rfl ?_
      exact j13
set_option maxRecDepth 20000 in
theorem kX8_append (l : Launch) (G : zG) (T : tT) (κ : Nat → List Nat) (hst : l.stackTraces = false) (hE : tE G T κ) {a0 : Nat} (h0 : a0 ∈ κ 8) {x1 : Int32} {x2 : Int32} : tMi l G T yX8_append cX8_append 4 .boolean [] 3 65 0 0 [.ref a0, .int x1, .int x2] uT (uPz 0x20000000000000000000000000000000000000000000000000000000000000000000000000000000000000000000000000000000000000000000000000000000000) := by
  refine tMi.intro hst rfl (Nat.le_of_ble_eq_true rfl) ?_
  intro w0 hw0 _ X hC hR hO hX
  refine z_aload_n hC (pc := 0) 0 dX8_append_0 rfl rfl ?_
  refine u_get hC hw0 (pc := 1) zf8 4 (hE.o8 h0) rfl dX8_append_1 zw55 (kk := fun va5 ta5 fa5 => ?_)
  obtain ⟨a5, ma5, rfl⟩ := ta5
  refine z_iload_n hC (pc := 4) 1 dX8_append_4 rfl rfl ?_
  refine t_callSNi hC hw0 (pc := 5) (As := [.ref a5, .int x1]) (kX12_get l G T κ hst hE ma5) trivial dmX12_get dX8_append_5 zw844 rfl rfl (Nat.le_of_ble_eq_true rfl) (Nat.le_of_ble_eq_true rfl) (Nat.le_of_ble_eq_true rfl) (Nat.le_of_ble_eq_true rfl) (Nat.le_of_ble_eq_true rfl) (fun _ _ _ h => nomatch h) (fun x7 cw6 nw6 w6 hw6 pw6 => ?_)
  obtain ⟨rfl, rfl, kw6⟩ := pw6
  refine z_istore_n hC (pc := 8) (lv' := [(3, .int x7), (0, .ref a0), (1, .int x1), (2, .int x2)]) dX8_append_8 rfl (by decide) rfl ?_
  refine z_aload_n hC (pc := 9) 1 dX8_append_9 rfl rfl ?_
  refine z_iload_n hC (pc := 10) 2 dX8_append_10 rfl rfl ?_
  refine z_iconst hC (pc := 11) (v := 3) dX8_append_11 (by decide) ?_
  obtain ⟨q8, hqq8⟩ := hE.o8 h0
  refine t_callVi hC hw6 (pc := 12) (As := [.int x1, .int 3]) (kX8_is l G T κ hst hE h0) trivial dmX8_is zf8 hqq8 dX8_append_12 zw847 rfl rfl (Nat.le_of_ble_eq_true rfl) (Nat.le_of_ble_eq_true rfl) (Nat.le_of_ble_eq_true rfl) (Nat.le_of_ble_eq_true rfl) (Nat.le_of_ble_eq_true rfl) (fun _ _ _ h => nomatch h) (fun x10 cw9 nw9 w9 hw9 pw9 => ?_)
  obtain ⟨rfl, rfl, kw9, zx10⟩ := pw9
  have j43 : ∀ (w11 : va_W), tW T w11 → tKeep 0x0 w9 w11 → zS X G 4 w11 [] 0 0 43 [] := by
    intro w11 hw11 kw11
    refine z_iconst hC (pc := 43) (v := 0) dX8_append_43 (by decide) ?_
    exact hR _ _ _ _ _ _ dX8_append_44 rfl (Nat.le_of_ble_eq_true rfl) (Nat.le_of_ble_eq_true rfl) ⟨hw11, rfl, rfl, (tKeep.tr (tKeep.tr (tKeep.tr tKeep.rf kw6 rfl) kw9 rfl) kw11 rfl), (Or.inl rfl)⟩
  refine z_if_eq hC (pc := 15) 43 dX8_append_15 (by decide) (fun c12 => ?_) (fun c12 => ?_)
  · refine z_lvs [] rfl ?_
    exact j43 w9 hw9 tKeep.rf
  · refine z_aload_n hC (pc := 18) 1 dX8_append_18 rfl rfl ?_
    refine z_iload_n hC (pc := 19) 2 dX8_append_19 rfl rfl ?_
    refine z_iload_n hC (pc := 20) 3 dX8_append_20 rfl rfl ?_
    refine t_callVi hC hw9 (pc := 21) (As := [.int x1, .int x2]) (kX8_mayHave l G T κ hst hE h0) trivial dmX8_mayHave zf8 hqq8 dX8_append_21 zw851 rfl rfl (Nat.le_of_ble_eq_true rfl) (Nat.le_of_ble_eq_true rfl) (Nat.le_of_ble_eq_true rfl) (Nat.le_of_ble_eq_true rfl) (Nat.le_of_ble_eq_true rfl) (fun _ _ _ h => nomatch h) (fun x14 cw13 nw13 w13 hw13 pw13 => ?_)
    obtain ⟨rfl, rfl, kw13, zx14⟩ := pw13
    refine z_if_eq hC (pc := 24) 43 dX8_append_24 (by decide) (fun c15 => ?_) (fun c15 => ?_)
    · refine z_lvs [] rfl ?_
      exact j43 w13 hw13 (tKeep.tr tKeep.rf kw13 rfl)
    · refine z_iload_n hC (pc := 27) 0 dX8_append_27 rfl rfl ?_
      refine z_bipush hC (pc := 28) (v := 100) dX8_append_28 (by decide) ?_
      refine z_icmp_ge hC (pc := 30) 43 dX8_append_30 (by decide) (fun c16 => ?_) (fun c16 => ?_)
      · refine z_lvs [] rfl ?_
        exact j43 w13 hw13 (tKeep.tr tKeep.rf kw13 rfl)
      · refine z_aload_n hC (pc := 33) 1 dX8_append_33 rfl rfl ?_
        refine u_get hC hw13 (pc := 34) zf8 9 (hE.o8 h0) rfl dX8_append_34 zw67 (kk := fun vx17 tx17 fx17 => ?_)
        obtain ⟨x17, rfl⟩ := tx17
        refine z_sipush hC (pc := 37) (v := 4000) dX8_append_37 (by decide) ?_
        refine z_icmp_lt hC (pc := 40) 45 dX8_append_40 (by decide) (fun c18 => ?_) (fun c18 => ?_)
        · refine z_aload_n hC (pc := 45) 1 dX8_append_45 rfl rfl ?_
          refine u_get hC hw13 (pc := 46) zf8 5 (hE.o8 h0) rfl dX8_append_46 zw57 (kk := fun va19 ta19 fa19 => ?_)
          obtain ⟨a19, ma19, rfl⟩ := ta19
          refine z_iload_n hC (pc := 49) 2 dX8_append_49 rfl rfl ?_
          refine z_bipush hC (pc := 50) (v := 100) dX8_append_50 (by decide) ?_
          refine z_imul hC (pc := 52) (v := (x1 * 100)) dX8_append_52 rfl ?_
          refine z_iload_n hC (pc := 53) 0 dX8_append_53 rfl rfl ?_
          refine z_iadd hC (pc := 54) (v := ((x1 * 100) + x7)) dX8_append_54 rfl ?_
          refine z_iload_n hC (pc := 55) 3 dX8_append_55 rfl rfl ?_
          refine t_callSNv hC hw13 (pc := 56) (As := [.ref a19, .int ((x1 * 100) + x7), .int x2]) (kX12_set l G T κ hst hE ma19) trivial dmX12_set dX8_append_56 zw803 rfl rfl (Nat.le_of_ble_eq_true rfl) (Nat.le_of_ble_eq_true rfl) (Nat.le_of_ble_eq_true rfl) (Nat.le_of_ble_eq_true rfl) (Nat.le_of_ble_eq_true rfl) (fun _ _ _ h => nomatch h) (fun cw20 nw20 w20 hw20 pw20 => ?_)
          obtain ⟨rfl, rfl, kw20⟩ := pw20
          refine z_aload_n hC (pc := 59) 1 dX8_append_59 rfl rfl ?_
          refine u_getK hC (pc := 60) zf8 4 (tKeep.F kw20 (tKeep.F kw13 (tKeep.F kw9 (tKeep.F kw6 fa5 rfl) rfl) rfl) rfl) dX8_append_60 zw55 (kk := ?_)
          refine z_iload_n hC (pc := 63) 2 dX8_append_63 rfl rfl ?_
          refine z_iload_n hC (pc := 64) 0 dX8_append_64 rfl rfl ?_
          refine z_iconst hC (pc := 65) (v := 1) dX8_append_65 (by decide) ?_
          refine z_iadd hC (pc := 66) (v := (x7 + 1)) dX8_append_66 rfl ?_
          refine t_callSNv hC hw20 (pc := 67) (As := [.ref a5, .int x1, .int (x7 + 1)]) (kX12_set l G T κ hst hE ma5) trivial dmX12_set dX8_append_67 zw803 rfl rfl (Nat.le_of_ble_eq_true rfl) (Nat.le_of_ble_eq_true rfl) (Nat.le_of_ble_eq_true rfl) (Nat.le_of_ble_eq_true rfl) (Nat.le_of_ble_eq_true rfl) (fun _ _ _ h => nomatch h) (fun cw22 nw22 w22 hw22 pw22 => ?_)
          obtain ⟨rfl, rfl, kw22⟩ := pw22
          refine z_aload_n hC (pc := 70) 1 dX8_append_70 rfl rfl ?_
          refine z_dup hC (pc := 71) dX8_append_71 rfl ?_
          refine u_getK hC (pc := 72) zf8 9 (tKeep.F kw22 (tKeep.F kw20 fx17 rfl) rfl) dX8_append_72 zw67 (kk := ?_)
          refine z_iconst hC (pc := 75) (v := 1) dX8_append_75 (by decide) ?_
          refine z_iadd hC (pc := 76) (v := (x17 + 1)) dX8_append_76 rfl ?_
          refine u_put hC hw22 (pc := 77) zf8 9 (hE.o8 h0) rfl ⟨_, rfl⟩ dX8_append_77 zw67 rfl rfl rfl (kk := fun w24 hw24 fw24 kw24 => ?_)
          refine z_iconst hC (pc := 80) (v := 1) dX8_append_80 (by decide) ?_
          exact hR _ _ _ _ _ _ dX8_append_81 rfl (Nat.le_of_ble_eq_true rfl) (Nat.le_of_ble_eq_true rfl) ⟨hw24, rfl, rfl, (tKeep.tr (tKeep.tr (tKeep.tr (tKeep.tr (tKeep.tr (tKeep.tr tKeep.rf kw6 rfl) kw9 rfl) kw13 rfl) kw20 rfl) kw22 rfl) kw24 rfl), (Or.inr rfl)⟩
        · refine z_lvs [] rfl ?_
          exact j43 w13 hw13 (tKeep.tr tKeep.rf kw13 rfl)
set_option maxRecDepth 20000 in
theorem kX12_add (l : Launch) (G : zG) (T : tT) (κ : Nat → List Nat) (hst : l.stackTraces = false) (hE : tE G T κ) {a0 : Nat} (h0 : a0 ∈ κ 12) {x1 : Int32} {x2 : Int32} : tMi l G T yX12_add cX12_add 3 .boolean [] 4 88 0 0 [.ref a0, .int x1, .int x2] uT (uPz 0x20000000000000000000000000000000000000000000000000000000000000000000000000000000000000000000000000000000000000000000000000000000000) := by
  refine tMi.intro hst rfl (Nat.le_of_ble_eq_true rfl) ?_
  intro w0 hw0 _ X hC hR hO hX
  refine z_aload_n hC (pc := 0) 0 dX12_add_0 rfl rfl ?_
  refine u_get hC hw0 (pc := 1) zf12 17 (hE.o12 h0) rfl dX12_add_1 zw725 (kk := fun vx5 tx5 fx5 => ?_)
  obtain ⟨x5, rfl⟩ := tx5
  refine z_iconst hC (pc := 4) (v := 1) dX12_add_4 (by decide) ?_
  have j25 : ∀ (w6 : va_W), tW T w6 → tKeep 0x20000000000000000000000000000000000000000000000000000000000000000000000000000000000000000000000000000000000000000000000000000000000 w0 w6 → ∀ (x7 : Int32), tZ (.int x7) → zS X G 3 w6 [] 0 0 25 [.int x7] := by
    intro w6 hw6 kw6 x7 zx7
    exact hR _ _ _ _ _ _ dX12_add_25 (t_nZ zx7) (Nat.le_of_ble_eq_true rfl) (Nat.le_of_ble_eq_true rfl) ⟨hw6, rfl, rfl, (tKeep.tr tKeep.rf kw6 rfl), zx7⟩
  have j24 : ∀ (w8 : va_W), tW T w8 → tKeep 0x20000000000000000000000000000000000000000000000000000000000000000000000000000000000000000000000000000000000000000000000000000000000 w0 w8 → zS X G 3 w8 [] 0 0 24 [] := by
    intro w8 hw8 kw8
    refine z_iconst hC (pc := 24) (v := 0) dX12_add_24 (by decide) ?_
    exact j25 w8 hw8 (tKeep.tr tKeep.rf kw8 rfl) 0 (Or.inl rfl)
  refine z_icmp_eq hC (pc := 5) 24 dX12_add_5 (by decide) (fun c9 => ?_) (fun c9 => ?_)
  · refine z_lvs [] rfl ?_
    exact j24 w0 hw0 tKeep.rf
  · refine z_aload_n hC (pc := 8) 0 dX12_add_8 rfl rfl ?_
    refine u_get hC hw0 (pc := 9) zf12 5 (hE.o12 h0) rfl dX12_add_9 zw713 (kk := fun va10 ta10 fa10 => ?_)
    obtain ⟨a10, ma10, rfl⟩ := ta10
    refine z_iload_n hC (pc := 12) 1 dX12_add_12 rfl rfl ?_
    refine z_iload_n hC (pc := 13) 2 dX12_add_13 rfl rfl ?_
    obtain ⟨q11, hqq11⟩ := hE.o8 ma10
    refine t_callVi hC hw0 (pc := 14) (As := [.int x1, .int x2]) (kX8_append l G T κ hst hE ma10) trivial dmX8_append zf8 hqq11 dX12_add_14 zw840 rfl rfl (Nat.le_of_ble_eq_true rfl) (Nat.le_of_ble_eq_true rfl) (Nat.le_of_ble_eq_true rfl) (Nat.le_of_ble_eq_true rfl) (Nat.le_of_ble_eq_true rfl) (fun _ _ _ h => nomatch h) (fun x13 cw12 nw12 w12 hw12 pw12 => ?_)
    obtain ⟨rfl, rfl, kw12, zx13⟩ := pw12
    refine z_if_eq hC (pc := 17) 24 dX12_add_17 (by decide) (fun c14 => ?_) (fun c14 => ?_)
    · refine z_lvs [] rfl ?_
      exact j24 w12 hw12 (tKeep.tr tKeep.rf kw12 rfl)
    · refine z_iconst hC (pc := 20) (v := 1) dX12_add_20 (by decide) ?_
      refine z_goto hC (pc := 21) 25 dX12_add_21 (by decide) ?_
      refine z_lvs [] rfl ?_
      exact j25 w12 hw12 (tKeep.tr tKeep.rf kw12 rfl) 1 (Or.inr rfl)
set_option maxRecDepth 20000 in
theorem kX8_keyOf (l : Launch) (G : zG) (T : tT) (κ : Nat → List Nat) (hst : l.stackTraces = false) (hE : tE G T κ) {a0 : Nat} (h0 : a0 ∈ κ 8) {x1 : Int32} {a2 : Nat} (h2 : tRd G κ a2) {x3 : Int32} {x4 : Int32} : tMi l G T yX8_keyOf cX8_keyOf 7 .int [] 1 25 0 0 [.ref a0, .int x1, .ref a2, .int x3, .int x4] uT (uPi 0x0) := by
  refine tMi.intro hst rfl (Nat.le_of_ble_eq_true rfl) ?_
  intro w0 hw0 _ X hC hR hO hX
  refine z_iconst hC (pc := 0) (v := 0) dX8_keyOf_0 (by decide) ?_
  refine z_istore hC (pc := 1) (lv' := [(5, .int 0), (0, .ref a0), (1, .int x1), (2, .ref a2), (3, .int x3), (4, .int x4)]) dX8_keyOf_1 (by decide) rfl ?_
  have j3 : ∀ (d3 : Nat), ∀ (w7 : va_W), tW T w7 → tKeep 0x0 w0 w7 → ∀ (x8 : Int32), ¬ x8 < 0 → (2 ^ 31 - (x8 : Int32).toInt).toNat ≤ d3 → zS X G 7 w7 [(0, .ref a0), (1, .int x1), (2, .ref a2), (3, .int x3), (4, .int x4), (5, .int x8)] 0 0 3 [] := by
    intro d3
    induction d3 with
    | zero => intro w7 hw7 kw7 x8 v9 hd3; exact (t_zero hd3).elim
    | succ d3 ih3 =>
      intro w7 hw7 kw7 x8 v9 hd3
      refine z_iload hC (pc := 3) 5 dX8_keyOf_3 rfl ?_
      refine z_aload_n hC (pc := 5) 0 dX8_keyOf_5 rfl rfl ?_
      refine u_get hC hw7 (pc := 6) zf8 4 (hE.o8 h0) rfl dX8_keyOf_6 zw55 (kk := fun va10 ta10 fa10 => ?_)
      obtain ⟨a10, ma10, rfl⟩ := ta10
      refine z_iload_n hC (pc := 9) 1 dX8_keyOf_9 rfl rfl ?_
      refine t_callSNi hC hw7 (pc := 10) (As := [.ref a10, .int x1]) (kX12_get l G T κ hst hE ma10) trivial dmX12_get dX8_keyOf_10 zw844 rfl rfl (Nat.le_of_ble_eq_true rfl) (Nat.le_of_ble_eq_true rfl) (Nat.le_of_ble_eq_true rfl) (Nat.le_of_ble_eq_true rfl) (Nat.le_of_ble_eq_true rfl) (fun _ _ _ h => nomatch h) (fun x12 cw11 nw11 w11 hw11 pw11 => ?_)
      obtain ⟨rfl, rfl, kw11⟩ := pw11
      refine z_icmp_ge hC (pc := 13) 72 dX8_keyOf_13 (by decide) (fun c13 => ?_) (fun c13 => ?_)
      · refine z_iconst hC (pc := 72) (v := (-1)) dX8_keyOf_72 (by decide) ?_
        exact hR _ _ _ _ _ _ dX8_keyOf_73 rfl (Nat.le_of_ble_eq_true rfl) (Nat.le_of_ble_eq_true rfl) ⟨hw11, rfl, rfl, (tKeep.tr (tKeep.tr tKeep.rf kw7 rfl) kw11 rfl)⟩
      · refine z_aload_n hC (pc := 16) 0 dX8_keyOf_16 rfl rfl ?_
        refine u_get hC hw11 (pc := 17) zf8 5 (hE.o8 h0) rfl dX8_keyOf_17 zw57 (kk := fun va14 ta14 fa14 => ?_)
        obtain ⟨a14, ma14, rfl⟩ := ta14
        refine z_iload_n hC (pc := 20) 1 dX8_keyOf_20 rfl rfl ?_
        refine z_bipush hC (pc := 21) (v := 100) dX8_keyOf_21 (by decide) ?_
        refine z_imul hC (pc := 23) (v := (x1 * 100)) dX8_keyOf_23 rfl ?_
        refine z_bipush hC (pc := 24) (v := 50) dX8_keyOf_24 (by decide) ?_
        refine z_iadd hC (pc := 26) (v := ((x1 * 100) + 50)) dX8_keyOf_26 rfl ?_
        refine z_iload hC (pc := 27) 5 dX8_keyOf_27 rfl ?_
        refine z_iadd hC (pc := 29) (v := (((x1 * 100) + 50) + x8)) dX8_keyOf_29 rfl ?_
        refine t_callSNi hC hw11 (pc := 30) (As := [.ref a14, .int (((x1 * 100) + 50) + x8)]) (kX12_get l G T κ hst hE ma14) trivial dmX12_get dX8_keyOf_30 zw844 rfl rfl (Nat.le_of_ble_eq_true rfl) (Nat.le_of_ble_eq_true rfl) (Nat.le_of_ble_eq_true rfl) (Nat.le_of_ble_eq_true rfl) (Nat.le_of_ble_eq_true rfl) (fun _ _ _ h => nomatch h) (fun x16 cw15 nw15 w15 hw15 pw15 => ?_)
        obtain ⟨rfl, rfl, kw15⟩ := pw15
        refine z_istore hC (pc := 33) (lv' := [(6, .int x16), (0, .ref a0), (1, .int x1), (2, .ref a2), (3, .int x3), (4, .int x4), (5, .int x8)]) dX8_keyOf_33 (by decide) rfl ?_
        refine z_iload hC (pc := 35) 0 dX8_keyOf_35 rfl ?_
        refine z_bipush hC (pc := 37) (v := 31) dX8_keyOf_37 (by decide) ?_
        refine z_iand hC (pc := 39) (v := (x16 &&& 31)) dX8_keyOf_39 rfl ?_
        refine z_iload hC (pc := 40) 5 dX8_keyOf_40 rfl ?_
        have j66 : ∀ (w17 : va_W), tW T w17 → tKeep 0x0 w15 w17 → zS X G 7 w17 [(0, .ref a0), (1, .int x1), (2, .ref a2), (3, .int x3), (4, .int x4), (5, .int x8)] 0 0 66 [] := by
          intro w17 hw17 kw17
          refine z_iinc hC (pc := 66) (v := (x8 + 1)) (lv' := [(5, .int (x8 + 1)), (0, .ref a0), (1, .int x1), (2, .ref a2), (3, .int x3), (4, .int x4)]) 5 dX8_keyOf_66 rfl (congrArg _ (by decide)) (by decide) rfl ?_
          refine z_goto hC (pc := 69) 3 dX8_keyOf_69 (by decide) ?_
          refine z_lvs [1, 2, 3, 4, 5, 0] rfl ?_
          exact ih3 w17 hw17 (tKeep.tr (tKeep.tr (tKeep.tr (tKeep.tr tKeep.rf kw7 rfl) kw11 rfl) kw15 rfl) kw17 rfl) (x8 + 1) (t_nnI v9 (Int32.not_le.mp c13)) (t_up (Int32.not_le.mp c13) hd3)
        refine z_icmp_ne hC (pc := 42) 66 dX8_keyOf_42 (by decide) (fun c18 => ?_) (fun c18 => ?_)
        · refine z_lvs [1, 2, 3, 4, 5, 6] rfl ?_
          exact j66 w15 hw15 tKeep.rf
        · refine z_aload_n hC (pc := 45) 1 dX8_keyOf_45 rfl rfl ?_
          refine u_get hC hw15 (pc := 46) zf8 6 (hE.o8 h0) rfl dX8_keyOf_46 zw60 (kk := fun va19 ta19 fa19 => ?_)
          obtain ⟨a19, ma19, rfl⟩ := ta19
          refine z_iload hC (pc := 49) 0 dX8_keyOf_49 rfl ?_
          refine z_iconst hC (pc := 51) (v := 5) dX8_keyOf_51 (by decide) ?_
          refine z_iushr hC (pc := 52) (v := ((x16 : Int32).toUInt32 >>> ((5 : Int32).toUInt32 &&& Int32.toUInt32 31)).toInt32) dX8_keyOf_52 rfl ?_
          refine z_aload_n hC (pc := 53) 3 dX8_keyOf_53 rfl rfl ?_
          refine z_iload_n hC (pc := 54) 4 dX8_keyOf_54 rfl rfl ?_
          refine z_iload hC (pc := 55) 5 dX8_keyOf_55 rfl ?_
          refine t_callSNi hC hw15 (pc := 57) (As := [.ref a19, .int (((x16 : Int32).toUInt32 >>> ((5 : Int32).toUInt32 &&& Int32.toUInt32 31)).toInt32), .ref a2, .int x3, .int x4]) (kX12_same l G T κ hst hE (Or.inl ma19) h2) trivial dmX12_same dX8_keyOf_57 zw867 rfl rfl (Nat.le_of_ble_eq_true rfl) (Nat.le_of_ble_eq_true rfl) (Nat.le_of_ble_eq_true rfl) (Nat.le_of_ble_eq_true rfl) (Nat.le_of_ble_eq_true rfl) (fun _ _ _ h => nomatch h) (fun x21 cw20 nw20 w20 hw20 pw20 => ?_)
          obtain ⟨rfl, rfl, kw20, zx21⟩ := pw20
          refine z_if_eq hC (pc := 60) 66 dX8_keyOf_60 (by decide) (fun c22 => ?_) (fun c22 => ?_)
          · refine z_lvs [1, 2, 3, 4, 5, 6] rfl ?_
            exact j66 w20 hw20 (tKeep.tr tKeep.rf kw20 rfl)
          · refine z_iload hC (pc := 63) 6 dX8_keyOf_63 rfl ?_
            exact hR _ _ _ _ _ _ dX8_keyOf_65 rfl (Nat.le_of_ble_eq_true rfl) (Nat.le_of_ble_eq_true rfl) ⟨hw20, rfl, rfl, (tKeep.tr (tKeep.tr (tKeep.tr (tKeep.tr tKeep.rf kw7 rfl) kw11 rfl) kw15 rfl) kw20 rfl)⟩
  refine z_lvs [1, 2, 3, 4, 5, 0] rfl ?_
  exact j3 _ w0 hw0 tKeep.rf 0 (by decide) (Nat.le_refl _)
set_option maxRecDepth 20000 in
theorem kX8_setKey (l : Launch) (G : zG) (T : tT) (κ : Nat → List Nat) (hst : l.stackTraces = false) (hE : tE G T κ) {a0 : Nat} (h0 : a0 ∈ κ 8) {x1 : Int32} {x2 : Int32} {a3 : Nat} (h3 : tRd G κ a3) {x4 : Int32} : tMi l G T yX8_setKey cX8_setKey 6 .boolean [] 3 65 0 0 [.ref a0, .int x1, .int x2, .ref a3, .int x4] uT (uPz 0x10000000000000000000000000000000000000000000000000000000000000000000000000000000000000000000000000000000000000000000000000000000000) := by
  refine tMi.intro hst rfl (Nat.le_of_ble_eq_true rfl) ?_
  intro w0 hw0 _ X hC hR hO hX
  refine z_aload_n hC (pc := 0) 0 dX8_setKey_0 rfl rfl ?_
  refine z_iload_n hC (pc := 1) 1 dX8_setKey_1 rfl rfl ?_
  refine z_iconst hC (pc := 2) (v := 4) dX8_setKey_2 (by decide) ?_
  obtain ⟨q7, hqq7⟩ := hE.o8 h0
  refine t_callVi hC hw0 (pc := 3) (As := [.int x1, .int 4]) (kX8_is l G T κ hst hE h0) trivial dmX8_is zf8 hqq7 dX8_setKey_3 zw847 rfl rfl (Nat.le_of_ble_eq_true rfl) (Nat.le_of_ble_eq_true rfl) (Nat.le_of_ble_eq_true rfl) (Nat.le_of_ble_eq_true rfl) (Nat.le_of_ble_eq_true rfl) (fun _ _ _ h => nomatch h) (fun x9 cw8 nw8 w8 hw8 pw8 => ?_)
  obtain ⟨rfl, rfl, kw8, zx9⟩ := pw8
  have j31 : ∀ (w10 : va_W), tW T w10 → tKeep 0x0 w8 w10 → zS X G 6 w10 [] 0 0 31 [] := by
    intro w10 hw10 kw10
    refine z_iconst hC (pc := 31) (v := 0) dX8_setKey_31 (by decide) ?_
    exact hR _ _ _ _ _ _ dX8_setKey_32 rfl (Nat.le_of_ble_eq_true rfl) (Nat.le_of_ble_eq_true rfl) ⟨hw10, rfl, rfl, (tKeep.tr (tKeep.tr tKeep.rf kw8 rfl) kw10 rfl), (Or.inl rfl)⟩
  refine z_if_eq hC (pc := 6) 31 dX8_setKey_6 (by decide) (fun c11 => ?_) (fun c11 => ?_)
  · refine z_lvs [] rfl ?_
    exact j31 w8 hw8 tKeep.rf
  · refine z_aload_n hC (pc := 9) 0 dX8_setKey_9 rfl rfl ?_
    refine z_iload_n hC (pc := 10) 1 dX8_setKey_10 rfl rfl ?_
    refine z_iload_n hC (pc := 11) 2 dX8_setKey_11 rfl rfl ?_
    refine t_callVi hC hw8 (pc := 12) (As := [.int x1, .int x2]) (kX8_mayHave l G T κ hst hE h0) trivial dmX8_mayHave zf8 hqq7 dX8_setKey_12 zw851 rfl rfl (Nat.le_of_ble_eq_true rfl) (Nat.le_of_ble_eq_true rfl) (Nat.le_of_ble_eq_true rfl) (Nat.le_of_ble_eq_true rfl) (Nat.le_of_ble_eq_true rfl) (fun _ _ _ h => nomatch h) (fun x13 cw12 nw12 w12 hw12 pw12 => ?_)
    obtain ⟨rfl, rfl, kw12, zx13⟩ := pw12
    refine z_if_eq hC (pc := 15) 31 dX8_setKey_15 (by decide) (fun c14 => ?_) (fun c14 => ?_)
    · refine z_lvs [] rfl ?_
      exact j31 w12 hw12 (tKeep.tr tKeep.rf kw12 rfl)
    · refine z_iload hC (pc := 18) 4 dX8_setKey_18 rfl ?_
      refine z_iconst hC (pc := 20) (v := 1) dX8_setKey_20 (by decide) ?_
      refine z_icmp_lt hC (pc := 21) 31 dX8_setKey_21 (by decide) (fun c15 => ?_) (fun c15 => ?_)
      · refine z_lvs [] rfl ?_
        exact j31 w12 hw12 (tKeep.tr tKeep.rf kw12 rfl)
      · refine z_iload hC (pc := 24) 4 dX8_setKey_24 rfl ?_
        refine z_bipush hC (pc := 26) (v := 20) dX8_setKey_26 (by decide) ?_
        refine z_icmp_le hC (pc := 28) 33 dX8_setKey_28 (by decide) (fun c16 => ?_) (fun c16 => ?_)
        · refine z_aload_n hC (pc := 33) 0 dX8_setKey_33 rfl rfl ?_
          refine z_iload_n hC (pc := 34) 1 dX8_setKey_34 rfl rfl ?_
          refine z_aload_n hC (pc := 35) 3 dX8_setKey_35 rfl rfl ?_
          refine z_iconst hC (pc := 36) (v := 0) dX8_setKey_36 (by decide) ?_
          refine z_iload hC (pc := 37) 4 dX8_setKey_37 rfl ?_
          refine t_callVi hC hw12 (pc := 39) (As := [.int x1, .ref a3, .int 0, .int x4]) (kX8_keyOf l G T κ hst hE h0 h3) trivial dmX8_keyOf zf8 hqq7 dX8_setKey_39 zw863 rfl rfl (Nat.le_of_ble_eq_true rfl) (Nat.le_of_ble_eq_true rfl) (Nat.le_of_ble_eq_true rfl) (Nat.le_of_ble_eq_true rfl) (Nat.le_of_ble_eq_true rfl) (fun _ _ _ h => nomatch h) (fun x18 cw17 nw17 w17 hw17 pw17 => ?_)
          obtain ⟨rfl, rfl, kw17⟩ := pw17
          refine z_istore hC (pc := 42) (lv' := [(5, .int x18), (0, .ref a0), (1, .int x1), (2, .int x2), (3, .ref a3), (4, .int x4)]) dX8_setKey_42 (by decide) rfl ?_
          refine z_iload hC (pc := 44) 0 dX8_setKey_44 rfl ?_
          refine z_iconst hC (pc := 46) (v := (-1)) dX8_setKey_46 (by decide) ?_
          have j127 : ∀ (w19 : va_W), tW T w19 → tKeep 0x10000000000000000000000000000000000000000000000000000000000000000000000000000000000000000000000000000000000000000000000000000000000 w17 w19 → ∀ (x20 : Int32), zS X G 6 w19 [(0, .ref a0), (1, .int x1), (2, .int x2), (5, .int x20)] 0 0 127 [] := by
            intro w19 hw19 kw19 x20
            refine z_aload_n hC (pc := 127) 0 dX8_setKey_127 rfl rfl ?_
            refine u_get hC hw19 (pc := 128) zf8 5 (hE.o8 h0) rfl dX8_setKey_128 zw57 (kk := fun va21 ta21 fa21 => ?_)
            obtain ⟨a21, ma21, rfl⟩ := ta21
            refine z_iload_n hC (pc := 131) 1 dX8_setKey_131 rfl rfl ?_
            refine z_bipush hC (pc := 132) (v := 100) dX8_setKey_132 (by decide) ?_
            refine z_imul hC (pc := 134) (v := (x1 * 100)) dX8_setKey_134 rfl ?_
            refine z_iload hC (pc := 135) 3 dX8_setKey_135 rfl ?_
            refine z_iadd hC (pc := 137) (v := ((x1 * 100) + x20)) dX8_setKey_137 rfl ?_
            refine z_iload_n hC (pc := 138) 2 dX8_setKey_138 rfl rfl ?_
            refine t_callSNv hC hw19 (pc := 139) (As := [.ref a21, .int ((x1 * 100) + x20), .int x2]) (kX12_set l G T κ hst hE ma21) trivial dmX12_set dX8_setKey_139 zw803 rfl rfl (Nat.le_of_ble_eq_true rfl) (Nat.le_of_ble_eq_true rfl) (Nat.le_of_ble_eq_true rfl) (Nat.le_of_ble_eq_true rfl) (Nat.le_of_ble_eq_true rfl) (fun _ _ _ h => nomatch h) (fun cw22 nw22 w22 hw22 pw22 => ?_)
            obtain ⟨rfl, rfl, kw22⟩ := pw22
            refine z_iconst hC (pc := 142) (v := 1) dX8_setKey_142 (by decide) ?_
            exact hR _ _ _ _ _ _ dX8_setKey_143 rfl (Nat.le_of_ble_eq_true rfl) (Nat.le_of_ble_eq_true rfl) ⟨hw22, rfl, rfl, (tKeep.tr (tKeep.tr (tKeep.tr (tKeep.tr (tKeep.tr tKeep.rf kw8 rfl) kw12 rfl) kw17 rfl) kw19 rfl) kw22 rfl), (Or.inr rfl)⟩
          refine z_icmp_ne hC (pc := 47) 127 dX8_setKey_47 (by decide) (fun c24 => ?_) (fun c24 => ?_)
          · refine z_lvs [1, 2, 3, 0] rfl ?_
            exact j127 w17 hw17 tKeep.rf x18
          · refine z_aload_n hC (pc := 50) 1 dX8_setKey_50 rfl rfl ?_
            refine u_get hC hw17 (pc := 51) zf8 4 (hE.o8 h0) rfl dX8_setKey_51 zw55 (kk := fun va25 ta25 fa25 => ?_)
            obtain ⟨a25, ma25, rfl⟩ := ta25
            refine z_iload_n hC (pc := 54) 2 dX8_setKey_54 rfl rfl ?_
            refine t_callSNi hC hw17 (pc := 55) (As := [.ref a25, .int x1]) (kX12_get l G T κ hst hE ma25) trivial dmX12_get dX8_setKey_55 zw844 rfl rfl (Nat.le_of_ble_eq_true rfl) (Nat.le_of_ble_eq_true rfl) (Nat.le_of_ble_eq_true rfl) (Nat.le_of_ble_eq_true rfl) (Nat.le_of_ble_eq_true rfl) (fun _ _ _ h => nomatch h) (fun x27 cw26 nw26 w26 hw26 pw26 => ?_)
            obtain ⟨rfl, rfl, kw26⟩ := pw26
            refine z_istore hC (pc := 58) (lv' := [(5, .int x27), (0, .ref a0), (1, .int x1), (2, .int x2), (3, .ref a3), (4, .int x4)]) dX8_setKey_58 (by decide) rfl ?_
            refine z_iload hC (pc := 60) 0 dX8_setKey_60 rfl ?_
            refine z_bipush hC (pc := 62) (v := 50) dX8_setKey_62 (by decide) ?_
            have j80 : zS X G 6 w26 [] 0 0 80 [] := by
              refine z_iconst hC (pc := 80) (v := 0) dX8_setKey_80 (by decide) ?_
              exact hR _ _ _ _ _ _ dX8_setKey_81 rfl (Nat.le_of_ble_eq_true rfl) (Nat.le_of_ble_eq_true rfl) ⟨hw26, rfl, rfl, (tKeep.tr (tKeep.tr (tKeep.tr (tKeep.tr tKeep.rf kw8 rfl) kw12 rfl) kw17 rfl) kw26 rfl), (Or.inl rfl)⟩
            refine z_icmp_ge hC (pc := 64) 80 dX8_setKey_64 (by decide) (fun c28 => ?_) (fun c28 => ?_)
            · refine z_lvs [] rfl ?_
              exact j80
            · refine z_aload_n hC (pc := 67) 1 dX8_setKey_67 rfl rfl ?_
              refine u_get hC hw26 (pc := 68) zf8 8 (hE.o8 h0) rfl dX8_setKey_68 zw65 (kk := fun vx29 tx29 fx29 => ?_)
              obtain ⟨x29, rfl⟩ := tx29
              refine z_iload hC (pc := 71) 5 dX8_setKey_71 rfl ?_
              refine z_iadd hC (pc := 73) (v := (x29 + x4)) dX8_setKey_73 rfl ?_
              refine z_sipush hC (pc := 74) (v := 16000) dX8_setKey_74 (by decide) ?_
              refine z_icmp_le hC (pc := 77) 82 dX8_setKey_77 (by decide) (fun c30 => ?_) (fun c30 => ?_)
              · refine z_aload_n hC (pc := 82) 1 dX8_setKey_82 rfl rfl ?_
                refine u_get hC hw26 (pc := 83) zf8 5 (hE.o8 h0) rfl dX8_setKey_83 zw57 (kk := fun va31 ta31 fa31 => ?_)
                obtain ⟨a31, ma31, rfl⟩ := ta31
                refine z_iload_n hC (pc := 86) 2 dX8_setKey_86 rfl rfl ?_
                refine z_bipush hC (pc := 87) (v := 100) dX8_setKey_87 (by decide) ?_
                refine z_imul hC (pc := 89) (v := (x1 * 100)) dX8_setKey_89 rfl ?_
                refine z_bipush hC (pc := 90) (v := 50) dX8_setKey_90 (by decide) ?_
                refine z_iadd hC (pc := 92) (v := ((x1 * 100) + 50)) dX8_setKey_92 rfl ?_
                refine z_iload hC (pc := 93) 0 dX8_setKey_93 rfl ?_
                refine z_iadd hC (pc := 95) (v := (((x1 * 100) + 50) + x27)) dX8_setKey_95 rfl ?_
                refine z_aload_n hC (pc := 96) 1 dX8_setKey_96 rfl rfl ?_
                refine u_getK hC (pc := 97) zf8 8 fx29 dX8_setKey_97 zw65 (kk := ?_)
                refine z_iconst hC (pc := 100) (v := 5) dX8_setKey_100 (by decide) ?_
                refine z_ishl hC (pc := 101) (v := (x29 <<< (5 &&& 31))) dX8_setKey_101 rfl ?_
                refine z_iload hC (pc := 102) 5 dX8_setKey_102 rfl ?_
                refine z_ior hC (pc := 104) (v := ((x29 <<< (5 &&& 31)) ||| x4)) dX8_setKey_104 rfl ?_
                refine t_callSNv hC hw26 (pc := 105) (As := [.ref a31, .int (((x1 * 100) + 50) + x27), .int ((x29 <<< (5 &&& 31)) ||| x4)]) (kX12_set l G T κ hst hE ma31) trivial dmX12_set dX8_setKey_105 zw803 rfl rfl (Nat.le_of_ble_eq_true rfl) (Nat.le_of_ble_eq_true rfl) (Nat.le_of_ble_eq_true rfl) (Nat.le_of_ble_eq_true rfl) (Nat.le_of_ble_eq_true rfl) (fun _ _ _ h => nomatch h) (fun cw32 nw32 w32 hw32 pw32 => ?_)
                obtain ⟨rfl, rfl, kw32⟩ := pw32
                refine z_aload_n hC (pc := 108) 1 dX8_setKey_108 rfl rfl ?_
                refine z_aload_n hC (pc := 109) 4 dX8_setKey_109 rfl rfl ?_
                refine z_iload hC (pc := 110) 5 dX8_setKey_110 rfl ?_
                refine t_callVv hC hw32 (pc := 112) (As := [.ref a3, .int x4]) (kX8_takeBytes l G T κ hst hE h0 h3) trivial dmX8_takeBytes zf8 hqq7 dX8_setKey_112 zw870 rfl rfl (Nat.le_of_ble_eq_true rfl) (Nat.le_of_ble_eq_true rfl) (Nat.le_of_ble_eq_true rfl) (Nat.le_of_ble_eq_true rfl) (Nat.le_of_ble_eq_true rfl) (fun _ _ _ h => nomatch h) (fun cw34 nw34 w34 hw34 pw34 => ?_)
                obtain ⟨rfl, rfl, kw34⟩ := pw34
                refine z_aload_n hC (pc := 115) 1 dX8_setKey_115 rfl rfl ?_
                refine u_getK hC (pc := 116) zf8 4 (tKeep.F kw34 (tKeep.F kw32 (tKeep.F kw26 fa25 rfl) rfl) rfl) dX8_setKey_116 zw55 (kk := ?_)
                refine z_iload_n hC (pc := 119) 2 dX8_setKey_119 rfl rfl ?_
                refine z_iload hC (pc := 120) 0 dX8_setKey_120 rfl ?_
                refine z_iconst hC (pc := 122) (v := 1) dX8_setKey_122 (by decide) ?_
                refine z_iadd hC (pc := 123) (v := (x27 + 1)) dX8_setKey_123 rfl ?_
                refine t_callSNv hC hw34 (pc := 124) (As := [.ref a25, .int x1, .int (x27 + 1)]) (kX12_set l G T κ hst hE ma25) trivial dmX12_set dX8_setKey_124 zw803 rfl rfl (Nat.le_of_ble_eq_true rfl) (Nat.le_of_ble_eq_true rfl) (Nat.le_of_ble_eq_true rfl) (Nat.le_of_ble_eq_true rfl) (Nat.le_of_ble_eq_true rfl) (fun _ _ _ h => nomatch h) (fun cw36 nw36 w36 hw36 pw36 => ?_)
                obtain ⟨rfl, rfl, kw36⟩ := pw36
                refine z_lvs [1, 2, 3, 0] rfl ?_
                exact j127 w36 hw36 (tKeep.tr (tKeep.tr (tKeep.tr (tKeep.tr tKeep.rf kw26 rfl) kw32 rfl) kw34 rfl) kw36 rfl) x27
              · refine z_lvs [] rfl ?_
                exact j80
        · refine z_lvs [] rfl ?_
          exact j31 w12 hw12 (tKeep.tr tKeep.rf kw12 rfl)
set_option maxRecDepth 20000 in
theorem kX12_entry (l : Launch) (G : zG) (T : tT) (κ : Nat → List Nat) (hst : l.stackTraces = false) (hE : tE G T κ) {a0 : Nat} (h0 : a0 ∈ κ 12) {x1 : Int32} {x2 : Int32} : tMi l G T yX12_entry cX12_entry 4 .boolean [] 4 90 0 0 [.ref a0, .int x1, .int x2] uT (uPz 0x4000000000000000000000000000000000000000000000000000000000000010000000000000000000000000000000000000000000000000000000000000000000000000000000000000000000000000000000000000000000000000000000000) := by
  refine tMi.intro hst rfl (Nat.le_of_ble_eq_true rfl) ?_
  intro w0 hw0 _ X hC hR hO hX
  refine z_aload_n hC (pc := 0) 0 dX12_entry_0 rfl rfl ?_
  refine u_get hC hw0 (pc := 1) zf12 2 (hE.o12 h0) rfl dX12_entry_1 zw710 (kk := fun vx5 tx5 fx5 => ?_)
  obtain ⟨x5, rfl⟩ := tx5
  refine z_istore_n hC (pc := 4) (lv' := [(3, .int x5), (0, .ref a0), (1, .int x1), (2, .int x2)]) dX12_entry_4 rfl (by decide) rfl ?_
  refine z_aload_n hC (pc := 5) 1 dX12_entry_5 rfl rfl ?_
  refine z_iconst hC (pc := 6) (v := 0) dX12_entry_6 (by decide) ?_
  refine u_put hC hw0 (pc := 7) zf12 2 (hE.o12 h0) rfl ⟨_, rfl⟩ dX12_entry_7 zw710 rfl rfl rfl (kk := fun w6 hw6 fw6 kw6 => ?_)
  refine z_aload_n hC (pc := 10) 1 dX12_entry_10 rfl rfl ?_
  refine u_get hC hw6 (pc := 11) zf12 17 (hE.o12 h0) rfl dX12_entry_11 zw725 (kk := fun vx7 tx7 fx7 => ?_)
  obtain ⟨x7, rfl⟩ := tx7
  refine z_iconst hC (pc := 14) (v := 1) dX12_entry_14 (by decide) ?_
  have j40 : ∀ (w8 : va_W), tW T w8 → tKeep 0x10000000000000000000000000000000000000000000000000000000000000000000000000000000000000000000000000000000000000000000000000000000000 w6 w8 → ∀ (x9 : Int32), tZ (.int x9) → zS X G 4 w8 [] 0 0 40 [.int x9] := by
    intro w8 hw8 kw8 x9 zx9
    exact hR _ _ _ _ _ _ dX12_entry_40 (t_nZ zx9) (Nat.le_of_ble_eq_true rfl) (Nat.le_of_ble_eq_true rfl) ⟨hw8, rfl, rfl, (tKeep.tr (tKeep.tr tKeep.rf kw6 rfl) kw8 rfl), zx9⟩
  have j39 : ∀ (w10 : va_W), tW T w10 → tKeep 0x10000000000000000000000000000000000000000000000000000000000000000000000000000000000000000000000000000000000000000000000000000000000 w6 w10 → zS X G 4 w10 [] 0 0 39 [] := by
    intro w10 hw10 kw10
    refine z_iconst hC (pc := 39) (v := 0) dX12_entry_39 (by decide) ?_
    exact j40 w10 hw10 (tKeep.tr tKeep.rf kw10 rfl) 0 (Or.inl rfl)
  refine z_icmp_eq hC (pc := 15) 39 dX12_entry_15 (by decide) (fun c11 => ?_) (fun c11 => ?_)
  · refine z_lvs [] rfl ?_
    exact j39 w6 hw6 tKeep.rf
  · refine z_aload_n hC (pc := 18) 1 dX12_entry_18 rfl rfl ?_
    refine u_get hC hw6 (pc := 19) zf12 5 (hE.o12 h0) rfl dX12_entry_19 zw713 (kk := fun va12 ta12 fa12 => ?_)
    obtain ⟨a12, ma12, rfl⟩ := ta12
    refine z_iload_n hC (pc := 22) 2 dX12_entry_22 rfl rfl ?_
    refine z_iload_n hC (pc := 23) 3 dX12_entry_23 rfl rfl ?_
    refine z_aload_n hC (pc := 24) 1 dX12_entry_24 rfl rfl ?_
    refine u_get hC hw6 (pc := 25) zf12 1 (hE.o12 h0) rfl dX12_entry_25 zw709 (kk := fun va13 ta13 fa13 => ?_)
    obtain ⟨a13, ma13, rfl⟩ := ta13
    refine z_iload_n hC (pc := 28) 0 dX12_entry_28 rfl rfl ?_
    obtain ⟨q14, hqq14⟩ := hE.o8 ma12
    refine t_callVi hC hw6 (pc := 29) (As := [.int x1, .int x2, .ref a13, .int x5]) (kX8_setKey l G T κ hst hE ma12 (Or.inl ma13)) trivial dmX8_setKey zf8 hqq14 dX12_entry_29 zw859 rfl rfl (Nat.le_of_ble_eq_true rfl) (Nat.le_of_ble_eq_true rfl) (Nat.le_of_ble_eq_true rfl) (Nat.le_of_ble_eq_true rfl) (Nat.le_of_ble_eq_true rfl) (fun _ _ _ h => nomatch h) (fun x16 cw15 nw15 w15 hw15 pw15 => ?_)
    obtain ⟨rfl, rfl, kw15, zx16⟩ := pw15
    refine z_if_eq hC (pc := 32) 39 dX12_entry_32 (by decide) (fun c17 => ?_) (fun c17 => ?_)
    · refine z_lvs [] rfl ?_
      exact j39 w15 hw15 (tKeep.tr tKeep.rf kw15 rfl)
    · refine z_iconst hC (pc := 35) (v := 1) dX12_entry_35 (by decide) ?_
      refine z_goto hC (pc := 36) 40 dX12_entry_36 (by decide) ?_
      refine z_lvs [] rfl ?_
      exact j40 w15 hw15 (tKeep.tr tKeep.rf kw15 rfl) 1 (Or.inr rfl)
set_option maxRecDepth 20000 in
theorem kX8_propertyOf (l : Launch) (G : zG) (T : tT) (κ : Nat → List Nat) (hst : l.stackTraces = false) (hE : tE G T κ) {a0 : Nat} (h0 : a0 ∈ κ 8) {x1 : Int32} {x2 : Int32} {a3 : Nat} (h3 : tRd G κ a3) {x4 : Int32} {x5 : Int32} : tMi l G T yX8_propertyOf cX8_propertyOf 8 .int [] 1 25 0 0 [.ref a0, .int x1, .int x2, .ref a3, .int x4, .int x5] uT (uPi 0x0) := by
  refine tMi.intro hst rfl (Nat.le_of_ble_eq_true rfl) ?_
  intro w0 hw0 _ X hC hR hO hX
  refine z_iconst hC (pc := 0) (v := 0) dX8_propertyOf_0 (by decide) ?_
  refine z_istore hC (pc := 1) (lv' := [(6, .int 0), (0, .ref a0), (1, .int x1), (2, .int x2), (3, .ref a3), (4, .int x4), (5, .int x5)]) dX8_propertyOf_1 (by decide) rfl ?_
  have j3 : ∀ (d3 : Nat), ∀ (w8 : va_W), tW T w8 → tKeep 0x0 w0 w8 → ∀ (x9 : Int32), ¬ x9 < 0 → (2 ^ 31 - (x9 : Int32).toInt).toNat ≤ d3 → zS X G 8 w8 [(0, .ref a0), (1, .int x1), (2, .int x2), (3, .ref a3), (4, .int x4), (5, .int x5), (6, .int x9)] 0 0 3 [] := by
    intro d3
    induction d3 with
    | zero => intro w8 hw8 kw8 x9 v10 hd3; exact (t_zero hd3).elim
    | succ d3 ih3 =>
      intro w8 hw8 kw8 x9 v10 hd3
      refine z_iload hC (pc := 3) 6 dX8_propertyOf_3 rfl ?_
      refine z_aload_n hC (pc := 5) 0 dX8_propertyOf_5 rfl rfl ?_
      refine u_get hC hw8 (pc := 6) zf8 4 (hE.o8 h0) rfl dX8_propertyOf_6 zw55 (kk := fun va11 ta11 fa11 => ?_)
      obtain ⟨a11, ma11, rfl⟩ := ta11
      refine z_iload_n hC (pc := 9) 1 dX8_propertyOf_9 rfl rfl ?_
      refine t_callSNi hC hw8 (pc := 10) (As := [.ref a11, .int x1]) (kX12_get l G T κ hst hE ma11) trivial dmX12_get dX8_propertyOf_10 zw844 rfl rfl (Nat.le_of_ble_eq_true rfl) (Nat.le_of_ble_eq_true rfl) (Nat.le_of_ble_eq_true rfl) (Nat.le_of_ble_eq_true rfl) (Nat.le_of_ble_eq_true rfl) (fun _ _ _ h => nomatch h) (fun x13 cw12 nw12 w12 hw12 pw12 => ?_)
      obtain ⟨rfl, rfl, kw12⟩ := pw12
      refine z_icmp_ge hC (pc := 13) 94 dX8_propertyOf_13 (by decide) (fun c14 => ?_) (fun c14 => ?_)
      · refine z_iconst hC (pc := 94) (v := (-1)) dX8_propertyOf_94 (by decide) ?_
        exact hR _ _ _ _ _ _ dX8_propertyOf_95 rfl (Nat.le_of_ble_eq_true rfl) (Nat.le_of_ble_eq_true rfl) ⟨hw12, rfl, rfl, (tKeep.tr (tKeep.tr tKeep.rf kw8 rfl) kw12 rfl)⟩
      · refine z_aload_n hC (pc := 16) 0 dX8_propertyOf_16 rfl rfl ?_
        refine u_get hC hw12 (pc := 17) zf8 5 (hE.o8 h0) rfl dX8_propertyOf_17 zw57 (kk := fun va15 ta15 fa15 => ?_)
        obtain ⟨a15, ma15, rfl⟩ := ta15
        refine z_iload_n hC (pc := 20) 1 dX8_propertyOf_20 rfl rfl ?_
        refine z_bipush hC (pc := 21) (v := 100) dX8_propertyOf_21 (by decide) ?_
        refine z_imul hC (pc := 23) (v := (x1 * 100)) dX8_propertyOf_23 rfl ?_
        refine z_iconst hC (pc := 24) (v := 3) dX8_propertyOf_24 (by decide) ?_
        refine z_iload hC (pc := 25) 6 dX8_propertyOf_25 rfl ?_
        refine z_imul hC (pc := 27) (v := ((3 : Int32) * x9)) dX8_propertyOf_27 rfl ?_
        refine z_iadd hC (pc := 28) (v := ((x1 * 100) + ((3 : Int32) * x9))) dX8_propertyOf_28 rfl ?_
        refine t_callSNi hC hw12 (pc := 29) (As := [.ref a15, .int ((x1 * 100) + ((3 : Int32) * x9))]) (kX12_get l G T κ hst hE ma15) trivial dmX12_get dX8_propertyOf_29 zw844 rfl rfl (Nat.le_of_ble_eq_true rfl) (Nat.le_of_ble_eq_true rfl) (Nat.le_of_ble_eq_true rfl) (Nat.le_of_ble_eq_true rfl) (Nat.le_of_ble_eq_true rfl) (fun _ _ _ h => nomatch h) (fun x17 cw16 nw16 w16 hw16 pw16 => ?_)
        obtain ⟨rfl, rfl, kw16⟩ := pw16
        refine z_istore hC (pc := 32) (lv' := [(7, .int x17), (0, .ref a0), (1, .int x1), (2, .int x2), (3, .ref a3), (4, .int x4), (5, .int x5), (6, .int x9)]) dX8_propertyOf_32 (by decide) rfl ?_
        refine z_aload_n hC (pc := 34) 1 dX8_propertyOf_34 rfl rfl ?_
        refine u_getK hC (pc := 35) zf8 5 (tKeep.F kw16 fa15 rfl) dX8_propertyOf_35 zw57 (kk := ?_)
        refine z_iload_n hC (pc := 38) 2 dX8_propertyOf_38 rfl rfl ?_
        refine z_bipush hC (pc := 39) (v := 100) dX8_propertyOf_39 (by decide) ?_
        refine z_imul hC (pc := 41) (v := (x1 * 100)) dX8_propertyOf_41 rfl ?_
        refine z_iconst hC (pc := 42) (v := 3) dX8_propertyOf_42 (by decide) ?_
        refine z_iload hC (pc := 43) 7 dX8_propertyOf_43 rfl ?_
        refine z_imul hC (pc := 45) (v := ((3 : Int32) * x9)) dX8_propertyOf_45 rfl ?_
        refine z_iadd hC (pc := 46) (v := ((x1 * 100) + ((3 : Int32) * x9))) dX8_propertyOf_46 rfl ?_
        refine z_iconst hC (pc := 47) (v := 1) dX8_propertyOf_47 (by decide) ?_
        refine z_iadd hC (pc := 48) (v := (((x1 * 100) + ((3 : Int32) * x9)) + 1)) dX8_propertyOf_48 rfl ?_
        refine t_callSNi hC hw16 (pc := 49) (As := [.ref a15, .int (((x1 * 100) + ((3 : Int32) * x9)) + 1)]) (kX12_get l G T κ hst hE ma15) trivial dmX12_get dX8_propertyOf_49 zw844 rfl rfl (Nat.le_of_ble_eq_true rfl) (Nat.le_of_ble_eq_true rfl) (Nat.le_of_ble_eq_true rfl) (Nat.le_of_ble_eq_true rfl) (Nat.le_of_ble_eq_true rfl) (fun _ _ _ h => nomatch h) (fun x19 cw18 nw18 w18 hw18 pw18 => ?_)
        obtain ⟨rfl, rfl, kw18⟩ := pw18
        refine z_iload_n hC (pc := 52) 3 dX8_propertyOf_52 rfl rfl ?_
        have j88 : ∀ (w20 : va_W), tW T w20 → tKeep 0x0 w18 w20 → zS X G 8 w20 [(0, .ref a0), (1, .int x1), (2, .int x2), (3, .ref a3), (4, .int x4), (5, .int x5), (6, .int x9)] 0 0 88 [] := by
          intro w20 hw20 kw20
          refine z_iinc hC (pc := 88) (v := (x9 + 1)) (lv' := [(6, .int (x9 + 1)), (0, .ref a0), (1, .int x1), (2, .int x2), (3, .ref a3), (4, .int x4), (5, .int x5)]) 6 dX8_propertyOf_88 rfl (congrArg _ (by decide)) (by decide) rfl ?_
          refine z_goto hC (pc := 91) 3 dX8_propertyOf_91 (by decide) ?_
          refine z_lvs [1, 2, 3, 4, 5, 6, 0] rfl ?_
          exact ih3 w20 hw20 (tKeep.tr (tKeep.tr (tKeep.tr (tKeep.tr (tKeep.tr tKeep.rf kw8 rfl) kw12 rfl) kw16 rfl) kw18 rfl) kw20 rfl) (x9 + 1) (t_nnI v10 (Int32.not_le.mp c14)) (t_up (Int32.not_le.mp c14) hd3)
        refine z_icmp_ne hC (pc := 53) 88 dX8_propertyOf_53 (by decide) (fun c21 => ?_) (fun c21 => ?_)
        · refine z_lvs [1, 2, 3, 4, 5, 6, 7] rfl ?_
          exact j88 w18 hw18 tKeep.rf
        · refine z_iload hC (pc := 56) 0 dX8_propertyOf_56 rfl ?_
          refine z_bipush hC (pc := 58) (v := 31) dX8_propertyOf_58 (by decide) ?_
          refine z_iand hC (pc := 60) (v := (x17 &&& 31)) dX8_propertyOf_60 rfl ?_
          refine z_iload hC (pc := 61) 6 dX8_propertyOf_61 rfl ?_
          refine z_icmp_ne hC (pc := 63) 88 dX8_propertyOf_63 (by decide) (fun c22 => ?_) (fun c22 => ?_)
          · refine z_lvs [1, 2, 3, 4, 5, 6, 7] rfl ?_
            exact j88 w18 hw18 tKeep.rf
          · refine z_aload_n hC (pc := 66) 1 dX8_propertyOf_66 rfl rfl ?_
            refine u_get hC hw18 (pc := 67) zf8 6 (hE.o8 h0) rfl dX8_propertyOf_67 zw60 (kk := fun va23 ta23 fa23 => ?_)
            obtain ⟨a23, ma23, rfl⟩ := ta23
            refine z_iload hC (pc := 70) 0 dX8_propertyOf_70 rfl ?_
            refine z_iconst hC (pc := 72) (v := 5) dX8_propertyOf_72 (by decide) ?_
            refine z_iushr hC (pc := 73) (v := ((x17 : Int32).toUInt32 >>> ((5 : Int32).toUInt32 &&& Int32.toUInt32 31)).toInt32) dX8_propertyOf_73 rfl ?_
            refine z_aload_n hC (pc := 74) 4 dX8_propertyOf_74 rfl rfl ?_
            refine z_iload hC (pc := 75) 5 dX8_propertyOf_75 rfl ?_
            refine z_iload hC (pc := 77) 6 dX8_propertyOf_77 rfl ?_
            refine t_callSNi hC hw18 (pc := 79) (As := [.ref a23, .int (((x17 : Int32).toUInt32 >>> ((5 : Int32).toUInt32 &&& Int32.toUInt32 31)).toInt32), .ref a3, .int x4, .int x5]) (kX12_same l G T κ hst hE (Or.inl ma23) h3) trivial dmX12_same dX8_propertyOf_79 zw867 rfl rfl (Nat.le_of_ble_eq_true rfl) (Nat.le_of_ble_eq_true rfl) (Nat.le_of_ble_eq_true rfl) (Nat.le_of_ble_eq_true rfl) (Nat.le_of_ble_eq_true rfl) (fun _ _ _ h => nomatch h) (fun x25 cw24 nw24 w24 hw24 pw24 => ?_)
            obtain ⟨rfl, rfl, kw24, zx25⟩ := pw24
            refine z_if_eq hC (pc := 82) 88 dX8_propertyOf_82 (by decide) (fun c26 => ?_) (fun c26 => ?_)
            · refine z_lvs [1, 2, 3, 4, 5, 6, 7] rfl ?_
              exact j88 w24 hw24 (tKeep.tr tKeep.rf kw24 rfl)
            · refine z_iload hC (pc := 85) 7 dX8_propertyOf_85 rfl ?_
              exact hR _ _ _ _ _ _ dX8_propertyOf_87 rfl (Nat.le_of_ble_eq_true rfl) (Nat.le_of_ble_eq_true rfl) ⟨hw24, rfl, rfl, (tKeep.tr (tKeep.tr (tKeep.tr (tKeep.tr (tKeep.tr tKeep.rf kw8 rfl) kw12 rfl) kw16 rfl) kw18 rfl) kw24 rfl)⟩
  refine z_lvs [1, 2, 3, 4, 5, 6, 0] rfl ?_
  exact j3 _ w0 hw0 tKeep.rf 0 (by decide) (Nat.le_refl _)
