theorem zw774 : Cond.methodLink "TemplateHouse" 105 ⟨"TemplateHouse", "setByte", "([BII)V"⟩ ∈ zT := zsub4 54 (by decide +kernel) (by decide +kernel)
theorem zw770 : Cond.methodLink "TemplateHouse" 101 ⟨"TemplateHouse", "fourReady", "(II)V"⟩ ∈ zT := zsub4 50 (by decide +kernel) (by decide +kernel)
theorem zw2468 : Cond.fieldLink "TemplateHouseModel" 806 "TemplateHouseModel" "thrown" "I" ∈ zT := zsub11 68 (by decide +kernel) (by decide +kernel)
theorem zw2478 : Cond.fieldLink "TemplateHouseModel" 248 "TemplateHouseModel" "fault" "I" ∈ zT := zsub11 78 (by decide +kernel) (by decide +kernel)
theorem zw803 : Cond.methodLinkNest "TemplateHouse$Store" 66 ⟨"TemplateHouse", "set", "([III)V"⟩ "TemplateHouse" ∈ zNest := zsubN4 83 (by decide +kernel) (by decide +kernel)
theorem zw799 : Cond.methodLink "TemplateHouse" 165 ⟨"TemplateHouse$Store", "make", "(IJI)I"⟩ ∈ zT := zsub4 79 (by decide +kernel) (by decide +kernel)
theorem zw2510 : Cond.fieldLink "TemplateHouseModel" 797 "TemplateHouseModel" "values" "I" ∈ zT := zsub11 110 (by decide +kernel) (by decide +kernel)
theorem zw2512 : Cond.fieldLink "TemplateHouseModel" 800 "TemplateHouseModel" "kept" "I" ∈ zT := zsub11 112 (by decide +kernel) (by decide +kernel)
theorem zw2535 : Cond.fieldLink "TemplateHouseModel" 794 "TemplateHouseModel" "state" "I" ∈ zT := zsub11 135 (by decide +kernel) (by decide +kernel)
theorem zw2893 : Cond.methodLink "TemplateHouseModel" 803 ⟨"TemplateHouseModel", "isMade", "()Z"⟩ ∈ zT := zsub13 13 (by decide +kernel) (by decide +kernel)
theorem zw2889 : Cond.methodLink "TemplateHouseModel" 809 ⟨"TemplateHouseModel", "newValue", "(II)I"⟩ ∈ zT := zsub13 9 (by decide +kernel) (by decide +kernel)
theorem zw818 : Cond.methodLink "TemplateHouse" 173 ⟨"TemplateHouse$Store", "takeBytes", "([BI)V"⟩ ∈ zT := zsub4 98 (by decide +kernel) (by decide +kernel)
theorem zw814 : Cond.methodLink "TemplateHouse" 169 ⟨"TemplateHouse", "fromTape", "(I)I"⟩ ∈ zT := zsub4 94 (by decide +kernel) (by decide +kernel)
theorem zw2471 : Cond.fieldLink "TemplateHouseModel" 788 "TemplateHouseModel" "taped" "I" ∈ zT := zsub11 71 (by decide +kernel) (by decide +kernel)
theorem zw2533 : Cond.fieldLink "TemplateHouseModel" 791 "TemplateHouseModel" "took" "I" ∈ zT := zsub11 133 (by decide +kernel) (by decide +kernel)
theorem zw2905 : Cond.methodLink "TemplateHouseModel" 812 ⟨"TemplateHouseModel", "take", "()V"⟩ ∈ zT := zsub13 25 (by decide +kernel) (by decide +kernel)
theorem zw76 : Cond.fieldLink "TemplateHouse" 193 "TemplateHouse$Store" "addedCount" "I" ∈ zT := zsub1 76 (by decide +kernel) (by decide +kernel)
theorem zw2527 : Cond.fieldLink "TemplateHouseModel" 830 "TemplateHouseModel" "added" "I" ∈ zT := zsub11 127 (by decide +kernel) (by decide +kernel)
theorem zw844 : Cond.methodLinkNest "TemplateHouse$Store" 70 ⟨"TemplateHouse", "get", "([II)I"⟩ "TemplateHouse" ∈ zNest := zsubN4 124 (by decide +kernel) (by decide +kernel)
theorem zw847 : Cond.methodLink "TemplateHouse$Store" 82 ⟨"TemplateHouse$Store", "is", "(II)Z"⟩ ∈ zT := zsub4 127 (by decide +kernel) (by decide +kernel)
theorem zw840 : Cond.methodLink "TemplateHouse" 177 ⟨"TemplateHouse$Store", "append", "(II)Z"⟩ ∈ zT := zsub4 120 (by decide +kernel) (by decide +kernel)
theorem zw2925 : Cond.methodLink "TemplateHouseModel" 815 ⟨"TemplateHouseModel", "isValue", "(II)Z"⟩ ∈ zT := zsub13 45 (by decide +kernel) (by decide +kernel)
theorem zw859 : Cond.methodLink "TemplateHouse" 181 ⟨"TemplateHouse$Store", "setKey", "(II[BI)Z"⟩ ∈ zT := zsub4 139 (by decide +kernel) (by decide +kernel)
theorem zw875 : Cond.methodLink "TemplateHouse" 185 ⟨"TemplateHouse$Store", "addProperty", "(III[BI)Z"⟩ ∈ zT := zsub4 155 (by decide +kernel) (by decide +kernel)
theorem zw887 : Cond.methodLink "TemplateHouse" 189 ⟨"TemplateHouse$Store", "addAttribute", "([BII)I"⟩ ∈ zT := zsub4 167 (by decide +kernel) (by decide +kernel)
theorem zw2532 : Cond.fieldLink "TemplateHouseModel" 833 "TemplateHouseModel" "width" "I" ∈ zT := zsub11 132 (by decide +kernel) (by decide +kernel)
theorem zw2537 : Cond.fieldLink "TemplateHouseModel" 980 "TemplateHouseModel" "outs" "I" ∈ zT := zsub11 137 (by decide +kernel) (by decide +kernel)
theorem zw911 : Cond.methodLink "TemplateHouse" 223 ⟨"TemplateHouse", "told", "(I)I"⟩ ∈ zT := zsub4 191 (by decide +kernel) (by decide +kernel)
theorem zw2540 : Cond.fieldLink "TemplateHouseModel" 857 "TemplateHouseModel" "errors" "I" ∈ zT := zsub11 140 (by decide +kernel) (by decide +kernel)
theorem zw2541 : Cond.fieldLink "TemplateHouseModel" 869 "TemplateHouseModel" "looks" "I" ∈ zT := zsub11 141 (by decide +kernel) (by decide +kernel)
theorem zw784 : Cond.methodLink "TemplateHouse" 113 ⟨"java/util/Arrays", "fill", "([BB)V"⟩ ∈ zT := zsub4 64 (by decide +kernel) (by decide +kernel)
theorem zw781 : Cond.methodLink "TemplateHouse" 109 ⟨"TemplateHouse", "getByte", "([BI)I"⟩ ∈ zT := zsub4 61 (by decide +kernel) (by decide +kernel)
theorem zw2534 : Cond.fieldLink "TemplateHouseModel" 848 "TemplateHouseModel" "generations" "I" ∈ zT := zsub11 134 (by decide +kernel) (by decide +kernel)
theorem zw64 : Cond.fieldLink "TemplateHouse" 242 "TemplateHouse$Store" "count" "I" ∈ zT := zsub1 64 (by decide +kernel) (by decide +kernel)
theorem zw2550 : Cond.fieldLink "TemplateHouseModel" 945 "TemplateHouseModel" "instances" "I" ∈ zT := zsub11 150 (by decide +kernel) (by decide +kernel)
theorem zw66 : Cond.fieldLink "TemplateHouse" 245 "TemplateHouse$Store" "used" "I" ∈ zT := zsub1 66 (by decide +kernel) (by decide +kernel)
theorem zw769 : Cond.code ⟨"TemplateHouse", "feed", "(IIIII)V"⟩ prog_1_method_2_code 6 (Option.none : Option Jvm.ClassFile.FieldType) ∈ zT := zsub4 49 rfl rfl
theorem zw767 : Cond.instanceMethod ⟨"TemplateHouse", "feed", "(IIIII)V"⟩ ∈ zT := zsub4 47 (by decide +kernel) (by decide +kernel)
theorem zw768 : Cond.selects "TemplateHouse" ⟨"TemplateHouse", "feed", "(IIIII)V"⟩ ⟨"TemplateHouse", "feed", "(IIIII)V"⟩ ∈ zT := zsub4 48 (by decide +kernel) (by decide +kernel)
theorem zw773 : Cond.code ⟨"TemplateHouse", "fourReady", "(II)V"⟩ prog_1_method_3_code 4 (Option.none : Option Jvm.ClassFile.FieldType) ∈ zT := zsub4 53 rfl rfl
theorem zw772 : Cond.instanceMethod ⟨"TemplateHouse", "fourReady", "(II)V"⟩ ∈ zT := zsub4 52 (by decide +kernel) (by decide +kernel)
theorem zwp0 : Cond.selects "TemplateHouse" ⟨"TemplateHouse", "fourReady", "(II)V"⟩ ⟨"TemplateHouse", "fourReady", "(II)V"⟩ ∈ zT := zin 0 (by decide +kernel) (by decide +kernel)
theorem zw776 : Cond.code ⟨"TemplateHouse", "setByte", "([BII)V"⟩ prog_1_method_33_code 3 (Option.none : Option Jvm.ClassFile.FieldType) ∈ zT := zsub4 56 rfl rfl
theorem zw775 : Cond.static ⟨"TemplateHouse", "setByte", "([BII)V"⟩ ∈ zT := zsub4 55 (by decide +kernel) (by decide +kernel)
theorem zw2964 : Cond.code ⟨"TemplateHouseModel", "feed", "(IIIII)V"⟩ prog_15_method_105_code 7 (Option.none : Option Jvm.ClassFile.FieldType) ∈ zT := zsub13 84 rfl rfl
theorem zw2962 : Cond.instanceMethod ⟨"TemplateHouseModel", "feed", "(IIIII)V"⟩ ∈ zT := zsub13 82 (by decide +kernel) (by decide +kernel)
theorem zw2963 : Cond.selects "TemplateHouseModel" ⟨"TemplateHouseModel", "feed", "(IIIII)V"⟩ ⟨"TemplateHouseModel", "feed", "(IIIII)V"⟩ ∈ zT := zsub13 83 (by decide +kernel) (by decide +kernel)
theorem zw794 : Cond.code ⟨"TemplateHouse", "fault", "(I)I"⟩ prog_1_method_8_code 2 (Option.some Jvm.ClassFile.FieldType.int) ∈ zT := zsub4 74 rfl rfl
theorem zw792 : Cond.instanceMethod ⟨"TemplateHouse", "fault", "(I)I"⟩ ∈ zT := zsub4 72 (by decide +kernel) (by decide +kernel)
theorem zw793 : Cond.selects "TemplateHouse" ⟨"TemplateHouse", "fault", "(I)I"⟩ ⟨"TemplateHouse", "fault", "(I)I"⟩ ∈ zT := zsub4 73 (by decide +kernel) (by decide +kernel)
theorem zw3397 : Cond.code ⟨"TemplateHouseModel", "fault", "(I)I"⟩ prog_15_method_109_code 2 (Option.some Jvm.ClassFile.FieldType.int) ∈ zT := zsub15 37 rfl rfl
theorem zw3395 : Cond.instanceMethod ⟨"TemplateHouseModel", "fault", "(I)I"⟩ ∈ zT := zsub15 35 (by decide +kernel) (by decide +kernel)
theorem zw3396 : Cond.selects "TemplateHouseModel" ⟨"TemplateHouseModel", "fault", "(I)I"⟩ ⟨"TemplateHouseModel", "fault", "(I)I"⟩ ∈ zT := zsub15 36 (by decide +kernel) (by decide +kernel)
theorem zw798 : Cond.code ⟨"TemplateHouse", "truth", "(Z)I"⟩ prog_1_method_9_code 2 (Option.some Jvm.ClassFile.FieldType.int) ∈ zT := zsub4 78 rfl rfl
theorem zw796 : Cond.instanceMethod ⟨"TemplateHouse", "truth", "(Z)I"⟩ ∈ zT := zsub4 76 (by decide +kernel) (by decide +kernel)
theorem zw797 : Cond.selects "TemplateHouse" ⟨"TemplateHouse", "truth", "(Z)I"⟩ ⟨"TemplateHouse", "truth", "(Z)I"⟩ ∈ zT := zsub4 77 (by decide +kernel) (by decide +kernel)
theorem zw802 : Cond.code ⟨"TemplateHouse$Store", "make", "(IJI)I"⟩ prog_10_method_5_code 5 (Option.some Jvm.ClassFile.FieldType.int) ∈ zT := zsub4 82 rfl rfl
theorem zw800 : Cond.instanceMethod ⟨"TemplateHouse$Store", "make", "(IJI)I"⟩ ∈ zT := zsub4 80 (by decide +kernel) (by decide +kernel)
theorem zw801 : Cond.selects "TemplateHouse$Store" ⟨"TemplateHouse$Store", "make", "(IJI)I"⟩ ⟨"TemplateHouse$Store", "make", "(IJI)I"⟩ ∈ zT := zsub4 81 (by decide +kernel) (by decide +kernel)
theorem zw805 : Cond.code ⟨"TemplateHouse", "set", "([III)V"⟩ prog_1_method_31_code 3 (Option.none : Option Jvm.ClassFile.FieldType) ∈ zT := zsub4 85 rfl rfl
theorem zw804 : Cond.static ⟨"TemplateHouse", "set", "([III)V"⟩ ∈ zT := zsub4 84 (by decide +kernel) (by decide +kernel)
theorem zw2888 : Cond.code ⟨"TemplateHouseModel", "truth", "(Z)I"⟩ prog_15_method_89_code 3 (Option.some Jvm.ClassFile.FieldType.int) ∈ zT := zsub13 8 rfl rfl
theorem zw2886 : Cond.instanceMethod ⟨"TemplateHouseModel", "truth", "(Z)I"⟩ ∈ zT := zsub13 6 (by decide +kernel) (by decide +kernel)
theorem zw2887 : Cond.selects "TemplateHouseModel" ⟨"TemplateHouseModel", "truth", "(Z)I"⟩ ⟨"TemplateHouseModel", "truth", "(Z)I"⟩ ∈ zT := zsub13 7 (by decide +kernel) (by decide +kernel)
theorem zw2892 : Cond.code ⟨"TemplateHouseModel", "newValue", "(II)I"⟩ prog_15_method_88_code 4 (Option.some Jvm.ClassFile.FieldType.int) ∈ zT := zsub13 12 rfl rfl
theorem zw2891 : Cond.instanceMethod ⟨"TemplateHouseModel", "newValue", "(II)I"⟩ ∈ zT := zsub13 11 (by decide +kernel) (by decide +kernel)
theorem zwp19 : Cond.selects "TemplateHouseModel" ⟨"TemplateHouseModel", "newValue", "(II)I"⟩ ⟨"TemplateHouseModel", "newValue", "(II)I"⟩ ∈ zT := zin 19 (by decide +kernel) (by decide +kernel)
theorem zw2896 : Cond.code ⟨"TemplateHouseModel", "isMade", "()Z"⟩ prog_15_method_87_code 1 (Option.some Jvm.ClassFile.FieldType.boolean) ∈ zT := zsub13 16 rfl rfl
theorem zw2895 : Cond.instanceMethod ⟨"TemplateHouseModel", "isMade", "()Z"⟩ ∈ zT := zsub13 15 (by decide +kernel) (by decide +kernel)
theorem zwp17 : Cond.selects "TemplateHouseModel" ⟨"TemplateHouseModel", "isMade", "()Z"⟩ ⟨"TemplateHouseModel", "isMade", "()Z"⟩ ∈ zT := zin 17 (by decide +kernel) (by decide +kernel)
theorem zw809 : Cond.code ⟨"TemplateHouse", "number", "(J)I"⟩ prog_1_method_10_code 3 (Option.some Jvm.ClassFile.FieldType.int) ∈ zT := zsub4 89 rfl rfl
theorem zw807 : Cond.instanceMethod ⟨"TemplateHouse", "number", "(J)I"⟩ ∈ zT := zsub4 87 (by decide +kernel) (by decide +kernel)
theorem zw808 : Cond.selects "TemplateHouse" ⟨"TemplateHouse", "number", "(J)I"⟩ ⟨"TemplateHouse", "number", "(J)I"⟩ ∈ zT := zsub4 88 (by decide +kernel) (by decide +kernel)
theorem zw2900 : Cond.code ⟨"TemplateHouseModel", "number", "(J)I"⟩ prog_15_method_90_code 4 (Option.some Jvm.ClassFile.FieldType.int) ∈ zT := zsub13 20 rfl rfl
theorem zw2898 : Cond.instanceMethod ⟨"TemplateHouseModel", "number", "(J)I"⟩ ∈ zT := zsub13 18 (by decide +kernel) (by decide +kernel)
theorem zw2899 : Cond.selects "TemplateHouseModel" ⟨"TemplateHouseModel", "number", "(J)I"⟩ ⟨"TemplateHouseModel", "number", "(J)I"⟩ ∈ zT := zsub13 19 (by decide +kernel) (by decide +kernel)
theorem zw813 : Cond.code ⟨"TemplateHouse", "word", "()I"⟩ prog_1_method_11_code 1 (Option.some Jvm.ClassFile.FieldType.int) ∈ zT := zsub4 93 rfl rfl
theorem zw811 : Cond.instanceMethod ⟨"TemplateHouse", "word", "()I"⟩ ∈ zT := zsub4 91 (by decide +kernel) (by decide +kernel)
theorem zw812 : Cond.selects "TemplateHouse" ⟨"TemplateHouse", "word", "()I"⟩ ⟨"TemplateHouse", "word", "()I"⟩ ∈ zT := zsub4 92 (by decide +kernel) (by decide +kernel)
theorem zw817 : Cond.code ⟨"TemplateHouse", "fromTape", "(I)I"⟩ prog_1_method_15_code 4 (Option.some Jvm.ClassFile.FieldType.int) ∈ zT := zsub4 97 rfl rfl
theorem zw816 : Cond.instanceMethod ⟨"TemplateHouse", "fromTape", "(I)I"⟩ ∈ zT := zsub4 96 (by decide +kernel) (by decide +kernel)
theorem zwp1 : Cond.selects "TemplateHouse" ⟨"TemplateHouse", "fromTape", "(I)I"⟩ ⟨"TemplateHouse", "fromTape", "(I)I"⟩ ∈ zT := zin 1 (by decide +kernel) (by decide +kernel)
theorem zw821 : Cond.code ⟨"TemplateHouse$Store", "takeBytes", "([BI)V"⟩ prog_10_method_6_code 4 (Option.none : Option Jvm.ClassFile.FieldType) ∈ zT := zsub4 101 rfl rfl
theorem zw819 : Cond.instanceMethod ⟨"TemplateHouse$Store", "takeBytes", "([BI)V"⟩ ∈ zT := zsub4 99 (by decide +kernel) (by decide +kernel)
theorem zw820 : Cond.selects "TemplateHouse$Store" ⟨"TemplateHouse$Store", "takeBytes", "([BI)V"⟩ ⟨"TemplateHouse$Store", "takeBytes", "([BI)V"⟩ ∈ zT := zsub4 100 (by decide +kernel) (by decide +kernel)
theorem zw2904 : Cond.code ⟨"TemplateHouseModel", "word", "()I"⟩ prog_15_method_91_code 1 (Option.some Jvm.ClassFile.FieldType.int) ∈ zT := zsub13 24 rfl rfl
theorem zw2902 : Cond.instanceMethod ⟨"TemplateHouseModel", "word", "()I"⟩ ∈ zT := zsub13 22 (by decide +kernel) (by decide +kernel)
theorem zw2903 : Cond.selects "TemplateHouseModel" ⟨"TemplateHouseModel", "word", "()I"⟩ ⟨"TemplateHouseModel", "word", "()I"⟩ ∈ zT := zsub13 23 (by decide +kernel) (by decide +kernel)
theorem zw2908 : Cond.code ⟨"TemplateHouseModel", "take", "()V"⟩ prog_15_method_86_code 1 (Option.none : Option Jvm.ClassFile.FieldType) ∈ zT := zsub13 28 rfl rfl
theorem zw2907 : Cond.instanceMethod ⟨"TemplateHouseModel", "take", "()V"⟩ ∈ zT := zsub13 27 (by decide +kernel) (by decide +kernel)
theorem zwp22 : Cond.selects "TemplateHouseModel" ⟨"TemplateHouseModel", "take", "()V"⟩ ⟨"TemplateHouseModel", "take", "()V"⟩ ∈ zT := zin 22 (by decide +kernel) (by decide +kernel)
theorem zw827 : Cond.code ⟨"TemplateHouse", "list", "()I"⟩ prog_1_method_12_code 1 (Option.some Jvm.ClassFile.FieldType.int) ∈ zT := zsub4 107 rfl rfl
theorem zw825 : Cond.instanceMethod ⟨"TemplateHouse", "list", "()I"⟩ ∈ zT := zsub4 105 (by decide +kernel) (by decide +kernel)
theorem zw826 : Cond.selects "TemplateHouse" ⟨"TemplateHouse", "list", "()I"⟩ ⟨"TemplateHouse", "list", "()I"⟩ ∈ zT := zsub4 106 (by decide +kernel) (by decide +kernel)
theorem zw2912 : Cond.code ⟨"TemplateHouseModel", "list", "()I"⟩ prog_15_method_92_code 1 (Option.some Jvm.ClassFile.FieldType.int) ∈ zT := zsub13 32 rfl rfl
theorem zw2910 : Cond.instanceMethod ⟨"TemplateHouseModel", "list", "()I"⟩ ∈ zT := zsub13 30 (by decide +kernel) (by decide +kernel)
theorem zw2911 : Cond.selects "TemplateHouseModel" ⟨"TemplateHouseModel", "list", "()I"⟩ ⟨"TemplateHouseModel", "list", "()I"⟩ ∈ zT := zsub13 31 (by decide +kernel) (by decide +kernel)
theorem zw831 : Cond.code ⟨"TemplateHouse", "map", "()I"⟩ prog_1_method_13_code 1 (Option.some Jvm.ClassFile.FieldType.int) ∈ zT := zsub4 111 rfl rfl
theorem zw829 : Cond.instanceMethod ⟨"TemplateHouse", "map", "()I"⟩ ∈ zT := zsub4 109 (by decide +kernel) (by decide +kernel)
theorem zw830 : Cond.selects "TemplateHouse" ⟨"TemplateHouse", "map", "()I"⟩ ⟨"TemplateHouse", "map", "()I"⟩ ∈ zT := zsub4 110 (by decide +kernel) (by decide +kernel)
theorem zw2916 : Cond.code ⟨"TemplateHouseModel", "map", "()I"⟩ prog_15_method_93_code 1 (Option.some Jvm.ClassFile.FieldType.int) ∈ zT := zsub13 36 rfl rfl
theorem zw2914 : Cond.instanceMethod ⟨"TemplateHouseModel", "map", "()I"⟩ ∈ zT := zsub13 34 (by decide +kernel) (by decide +kernel)
theorem zw2915 : Cond.selects "TemplateHouseModel" ⟨"TemplateHouseModel", "map", "()I"⟩ ⟨"TemplateHouseModel", "map", "()I"⟩ ∈ zT := zsub13 35 (by decide +kernel) (by decide +kernel)
theorem zw835 : Cond.code ⟨"TemplateHouse", "bean", "()I"⟩ prog_1_method_14_code 1 (Option.some Jvm.ClassFile.FieldType.int) ∈ zT := zsub4 115 rfl rfl
theorem zw833 : Cond.instanceMethod ⟨"TemplateHouse", "bean", "()I"⟩ ∈ zT := zsub4 113 (by decide +kernel) (by decide +kernel)
theorem zw834 : Cond.selects "TemplateHouse" ⟨"TemplateHouse", "bean", "()I"⟩ ⟨"TemplateHouse", "bean", "()I"⟩ ∈ zT := zsub4 114 (by decide +kernel) (by decide +kernel)
theorem zw2920 : Cond.code ⟨"TemplateHouseModel", "bean", "()I"⟩ prog_15_method_94_code 1 (Option.some Jvm.ClassFile.FieldType.int) ∈ zT := zsub13 40 rfl rfl
theorem zw2918 : Cond.instanceMethod ⟨"TemplateHouseModel", "bean", "()I"⟩ ∈ zT := zsub13 38 (by decide +kernel) (by decide +kernel)
theorem zw2919 : Cond.selects "TemplateHouseModel" ⟨"TemplateHouseModel", "bean", "()I"⟩ ⟨"TemplateHouseModel", "bean", "()I"⟩ ∈ zT := zsub13 39 (by decide +kernel) (by decide +kernel)
theorem zw894 : Cond.code ⟨"TemplateHouse", "clear", "()Z"⟩ prog_1_method_20_code 1 (Option.some Jvm.ClassFile.FieldType.boolean) ∈ zT := zsub4 174 rfl rfl
theorem zw892 : Cond.instanceMethod ⟨"TemplateHouse", "clear", "()Z"⟩ ∈ zT := zsub4 172 (by decide +kernel) (by decide +kernel)
theorem zw893 : Cond.selects "TemplateHouse" ⟨"TemplateHouse", "clear", "()Z"⟩ ⟨"TemplateHouse", "clear", "()Z"⟩ ∈ zT := zsub4 173 (by decide +kernel) (by decide +kernel)
theorem zw2956 : Cond.code ⟨"TemplateHouseModel", "clear", "()Z"⟩ prog_15_method_103_code 1 (Option.some Jvm.ClassFile.FieldType.boolean) ∈ zT := zsub13 76 rfl rfl
theorem zw2954 : Cond.instanceMethod ⟨"TemplateHouseModel", "clear", "()Z"⟩ ∈ zT := zsub13 74 (by decide +kernel) (by decide +kernel)
theorem zw2955 : Cond.selects "TemplateHouseModel" ⟨"TemplateHouseModel", "clear", "()Z"⟩ ⟨"TemplateHouseModel", "clear", "()Z"⟩ ∈ zT := zsub13 75 (by decide +kernel) (by decide +kernel)
theorem zw902 : Cond.code ⟨"TemplateHouse", "stop", "()Z"⟩ prog_1_method_24_code 1 (Option.some Jvm.ClassFile.FieldType.boolean) ∈ zT := zsub4 182 rfl rfl
theorem zw900 : Cond.instanceMethod ⟨"TemplateHouse", "stop", "()Z"⟩ ∈ zT := zsub4 180 (by decide +kernel) (by decide +kernel)
theorem zw901 : Cond.selects "TemplateHouse" ⟨"TemplateHouse", "stop", "()Z"⟩ ⟨"TemplateHouse", "stop", "()Z"⟩ ∈ zT := zsub4 181 (by decide +kernel) (by decide +kernel)
theorem zw3758 : Cond.code ⟨"TemplateHouseModel", "stop", "()Z"⟩ prog_15_method_190_code 1 (Option.some Jvm.ClassFile.FieldType.boolean) ∈ zT := zsub16 158 rfl rfl
theorem zw3756 : Cond.instanceMethod ⟨"TemplateHouseModel", "stop", "()Z"⟩ ∈ zT := zsub16 156 (by decide +kernel) (by decide +kernel)
theorem zw3757 : Cond.selects "TemplateHouseModel" ⟨"TemplateHouseModel", "stop", "()Z"⟩ ⟨"TemplateHouseModel", "stop", "()Z"⟩ ∈ zT := zsub16 157 (by decide +kernel) (by decide +kernel)
theorem zw839 : Cond.code ⟨"TemplateHouse", "add", "(II)Z"⟩ prog_1_method_16_code 3 (Option.some Jvm.ClassFile.FieldType.boolean) ∈ zT := zsub4 119 rfl rfl
theorem zw837 : Cond.instanceMethod ⟨"TemplateHouse", "add", "(II)Z"⟩ ∈ zT := zsub4 117 (by decide +kernel) (by decide +kernel)
theorem zw838 : Cond.selects "TemplateHouse" ⟨"TemplateHouse", "add", "(II)Z"⟩ ⟨"TemplateHouse", "add", "(II)Z"⟩ ∈ zT := zsub4 118 (by decide +kernel) (by decide +kernel)
theorem zw843 : Cond.code ⟨"TemplateHouse$Store", "append", "(II)Z"⟩ prog_10_method_9_code 4 (Option.some Jvm.ClassFile.FieldType.boolean) ∈ zT := zsub4 123 rfl rfl
theorem zw841 : Cond.instanceMethod ⟨"TemplateHouse$Store", "append", "(II)Z"⟩ ∈ zT := zsub4 121 (by decide +kernel) (by decide +kernel)
theorem zw842 : Cond.selects "TemplateHouse$Store" ⟨"TemplateHouse$Store", "append", "(II)Z"⟩ ⟨"TemplateHouse$Store", "append", "(II)Z"⟩ ∈ zT := zsub4 122 (by decide +kernel) (by decide +kernel)
theorem zw846 : Cond.code ⟨"TemplateHouse", "get", "([II)I"⟩ prog_1_method_30_code 2 (Option.some Jvm.ClassFile.FieldType.int) ∈ zT := zsub4 126 rfl rfl
theorem zw845 : Cond.static ⟨"TemplateHouse", "get", "([II)I"⟩ ∈ zT := zsub4 125 (by decide +kernel) (by decide +kernel)
theorem zw850 : Cond.code ⟨"TemplateHouse$Store", "is", "(II)Z"⟩ prog_10_method_7_code 3 (Option.some Jvm.ClassFile.FieldType.boolean) ∈ zT := zsub4 130 rfl rfl
theorem zw848 : Cond.instanceMethod ⟨"TemplateHouse$Store", "is", "(II)Z"⟩ ∈ zT := zsub4 128 (by decide +kernel) (by decide +kernel)
theorem zw849 : Cond.selects "TemplateHouse$Store" ⟨"TemplateHouse$Store", "is", "(II)Z"⟩ ⟨"TemplateHouse$Store", "is", "(II)Z"⟩ ∈ zT := zsub4 129 (by decide +kernel) (by decide +kernel)
theorem zw2924 : Cond.code ⟨"TemplateHouseModel", "add", "(II)Z"⟩ prog_15_method_97_code 3 (Option.some Jvm.ClassFile.FieldType.boolean) ∈ zT := zsub13 44 rfl rfl
theorem zw2922 : Cond.instanceMethod ⟨"TemplateHouseModel", "add", "(II)Z"⟩ ∈ zT := zsub13 42 (by decide +kernel) (by decide +kernel)
theorem zw2923 : Cond.selects "TemplateHouseModel" ⟨"TemplateHouseModel", "add", "(II)Z"⟩ ⟨"TemplateHouseModel", "add", "(II)Z"⟩ ∈ zT := zsub13 43 (by decide +kernel) (by decide +kernel)
theorem zw2928 : Cond.code ⟨"TemplateHouseModel", "isValue", "(II)Z"⟩ prog_15_method_95_code 3 (Option.some Jvm.ClassFile.FieldType.boolean) ∈ zT := zsub13 48 rfl rfl
theorem zw2927 : Cond.instanceMethod ⟨"TemplateHouseModel", "isValue", "(II)Z"⟩ ∈ zT := zsub13 47 (by decide +kernel) (by decide +kernel)
theorem zwp18 : Cond.selects "TemplateHouseModel" ⟨"TemplateHouseModel", "isValue", "(II)Z"⟩ ⟨"TemplateHouseModel", "isValue", "(II)Z"⟩ ∈ zT := zin 18 (by decide +kernel) (by decide +kernel)
theorem zw858 : Cond.code ⟨"TemplateHouse", "entry", "(II)Z"⟩ prog_1_method_17_code 4 (Option.some Jvm.ClassFile.FieldType.boolean) ∈ zT := zsub4 138 rfl rfl
theorem zw856 : Cond.instanceMethod ⟨"TemplateHouse", "entry", "(II)Z"⟩ ∈ zT := zsub4 136 (by decide +kernel) (by decide +kernel)
theorem zw857 : Cond.selects "TemplateHouse" ⟨"TemplateHouse", "entry", "(II)Z"⟩ ⟨"TemplateHouse", "entry", "(II)Z"⟩ ∈ zT := zsub4 137 (by decide +kernel) (by decide +kernel)
theorem zw862 : Cond.code ⟨"TemplateHouse$Store", "setKey", "(II[BI)Z"⟩ prog_10_method_10_code 6 (Option.some Jvm.ClassFile.FieldType.boolean) ∈ zT := zsub4 142 rfl rfl
theorem zw860 : Cond.instanceMethod ⟨"TemplateHouse$Store", "setKey", "(II[BI)Z"⟩ ∈ zT := zsub4 140 (by decide +kernel) (by decide +kernel)
theorem zw861 : Cond.selects "TemplateHouse$Store" ⟨"TemplateHouse$Store", "setKey", "(II[BI)Z"⟩ ⟨"TemplateHouse$Store", "setKey", "(II[BI)Z"⟩ ∈ zT := zsub4 141 (by decide +kernel) (by decide +kernel)
theorem zw2936 : Cond.code ⟨"TemplateHouseModel", "entry", "(II)Z"⟩ prog_15_method_99_code 4 (Option.some Jvm.ClassFile.FieldType.boolean) ∈ zT := zsub13 56 rfl rfl
theorem zw2934 : Cond.instanceMethod ⟨"TemplateHouseModel", "entry", "(II)Z"⟩ ∈ zT := zsub13 54 (by decide +kernel) (by decide +kernel)
theorem zw2935 : Cond.selects "TemplateHouseModel" ⟨"TemplateHouseModel", "entry", "(II)Z"⟩ ⟨"TemplateHouseModel", "entry", "(II)Z"⟩ ∈ zT := zsub13 55 (by decide +kernel) (by decide +kernel)
theorem zw874 : Cond.code ⟨"TemplateHouse", "property", "(III)Z"⟩ prog_1_method_18_code 5 (Option.some Jvm.ClassFile.FieldType.boolean) ∈ zT := zsub4 154 rfl rfl
theorem zw872 : Cond.instanceMethod ⟨"TemplateHouse", "property", "(III)Z"⟩ ∈ zT := zsub4 152 (by decide +kernel) (by decide +kernel)
theorem zw873 : Cond.selects "TemplateHouse" ⟨"TemplateHouse", "property", "(III)Z"⟩ ⟨"TemplateHouse", "property", "(III)Z"⟩ ∈ zT := zsub4 153 (by decide +kernel) (by decide +kernel)
theorem zw878 : Cond.code ⟨"TemplateHouse$Store", "addProperty", "(III[BI)Z"⟩ prog_10_method_12_code 7 (Option.some Jvm.ClassFile.FieldType.boolean) ∈ zT := zsub4 158 rfl rfl
theorem zw876 : Cond.instanceMethod ⟨"TemplateHouse$Store", "addProperty", "(III[BI)Z"⟩ ∈ zT := zsub4 156 (by decide +kernel) (by decide +kernel)
theorem zw877 : Cond.selects "TemplateHouse$Store" ⟨"TemplateHouse$Store", "addProperty", "(III[BI)Z"⟩ ⟨"TemplateHouse$Store", "addProperty", "(III[BI)Z"⟩ ∈ zT := zsub4 157 (by decide +kernel) (by decide +kernel)
theorem zw2948 : Cond.code ⟨"TemplateHouseModel", "property", "(III)Z"⟩ prog_15_method_101_code 5 (Option.some Jvm.ClassFile.FieldType.boolean) ∈ zT := zsub13 68 rfl rfl
theorem zw2946 : Cond.instanceMethod ⟨"TemplateHouseModel", "property", "(III)Z"⟩ ∈ zT := zsub13 66 (by decide +kernel) (by decide +kernel)
theorem zw2947 : Cond.selects "TemplateHouseModel" ⟨"TemplateHouseModel", "property", "(III)Z"⟩ ⟨"TemplateHouseModel", "property", "(III)Z"⟩ ∈ zT := zsub13 67 (by decide +kernel) (by decide +kernel)
theorem zw886 : Cond.code ⟨"TemplateHouse", "attribute", "(I)I"⟩ prog_1_method_19_code 3 (Option.some Jvm.ClassFile.FieldType.int) ∈ zT := zsub4 166 rfl rfl
theorem zw884 : Cond.instanceMethod ⟨"TemplateHouse", "attribute", "(I)I"⟩ ∈ zT := zsub4 164 (by decide +kernel) (by decide +kernel)
theorem zw885 : Cond.selects "TemplateHouse" ⟨"TemplateHouse", "attribute", "(I)I"⟩ ⟨"TemplateHouse", "attribute", "(I)I"⟩ ∈ zT := zsub4 165 (by decide +kernel) (by decide +kernel)
theorem zw890 : Cond.code ⟨"TemplateHouse$Store", "addAttribute", "([BII)I"⟩ prog_10_method_2_code 5 (Option.some Jvm.ClassFile.FieldType.int) ∈ zT := zsub4 170 rfl rfl
theorem zw888 : Cond.instanceMethod ⟨"TemplateHouse$Store", "addAttribute", "([BII)I"⟩ ∈ zT := zsub4 168 (by decide +kernel) (by decide +kernel)
theorem zw889 : Cond.selects "TemplateHouse$Store" ⟨"TemplateHouse$Store", "addAttribute", "([BII)I"⟩ ⟨"TemplateHouse$Store", "addAttribute", "([BII)I"⟩ ∈ zT := zsub4 169 (by decide +kernel) (by decide +kernel)
theorem zw2952 : Cond.code ⟨"TemplateHouseModel", "attribute", "(I)I"⟩ prog_15_method_102_code 3 (Option.some Jvm.ClassFile.FieldType.int) ∈ zT := zsub13 72 rfl rfl
theorem zw2950 : Cond.instanceMethod ⟨"TemplateHouseModel", "attribute", "(I)I"⟩ ∈ zT := zsub13 70 (by decide +kernel) (by decide +kernel)
theorem zw2951 : Cond.selects "TemplateHouseModel" ⟨"TemplateHouseModel", "attribute", "(I)I"⟩ ⟨"TemplateHouseModel", "attribute", "(I)I"⟩ ∈ zT := zsub13 71 (by decide +kernel) (by decide +kernel)
theorem zw898 : Cond.code ⟨"TemplateHouse", "width", "(I)Z"⟩ prog_1_method_21_code 2 (Option.some Jvm.ClassFile.FieldType.boolean) ∈ zT := zsub4 178 rfl rfl
theorem zw896 : Cond.instanceMethod ⟨"TemplateHouse", "width", "(I)Z"⟩ ∈ zT := zsub4 176 (by decide +kernel) (by decide +kernel)
theorem zw897 : Cond.selects "TemplateHouse" ⟨"TemplateHouse", "width", "(I)Z"⟩ ⟨"TemplateHouse", "width", "(I)Z"⟩ ∈ zT := zsub4 177 (by decide +kernel) (by decide +kernel)
theorem zw2960 : Cond.code ⟨"TemplateHouseModel", "width", "(I)Z"⟩ prog_15_method_104_code 2 (Option.some Jvm.ClassFile.FieldType.boolean) ∈ zT := zsub13 80 rfl rfl
theorem zw2958 : Cond.instanceMethod ⟨"TemplateHouseModel", "width", "(I)Z"⟩ ∈ zT := zsub13 78 (by decide +kernel) (by decide +kernel)
theorem zw2959 : Cond.selects "TemplateHouseModel" ⟨"TemplateHouseModel", "width", "(I)Z"⟩ ⟨"TemplateHouseModel", "width", "(I)Z"⟩ ∈ zT := zsub13 79 (by decide +kernel) (by decide +kernel)
theorem zw906 : Cond.code ⟨"TemplateHouse", "byteOf", "(I)I"⟩ prog_1_method_25_code 2 (Option.some Jvm.ClassFile.FieldType.int) ∈ zT := zsub4 186 rfl rfl
theorem zw904 : Cond.instanceMethod ⟨"TemplateHouse", "byteOf", "(I)I"⟩ ∈ zT := zsub4 184 (by decide +kernel) (by decide +kernel)
theorem zw905 : Cond.selects "TemplateHouse" ⟨"TemplateHouse", "byteOf", "(I)I"⟩ ⟨"TemplateHouse", "byteOf", "(I)I"⟩ ∈ zT := zsub4 185 (by decide +kernel) (by decide +kernel)
theorem zw3762 : Cond.code ⟨"TemplateHouseModel", "byteOf", "(I)I"⟩ prog_15_method_191_code 2 (Option.some Jvm.ClassFile.FieldType.int) ∈ zT := zsub16 162 rfl rfl
theorem zw3760 : Cond.instanceMethod ⟨"TemplateHouseModel", "byteOf", "(I)I"⟩ ∈ zT := zsub16 160 (by decide +kernel) (by decide +kernel)
theorem zw3761 : Cond.selects "TemplateHouseModel" ⟨"TemplateHouseModel", "byteOf", "(I)I"⟩ ⟨"TemplateHouseModel", "byteOf", "(I)I"⟩ ∈ zT := zsub16 161 (by decide +kernel) (by decide +kernel)
theorem zw910 : Cond.code ⟨"TemplateHouse", "error", "(II)I"⟩ prog_1_method_26_code 3 (Option.some Jvm.ClassFile.FieldType.int) ∈ zT := zsub4 190 rfl rfl
theorem zw908 : Cond.instanceMethod ⟨"TemplateHouse", "error", "(II)I"⟩ ∈ zT := zsub4 188 (by decide +kernel) (by decide +kernel)
theorem zw909 : Cond.selects "TemplateHouse" ⟨"TemplateHouse", "error", "(II)I"⟩ ⟨"TemplateHouse", "error", "(II)I"⟩ ∈ zT := zsub4 189 (by decide +kernel) (by decide +kernel)
theorem zw914 : Cond.code ⟨"TemplateHouse", "told", "(I)I"⟩ prog_1_method_29_code 2 (Option.some Jvm.ClassFile.FieldType.int) ∈ zT := zsub4 194 rfl rfl
theorem zw913 : Cond.instanceMethod ⟨"TemplateHouse", "told", "(I)I"⟩ ∈ zT := zsub4 193 (by decide +kernel) (by decide +kernel)
theorem zwp3 : Cond.selects "TemplateHouse" ⟨"TemplateHouse", "told", "(I)I"⟩ ⟨"TemplateHouse", "told", "(I)I"⟩ ∈ zT := zin 3 (by decide +kernel) (by decide +kernel)
theorem zw3766 : Cond.code ⟨"TemplateHouseModel", "error", "(II)I"⟩ prog_15_method_192_code 3 (Option.some Jvm.ClassFile.FieldType.int) ∈ zT := zsub16 166 rfl rfl
theorem zw3764 : Cond.instanceMethod ⟨"TemplateHouseModel", "error", "(II)I"⟩ ∈ zT := zsub16 164 (by decide +kernel) (by decide +kernel)
theorem zw3765 : Cond.selects "TemplateHouseModel" ⟨"TemplateHouseModel", "error", "(II)I"⟩ ⟨"TemplateHouseModel", "error", "(II)I"⟩ ∈ zT := zsub16 165 (by decide +kernel) (by decide +kernel)
theorem zw919 : Cond.code ⟨"TemplateHouse", "looked", "(II)I"⟩ prog_1_method_27_code 3 (Option.some Jvm.ClassFile.FieldType.int) ∈ zT := zsub4 199 rfl rfl
theorem zw917 : Cond.instanceMethod ⟨"TemplateHouse", "looked", "(II)I"⟩ ∈ zT := zsub4 197 (by decide +kernel) (by decide +kernel)
theorem zw918 : Cond.selects "TemplateHouse" ⟨"TemplateHouse", "looked", "(II)I"⟩ ⟨"TemplateHouse", "looked", "(II)I"⟩ ∈ zT := zsub4 198 (by decide +kernel) (by decide +kernel)
theorem zw3770 : Cond.code ⟨"TemplateHouseModel", "looked", "(II)I"⟩ prog_15_method_193_code 3 (Option.some Jvm.ClassFile.FieldType.int) ∈ zT := zsub16 170 rfl rfl
theorem zw3768 : Cond.instanceMethod ⟨"TemplateHouseModel", "looked", "(II)I"⟩ ∈ zT := zsub16 168 (by decide +kernel) (by decide +kernel)
theorem zw3769 : Cond.selects "TemplateHouseModel" ⟨"TemplateHouseModel", "looked", "(II)I"⟩ ⟨"TemplateHouseModel", "looked", "(II)I"⟩ ∈ zT := zsub16 169 (by decide +kernel) (by decide +kernel)
theorem zw790 : Cond.code ⟨"TemplateHouse", "file", "(I)Z"⟩ prog_1_method_5_code 5 (Option.some Jvm.ClassFile.FieldType.boolean) ∈ zT := zsub4 70 rfl rfl
theorem zw788 : Cond.instanceMethod ⟨"TemplateHouse", "file", "(I)Z"⟩ ∈ zT := zsub4 68 (by decide +kernel) (by decide +kernel)
theorem zw789 : Cond.selects "TemplateHouse" ⟨"TemplateHouse", "file", "(I)Z"⟩ ⟨"TemplateHouse", "file", "(I)Z"⟩ ∈ zT := zsub4 69 (by decide +kernel) (by decide +kernel)
theorem zw2972 : Cond.code ⟨"TemplateHouseModel", "file", "(I)Z"⟩ prog_15_method_107_code 3 (Option.some Jvm.ClassFile.FieldType.boolean) ∈ zT := zsub13 92 rfl rfl
theorem zw2970 : Cond.instanceMethod ⟨"TemplateHouseModel", "file", "(I)Z"⟩ ∈ zT := zsub13 90 (by decide +kernel) (by decide +kernel)
theorem zw2971 : Cond.selects "TemplateHouseModel" ⟨"TemplateHouseModel", "file", "(I)Z"⟩ ⟨"TemplateHouseModel", "file", "(I)Z"⟩ ∈ zT := zsub13 91 (by decide +kernel) (by decide +kernel)
theorem zw780 : Cond.code ⟨"TemplateHouse", "end", "(I)I"⟩ prog_1_method_4_code 3 (Option.some Jvm.ClassFile.FieldType.int) ∈ zT := zsub4 60 rfl rfl
theorem zw778 : Cond.instanceMethod ⟨"TemplateHouse", "end", "(I)I"⟩ ∈ zT := zsub4 58 (by decide +kernel) (by decide +kernel)
theorem zw779 : Cond.selects "TemplateHouse" ⟨"TemplateHouse", "end", "(I)I"⟩ ⟨"TemplateHouse", "end", "(I)I"⟩ ∈ zT := zsub4 59 (by decide +kernel) (by decide +kernel)
theorem zw2968 : Cond.code ⟨"TemplateHouseModel", "end", "(I)I"⟩ prog_15_method_106_code 3 (Option.some Jvm.ClassFile.FieldType.int) ∈ zT := zsub13 88 rfl rfl
theorem zw2966 : Cond.instanceMethod ⟨"TemplateHouseModel", "end", "(I)I"⟩ ∈ zT := zsub13 86 (by decide +kernel) (by decide +kernel)
theorem zw2967 : Cond.selects "TemplateHouseModel" ⟨"TemplateHouseModel", "end", "(I)I"⟩ ⟨"TemplateHouseModel", "end", "(I)I"⟩ ∈ zT := zsub13 87 (by decide +kernel) (by decide +kernel)
theorem zw783 : Cond.code ⟨"TemplateHouse", "getByte", "([BI)I"⟩ prog_1_method_32_code 2 (Option.some Jvm.ClassFile.FieldType.int) ∈ zT := zsub4 63 rfl rfl
theorem zw782 : Cond.static ⟨"TemplateHouse", "getByte", "([BI)I"⟩ ∈ zT := zsub4 62 (by decide +kernel) (by decide +kernel)
theorem zw923 : Cond.code ⟨"TemplateHouse", "look", "(I)I"⟩ prog_1_method_28_code 2 (Option.some Jvm.ClassFile.FieldType.int) ∈ zT := zsub4 203 rfl rfl
theorem zw921 : Cond.instanceMethod ⟨"TemplateHouse", "look", "(I)I"⟩ ∈ zT := zsub4 201 (by decide +kernel) (by decide +kernel)
theorem zw922 : Cond.selects "TemplateHouse" ⟨"TemplateHouse", "look", "(I)I"⟩ ⟨"TemplateHouse", "look", "(I)I"⟩ ∈ zT := zsub4 202 (by decide +kernel) (by decide +kernel)
theorem zw3774 : Cond.code ⟨"TemplateHouseModel", "look", "(I)I"⟩ prog_15_method_194_code 2 (Option.some Jvm.ClassFile.FieldType.int) ∈ zT := zsub16 174 rfl rfl
theorem zw3772 : Cond.instanceMethod ⟨"TemplateHouseModel", "look", "(I)I"⟩ ∈ zT := zsub16 172 (by decide +kernel) (by decide +kernel)
theorem zw3773 : Cond.selects "TemplateHouseModel" ⟨"TemplateHouseModel", "look", "(I)I"⟩ ⟨"TemplateHouseModel", "look", "(I)I"⟩ ∈ zT := zsub16 173 (by decide +kernel) (by decide +kernel)
abbrev cX12_feed : ByteArray := prog_1_method_2_code
abbrev yX12_feed : MethodName := ⟨"TemplateHouse", "feed", "(IIIII)V"⟩
theorem dmX12_feed : zDv yX12_feed cX12_feed 6 none 5 := ⟨⟨⟨by decide +kernel, by decide +kernel, by decide +kernel⟩, zw769, zw1⟩, zw767, zw768⟩
abbrev cX12_fourReady : ByteArray := prog_1_method_3_code
abbrev yX12_fourReady : MethodName := ⟨"TemplateHouse", "fourReady", "(II)V"⟩
theorem dmX12_fourReady : zDv yX12_fourReady cX12_fourReady 4 none 2 := ⟨⟨⟨by decide +kernel, by decide +kernel, by decide +kernel⟩, zw773, zw1⟩, zw772, zwp0⟩
abbrev cX12_setByte : ByteArray := prog_1_method_33_code
abbrev yX12_setByte : MethodName := ⟨"TemplateHouse", "setByte", "([BII)V"⟩
theorem dmX12_setByte : zDs yX12_setByte cX12_setByte 3 none 3 := ⟨⟨⟨by decide +kernel, by decide +kernel, by decide +kernel⟩, zw776, zw1⟩, zw775⟩
abbrev cX14_feed : ByteArray := prog_15_method_105_code
abbrev yX14_feed : MethodName := ⟨"TemplateHouseModel", "feed", "(IIIII)V"⟩
theorem dmX14_feed : zDv yX14_feed cX14_feed 7 none 5 := ⟨⟨⟨by decide +kernel, by decide +kernel, by decide +kernel⟩, zw2964, zw14⟩, zw2962, zw2963⟩
abbrev cX12_fault : ByteArray := prog_1_method_8_code
abbrev yX12_fault : MethodName := ⟨"TemplateHouse", "fault", "(I)I"⟩
theorem dmX12_fault : zDv yX12_fault cX12_fault 2 (some .int) 1 := ⟨⟨⟨by decide +kernel, by decide +kernel, by decide +kernel⟩, zw794, zw1⟩, zw792, zw793⟩
abbrev cX14_fault : ByteArray := prog_15_method_109_code
abbrev yX14_fault : MethodName := ⟨"TemplateHouseModel", "fault", "(I)I"⟩
theorem dmX14_fault : zDv yX14_fault cX14_fault 2 (some .int) 1 := ⟨⟨⟨by decide +kernel, by decide +kernel, by decide +kernel⟩, zw3397, zw14⟩, zw3395, zw3396⟩
abbrev cX12_truth : ByteArray := prog_1_method_9_code
abbrev yX12_truth : MethodName := ⟨"TemplateHouse", "truth", "(Z)I"⟩
theorem dmX12_truth : zDv yX12_truth cX12_truth 2 (some .int) 1 := ⟨⟨⟨by decide +kernel, by decide +kernel, by decide +kernel⟩, zw798, zw1⟩, zw796, zw797⟩
abbrev cX8_make : ByteArray := prog_10_method_5_code
abbrev yX8_make : MethodName := ⟨"TemplateHouse$Store", "make", "(IJI)I"⟩
theorem dmX8_make : zDv yX8_make cX8_make 5 (some .int) 3 := ⟨⟨⟨by decide +kernel, by decide +kernel, by decide +kernel⟩, zw802, zw2⟩, zw800, zw801⟩
abbrev cX12_set : ByteArray := prog_1_method_31_code
abbrev yX12_set : MethodName := ⟨"TemplateHouse", "set", "([III)V"⟩
theorem dmX12_set : zDs yX12_set cX12_set 3 none 3 := ⟨⟨⟨by decide +kernel, by decide +kernel, by decide +kernel⟩, zw805, zw1⟩, zw804⟩
abbrev cX14_truth : ByteArray := prog_15_method_89_code
abbrev yX14_truth : MethodName := ⟨"TemplateHouseModel", "truth", "(Z)I"⟩
theorem dmX14_truth : zDv yX14_truth cX14_truth 3 (some .int) 1 := ⟨⟨⟨by decide +kernel, by decide +kernel, by decide +kernel⟩, zw2888, zw14⟩, zw2886, zw2887⟩
abbrev cX14_newValue : ByteArray := prog_15_method_88_code
abbrev yX14_newValue : MethodName := ⟨"TemplateHouseModel", "newValue", "(II)I"⟩
theorem dmX14_newValue : zDv yX14_newValue cX14_newValue 4 (some .int) 2 := ⟨⟨⟨by decide +kernel, by decide +kernel, by decide +kernel⟩, zw2892, zw14⟩, zw2891, zwp19⟩
abbrev cX14_isMade : ByteArray := prog_15_method_87_code
abbrev yX14_isMade : MethodName := ⟨"TemplateHouseModel", "isMade", "()Z"⟩
theorem dmX14_isMade : zDv yX14_isMade cX14_isMade 1 (some .boolean) 0 := ⟨⟨⟨by decide +kernel, by decide +kernel, by decide +kernel⟩, zw2896, zw14⟩, zw2895, zwp17⟩
abbrev cX12_number : ByteArray := prog_1_method_10_code
abbrev yX12_number : MethodName := ⟨"TemplateHouse", "number", "(J)I"⟩
theorem dmX12_number : zDv yX12_number cX12_number 3 (some .int) 1 := ⟨⟨⟨by decide +kernel, by decide +kernel, by decide +kernel⟩, zw809, zw1⟩, zw807, zw808⟩
abbrev cX14_number : ByteArray := prog_15_method_90_code
abbrev yX14_number : MethodName := ⟨"TemplateHouseModel", "number", "(J)I"⟩
theorem dmX14_number : zDv yX14_number cX14_number 4 (some .int) 1 := ⟨⟨⟨by decide +kernel, by decide +kernel, by decide +kernel⟩, zw2900, zw14⟩, zw2898, zw2899⟩
abbrev cX12_word : ByteArray := prog_1_method_11_code
abbrev yX12_word : MethodName := ⟨"TemplateHouse", "word", "()I"⟩
theorem dmX12_word : zDv yX12_word cX12_word 1 (some .int) 0 := ⟨⟨⟨by decide +kernel, by decide +kernel, by decide +kernel⟩, zw813, zw1⟩, zw811, zw812⟩
abbrev cX12_fromTape : ByteArray := prog_1_method_15_code
abbrev yX12_fromTape : MethodName := ⟨"TemplateHouse", "fromTape", "(I)I"⟩
theorem dmX12_fromTape : zDv yX12_fromTape cX12_fromTape 4 (some .int) 1 := ⟨⟨⟨by decide +kernel, by decide +kernel, by decide +kernel⟩, zw817, zw1⟩, zw816, zwp1⟩
abbrev cX8_takeBytes : ByteArray := prog_10_method_6_code
abbrev yX8_takeBytes : MethodName := ⟨"TemplateHouse$Store", "takeBytes", "([BI)V"⟩
theorem dmX8_takeBytes : zDv yX8_takeBytes cX8_takeBytes 4 none 2 := ⟨⟨⟨by decide +kernel, by decide +kernel, by decide +kernel⟩, zw821, zw2⟩, zw819, zw820⟩
abbrev cX14_word : ByteArray := prog_15_method_91_code
abbrev yX14_word : MethodName := ⟨"TemplateHouseModel", "word", "()I"⟩
theorem dmX14_word : zDv yX14_word cX14_word 1 (some .int) 0 := ⟨⟨⟨by decide +kernel, by decide +kernel, by decide +kernel⟩, zw2904, zw14⟩, zw2902, zw2903⟩
abbrev cX14_take : ByteArray := prog_15_method_86_code
abbrev yX14_take : MethodName := ⟨"TemplateHouseModel", "take", "()V"⟩
theorem dmX14_take : zDv yX14_take cX14_take 1 none 0 := ⟨⟨⟨by decide +kernel, by decide +kernel, by decide +kernel⟩, zw2908, zw14⟩, zw2907, zwp22⟩
abbrev cX12_list : ByteArray := prog_1_method_12_code
abbrev yX12_list : MethodName := ⟨"TemplateHouse", "list", "()I"⟩
theorem dmX12_list : zDv yX12_list cX12_list 1 (some .int) 0 := ⟨⟨⟨by decide +kernel, by decide +kernel, by decide +kernel⟩, zw827, zw1⟩, zw825, zw826⟩
abbrev cX14_list : ByteArray := prog_15_method_92_code
abbrev yX14_list : MethodName := ⟨"TemplateHouseModel", "list", "()I"⟩
theorem dmX14_list : zDv yX14_list cX14_list 1 (some .int) 0 := ⟨⟨⟨by decide +kernel, by decide +kernel, by decide +kernel⟩, zw2912, zw14⟩, zw2910, zw2911⟩
abbrev cX12_map : ByteArray := prog_1_method_13_code
abbrev yX12_map : MethodName := ⟨"TemplateHouse", "map", "()I"⟩
theorem dmX12_map : zDv yX12_map cX12_map 1 (some .int) 0 := ⟨⟨⟨by decide +kernel, by decide +kernel, by decide +kernel⟩, zw831, zw1⟩, zw829, zw830⟩
abbrev cX14_map : ByteArray := prog_15_method_93_code
abbrev yX14_map : MethodName := ⟨"TemplateHouseModel", "map", "()I"⟩
theorem dmX14_map : zDv yX14_map cX14_map 1 (some .int) 0 := ⟨⟨⟨by decide +kernel, by decide +kernel, by decide +kernel⟩, zw2916, zw14⟩, zw2914, zw2915⟩
abbrev cX12_bean : ByteArray := prog_1_method_14_code
abbrev yX12_bean : MethodName := ⟨"TemplateHouse", "bean", "()I"⟩
theorem dmX12_bean : zDv yX12_bean cX12_bean 1 (some .int) 0 := ⟨⟨⟨by decide +kernel, by decide +kernel, by decide +kernel⟩, zw835, zw1⟩, zw833, zw834⟩
abbrev cX14_bean : ByteArray := prog_15_method_94_code
abbrev yX14_bean : MethodName := ⟨"TemplateHouseModel", "bean", "()I"⟩
theorem dmX14_bean : zDv yX14_bean cX14_bean 1 (some .int) 0 := ⟨⟨⟨by decide +kernel, by decide +kernel, by decide +kernel⟩, zw2920, zw14⟩, zw2918, zw2919⟩
abbrev cX12_clear : ByteArray := prog_1_method_20_code
abbrev yX12_clear : MethodName := ⟨"TemplateHouse", "clear", "()Z"⟩
theorem dmX12_clear : zDv yX12_clear cX12_clear 1 (some .boolean) 0 := ⟨⟨⟨by decide +kernel, by decide +kernel, by decide +kernel⟩, zw894, zw1⟩, zw892, zw893⟩
abbrev cX14_clear : ByteArray := prog_15_method_103_code
abbrev yX14_clear : MethodName := ⟨"TemplateHouseModel", "clear", "()Z"⟩
theorem dmX14_clear : zDv yX14_clear cX14_clear 1 (some .boolean) 0 := ⟨⟨⟨by decide +kernel, by decide +kernel, by decide +kernel⟩, zw2956, zw14⟩, zw2954, zw2955⟩
abbrev cX12_stop : ByteArray := prog_1_method_24_code
abbrev yX12_stop : MethodName := ⟨"TemplateHouse", "stop", "()Z"⟩
theorem dmX12_stop : zDv yX12_stop cX12_stop 1 (some .boolean) 0 := ⟨⟨⟨by decide +kernel, by decide +kernel, by decide +kernel⟩, zw902, zw1⟩, zw900, zw901⟩
abbrev cX14_stop : ByteArray := prog_15_method_190_code
abbrev yX14_stop : MethodName := ⟨"TemplateHouseModel", "stop", "()Z"⟩
theorem dmX14_stop : zDv yX14_stop cX14_stop 1 (some .boolean) 0 := ⟨⟨⟨by decide +kernel, by decide +kernel, by decide +kernel⟩, zw3758, zw14⟩, zw3756, zw3757⟩
abbrev cX12_add : ByteArray := prog_1_method_16_code
abbrev yX12_add : MethodName := ⟨"TemplateHouse", "add", "(II)Z"⟩
theorem dmX12_add : zDv yX12_add cX12_add 3 (some .boolean) 2 := ⟨⟨⟨by decide +kernel, by decide +kernel, by decide +kernel⟩, zw839, zw1⟩, zw837, zw838⟩
abbrev cX8_append : ByteArray := prog_10_method_9_code
abbrev yX8_append : MethodName := ⟨"TemplateHouse$Store", "append", "(II)Z"⟩
theorem dmX8_append : zDv yX8_append cX8_append 4 (some .boolean) 2 := ⟨⟨⟨by decide +kernel, by decide +kernel, by decide +kernel⟩, zw843, zw2⟩, zw841, zw842⟩
abbrev cX12_get : ByteArray := prog_1_method_30_code
abbrev yX12_get : MethodName := ⟨"TemplateHouse", "get", "([II)I"⟩
theorem dmX12_get : zDs yX12_get cX12_get 2 (some .int) 2 := ⟨⟨⟨by decide +kernel, by decide +kernel, by decide +kernel⟩, zw846, zw1⟩, zw845⟩
abbrev cX8_is : ByteArray := prog_10_method_7_code
abbrev yX8_is : MethodName := ⟨"TemplateHouse$Store", "is", "(II)Z"⟩
theorem dmX8_is : zDv yX8_is cX8_is 3 (some .boolean) 2 := ⟨⟨⟨by decide +kernel, by decide +kernel, by decide +kernel⟩, zw850, zw2⟩, zw848, zw849⟩
abbrev cX14_add : ByteArray := prog_15_method_97_code
abbrev yX14_add : MethodName := ⟨"TemplateHouseModel", "add", "(II)Z"⟩
theorem dmX14_add : zDv yX14_add cX14_add 3 (some .boolean) 2 := ⟨⟨⟨by decide +kernel, by decide +kernel, by decide +kernel⟩, zw2924, zw14⟩, zw2922, zw2923⟩
abbrev cX14_isValue : ByteArray := prog_15_method_95_code
abbrev yX14_isValue : MethodName := ⟨"TemplateHouseModel", "isValue", "(II)Z"⟩
theorem dmX14_isValue : zDv yX14_isValue cX14_isValue 3 (some .boolean) 2 := ⟨⟨⟨by decide +kernel, by decide +kernel, by decide +kernel⟩, zw2928, zw14⟩, zw2927, zwp18⟩
abbrev cX12_entry : ByteArray := prog_1_method_17_code
abbrev yX12_entry : MethodName := ⟨"TemplateHouse", "entry", "(II)Z"⟩
theorem dmX12_entry : zDv yX12_entry cX12_entry 4 (some .boolean) 2 := ⟨⟨⟨by decide +kernel, by decide +kernel, by decide +kernel⟩, zw858, zw1⟩, zw856, zw857⟩
abbrev cX8_setKey : ByteArray := prog_10_method_10_code
abbrev yX8_setKey : MethodName := ⟨"TemplateHouse$Store", "setKey", "(II[BI)Z"⟩
theorem dmX8_setKey : zDv yX8_setKey cX8_setKey 6 (some .boolean) 4 := ⟨⟨⟨by decide +kernel, by decide +kernel, by decide +kernel⟩, zw862, zw2⟩, zw860, zw861⟩
abbrev cX14_entry : ByteArray := prog_15_method_99_code
abbrev yX14_entry : MethodName := ⟨"TemplateHouseModel", "entry", "(II)Z"⟩
theorem dmX14_entry : zDv yX14_entry cX14_entry 4 (some .boolean) 2 := ⟨⟨⟨by decide +kernel, by decide +kernel, by decide +kernel⟩, zw2936, zw14⟩, zw2934, zw2935⟩
abbrev cX12_property : ByteArray := prog_1_method_18_code
abbrev yX12_property : MethodName := ⟨"TemplateHouse", "property", "(III)Z"⟩
theorem dmX12_property : zDv yX12_property cX12_property 5 (some .boolean) 3 := ⟨⟨⟨by decide +kernel, by decide +kernel, by decide +kernel⟩, zw874, zw1⟩, zw872, zw873⟩
abbrev cX8_addProperty : ByteArray := prog_10_method_12_code
abbrev yX8_addProperty : MethodName := ⟨"TemplateHouse$Store", "addProperty", "(III[BI)Z"⟩
theorem dmX8_addProperty : zDv yX8_addProperty cX8_addProperty 7 (some .boolean) 5 := ⟨⟨⟨by decide +kernel, by decide +kernel, by decide +kernel⟩, zw878, zw2⟩, zw876, zw877⟩
abbrev cX14_property : ByteArray := prog_15_method_101_code
abbrev yX14_property : MethodName := ⟨"TemplateHouseModel", "property", "(III)Z"⟩
theorem dmX14_property : zDv yX14_property cX14_property 5 (some .boolean) 3 := ⟨⟨⟨by decide +kernel, by decide +kernel, by decide +kernel⟩, zw2948, zw14⟩, zw2946, zw2947⟩
abbrev cX12_attribute : ByteArray := prog_1_method_19_code
abbrev yX12_attribute : MethodName := ⟨"TemplateHouse", "attribute", "(I)I"⟩
theorem dmX12_attribute : zDv yX12_attribute cX12_attribute 3 (some .int) 1 := ⟨⟨⟨by decide +kernel, by decide +kernel, by decide +kernel⟩, zw886, zw1⟩, zw884, zw885⟩
abbrev cX8_addAttribute : ByteArray := prog_10_method_2_code
abbrev yX8_addAttribute : MethodName := ⟨"TemplateHouse$Store", "addAttribute", "([BII)I"⟩
theorem dmX8_addAttribute : zDv yX8_addAttribute cX8_addAttribute 5 (some .int) 3 := ⟨⟨⟨by decide +kernel, by decide +kernel, by decide +kernel⟩, zw890, zw2⟩, zw888, zw889⟩
abbrev cX14_attribute : ByteArray := prog_15_method_102_code
abbrev yX14_attribute : MethodName := ⟨"TemplateHouseModel", "attribute", "(I)I"⟩
theorem dmX14_attribute : zDv yX14_attribute cX14_attribute 3 (some .int) 1 := ⟨⟨⟨by decide +kernel, by decide +kernel, by decide +kernel⟩, zw2952, zw14⟩, zw2950, zw2951⟩
abbrev cX12_width : ByteArray := prog_1_method_21_code
abbrev yX12_width : MethodName := ⟨"TemplateHouse", "width", "(I)Z"⟩
theorem dmX12_width : zDv yX12_width cX12_width 2 (some .boolean) 1 := ⟨⟨⟨by decide +kernel, by decide +kernel, by decide +kernel⟩, zw898, zw1⟩, zw896, zw897⟩
abbrev cX14_width : ByteArray := prog_15_method_104_code
abbrev yX14_width : MethodName := ⟨"TemplateHouseModel", "width", "(I)Z"⟩
theorem dmX14_width : zDv yX14_width cX14_width 2 (some .boolean) 1 := ⟨⟨⟨by decide +kernel, by decide +kernel, by decide +kernel⟩, zw2960, zw14⟩, zw2958, zw2959⟩
abbrev cX12_byteOf : ByteArray := prog_1_method_25_code
abbrev yX12_byteOf : MethodName := ⟨"TemplateHouse", "byteOf", "(I)I"⟩
theorem dmX12_byteOf : zDv yX12_byteOf cX12_byteOf 2 (some .int) 1 := ⟨⟨⟨by decide +kernel, by decide +kernel, by decide +kernel⟩, zw906, zw1⟩, zw904, zw905⟩
abbrev cX14_byteOf : ByteArray := prog_15_method_191_code
abbrev yX14_byteOf : MethodName := ⟨"TemplateHouseModel", "byteOf", "(I)I"⟩
theorem dmX14_byteOf : zDv yX14_byteOf cX14_byteOf 2 (some .int) 1 := ⟨⟨⟨by decide +kernel, by decide +kernel, by decide +kernel⟩, zw3762, zw14⟩, zw3760, zw3761⟩
abbrev cX12_error : ByteArray := prog_1_method_26_code
abbrev yX12_error : MethodName := ⟨"TemplateHouse", "error", "(II)I"⟩
theorem dmX12_error : zDv yX12_error cX12_error 3 (some .int) 2 := ⟨⟨⟨by decide +kernel, by decide +kernel, by decide +kernel⟩, zw910, zw1⟩, zw908, zw909⟩
abbrev cX12_told : ByteArray := prog_1_method_29_code
abbrev yX12_told : MethodName := ⟨"TemplateHouse", "told", "(I)I"⟩
theorem dmX12_told : zDv yX12_told cX12_told 2 (some .int) 1 := ⟨⟨⟨by decide +kernel, by decide +kernel, by decide +kernel⟩, zw914, zw1⟩, zw913, zwp3⟩
abbrev cX14_error : ByteArray := prog_15_method_192_code
abbrev yX14_error : MethodName := ⟨"TemplateHouseModel", "error", "(II)I"⟩
theorem dmX14_error : zDv yX14_error cX14_error 3 (some .int) 2 := ⟨⟨⟨by decide +kernel, by decide +kernel, by decide +kernel⟩, zw3766, zw14⟩, zw3764, zw3765⟩
abbrev cX12_looked : ByteArray := prog_1_method_27_code
abbrev yX12_looked : MethodName := ⟨"TemplateHouse", "looked", "(II)I"⟩
theorem dmX12_looked : zDv yX12_looked cX12_looked 3 (some .int) 2 := ⟨⟨⟨by decide +kernel, by decide +kernel, by decide +kernel⟩, zw919, zw1⟩, zw917, zw918⟩
abbrev cX14_looked : ByteArray := prog_15_method_193_code
abbrev yX14_looked : MethodName := ⟨"TemplateHouseModel", "looked", "(II)I"⟩
theorem dmX14_looked : zDv yX14_looked cX14_looked 3 (some .int) 2 := ⟨⟨⟨by decide +kernel, by decide +kernel, by decide +kernel⟩, zw3770, zw14⟩, zw3768, zw3769⟩
abbrev cX12_file : ByteArray := prog_1_method_5_code
abbrev yX12_file : MethodName := ⟨"TemplateHouse", "file", "(I)Z"⟩
theorem dmX12_file : zDv yX12_file cX12_file 5 (some .boolean) 1 := ⟨⟨⟨by decide +kernel, by decide +kernel, by decide +kernel⟩, zw790, zw1⟩, zw788, zw789⟩
abbrev cX14_file : ByteArray := prog_15_method_107_code
abbrev yX14_file : MethodName := ⟨"TemplateHouseModel", "file", "(I)Z"⟩
theorem dmX14_file : zDv yX14_file cX14_file 3 (some .boolean) 1 := ⟨⟨⟨by decide +kernel, by decide +kernel, by decide +kernel⟩, zw2972, zw14⟩, zw2970, zw2971⟩
abbrev cX12_end : ByteArray := prog_1_method_4_code
abbrev yX12_end : MethodName := ⟨"TemplateHouse", "end", "(I)I"⟩
theorem dmX12_end : zDv yX12_end cX12_end 3 (some .int) 1 := ⟨⟨⟨by decide +kernel, by decide +kernel, by decide +kernel⟩, zw780, zw1⟩, zw778, zw779⟩
abbrev cX14_end : ByteArray := prog_15_method_106_code
abbrev yX14_end : MethodName := ⟨"TemplateHouseModel", "end", "(I)I"⟩
theorem dmX14_end : zDv yX14_end cX14_end 3 (some .int) 1 := ⟨⟨⟨by decide +kernel, by decide +kernel, by decide +kernel⟩, zw2968, zw14⟩, zw2966, zw2967⟩
abbrev cX12_getByte : ByteArray := prog_1_method_32_code
abbrev yX12_getByte : MethodName := ⟨"TemplateHouse", "getByte", "([BI)I"⟩
theorem dmX12_getByte : zDs yX12_getByte cX12_getByte 2 (some .int) 2 := ⟨⟨⟨by decide +kernel, by decide +kernel, by decide +kernel⟩, zw783, zw1⟩, zw782⟩
abbrev cX12_look : ByteArray := prog_1_method_28_code
abbrev yX12_look : MethodName := ⟨"TemplateHouse", "look", "(I)I"⟩
theorem dmX12_look : zDv yX12_look cX12_look 2 (some .int) 1 := ⟨⟨⟨by decide +kernel, by decide +kernel, by decide +kernel⟩, zw923, zw1⟩, zw921, zw922⟩
abbrev cX14_look : ByteArray := prog_15_method_194_code
abbrev yX14_look : MethodName := ⟨"TemplateHouseModel", "look", "(I)I"⟩
theorem dmX14_look : zDv yX14_look cX14_look 2 (some .int) 1 := ⟨⟨⟨by decide +kernel, by decide +kernel, by decide +kernel⟩, zw3774, zw14⟩, zw3772, zw3773⟩
theorem dX12_feed_0 : decode cX12_feed 0 = .ok (.aload_n 0, 1) := by decide +kernel
theorem dX12_feed_1 : decode cX12_feed 1 = .ok (.iconst 0, 1) := by decide +kernel
theorem dX12_feed_2 : decode cX12_feed 2 = .ok (.iload_n 1, 1) := by decide +kernel
theorem dX12_feed_3 : decode cX12_feed 3 = .ok (.invokevirtual 101, 3) := by decide +kernel
theorem dX12_fourReady_0 : decode cX12_fourReady 0 = .ok (.iconst 0, 1) := by decide +kernel
theorem dX12_fourReady_1 : decode cX12_fourReady 1 = .ok (.istore_n 3, 1) := by decide +kernel
theorem dX12_fourReady_2 : decode cX12_fourReady 2 = .ok (.iload_n 3, 1) := by decide +kernel
theorem dX12_fourReady_3 : decode cX12_fourReady 3 = .ok (.iconst 4, 1) := by decide +kernel
theorem dX12_fourReady_4 : decode cX12_fourReady 4 = .ok (.if_icmp .ge 28, 3) := by decide +kernel
theorem dX12_fourReady_7 : decode cX12_fourReady 7 = .ok (.aload_n 0, 1) := by decide +kernel
theorem dX12_fourReady_8 : decode cX12_fourReady 8 = .ok (.getfield 9, 3) := by decide +kernel
theorem dX12_fourReady_11 : decode cX12_fourReady 11 = .ok (.iload_n 1, 1) := by decide +kernel
theorem dX12_fourReady_12 : decode cX12_fourReady 12 = .ok (.iload_n 3, 1) := by decide +kernel
theorem dX12_fourReady_13 : decode cX12_fourReady 13 = .ok (.iadd, 1) := by decide +kernel
theorem dX12_fourReady_14 : decode cX12_fourReady 14 = .ok (.iload_n 2, 1) := by decide +kernel
theorem dX12_fourReady_15 : decode cX12_fourReady 15 = .ok (.bipush 24, 2) := by decide +kernel
theorem dX12_fourReady_17 : decode cX12_fourReady 17 = .ok (.bipush 8, 2) := by decide +kernel
theorem dX12_fourReady_19 : decode cX12_fourReady 19 = .ok (.iload_n 3, 1) := by decide +kernel
theorem dX12_fourReady_20 : decode cX12_fourReady 20 = .ok (.imul, 1) := by decide +kernel
theorem dX12_fourReady_21 : decode cX12_fourReady 21 = .ok (.isub, 1) := by decide +kernel
theorem dX12_fourReady_22 : decode cX12_fourReady 22 = .ok (.iushr, 1) := by decide +kernel
theorem dX12_fourReady_23 : decode cX12_fourReady 23 = .ok (.invokestatic 105, 3) := by decide +kernel
theorem dX12_setByte_0 : decode cX12_setByte 0 = .ok (.iload_n 1, 1) := by decide +kernel
theorem dX12_setByte_1 : decode cX12_setByte 1 = .ok (.ifCond .lt 14, 3) := by decide +kernel
theorem dX12_setByte_4 : decode cX12_setByte 4 = .ok (.iload_n 1, 1) := by decide +kernel
theorem dX12_setByte_5 : decode cX12_setByte 5 = .ok (.aload_n 0, 1) := by decide +kernel
theorem dX12_setByte_6 : decode cX12_setByte 6 = .ok (.arraylength, 1) := by decide +kernel
theorem dX12_setByte_7 : decode cX12_setByte 7 = .ok (.if_icmp .ge 8, 3) := by decide +kernel
theorem dX12_setByte_10 : decode cX12_setByte 10 = .ok (.aload_n 0, 1) := by decide +kernel
theorem dX12_setByte_11 : decode cX12_setByte 11 = .ok (.iload_n 1, 1) := by decide +kernel
theorem dX12_setByte_12 : decode cX12_setByte 12 = .ok (.iload_n 2, 1) := by decide +kernel
theorem dX12_setByte_13 : decode cX12_setByte 13 = .ok (.i2b, 1) := by decide +kernel
theorem dX12_setByte_14 : decode cX12_setByte 14 = .ok (.bastore, 1) := by decide +kernel
theorem dX12_setByte_15 : decode cX12_setByte 15 = .ok (.return_, 1) := by decide +kernel
theorem dX12_fourReady_26 : decode cX12_fourReady 26 = .ok (.iinc 3 1, 3) := by decide +kernel
theorem dX12_fourReady_29 : decode cX12_fourReady 29 = .ok (.goto (-27), 3) := by decide +kernel
theorem dX12_fourReady_32 : decode cX12_fourReady 32 = .ok (.return_, 1) := by decide +kernel
theorem dX12_feed_6 : decode cX12_feed 6 = .ok (.aload_n 0, 1) := by decide +kernel
theorem dX12_feed_7 : decode cX12_feed 7 = .ok (.iconst 4, 1) := by decide +kernel
theorem dX12_feed_8 : decode cX12_feed 8 = .ok (.iload_n 2, 1) := by decide +kernel
theorem dX12_feed_9 : decode cX12_feed 9 = .ok (.invokevirtual 101, 3) := by decide +kernel
theorem dX12_feed_12 : decode cX12_feed 12 = .ok (.aload_n 0, 1) := by decide +kernel
theorem dX12_feed_13 : decode cX12_feed 13 = .ok (.bipush 8, 2) := by decide +kernel
theorem dX12_feed_15 : decode cX12_feed 15 = .ok (.iload_n 3, 1) := by decide +kernel
theorem dX12_feed_16 : decode cX12_feed 16 = .ok (.invokevirtual 101, 3) := by decide +kernel
theorem dX12_feed_19 : decode cX12_feed 19 = .ok (.aload_n 0, 1) := by decide +kernel
theorem dX12_feed_20 : decode cX12_feed 20 = .ok (.bipush 12, 2) := by decide +kernel
theorem dX12_feed_22 : decode cX12_feed 22 = .ok (.iload 4, 2) := by decide +kernel
theorem dX12_feed_24 : decode cX12_feed 24 = .ok (.invokevirtual 101, 3) := by decide +kernel
theorem dX12_feed_27 : decode cX12_feed 27 = .ok (.aload_n 0, 1) := by decide +kernel
theorem dX12_feed_28 : decode cX12_feed 28 = .ok (.bipush 16, 2) := by decide +kernel
theorem dX12_feed_30 : decode cX12_feed 30 = .ok (.iload 5, 2) := by decide +kernel
theorem dX12_feed_32 : decode cX12_feed 32 = .ok (.invokevirtual 101, 3) := by decide +kernel
theorem dX12_feed_35 : decode cX12_feed 35 = .ok (.return_, 1) := by decide +kernel
theorem dX14_feed_0 : decode cX14_feed 0 = .ok (.aload_n 0, 1) := by decide +kernel
theorem dX14_feed_1 : decode cX14_feed 1 = .ok (.iconst 0, 1) := by decide +kernel
theorem dX14_feed_2 : decode cX14_feed 2 = .ok (.putfield 806, 3) := by decide +kernel
theorem dX14_feed_5 : decode cX14_feed 5 = .ok (.iconst 0, 1) := by decide +kernel
theorem dX14_feed_6 : decode cX14_feed 6 = .ok (.istore 6, 2) := by decide +kernel
theorem dX14_feed_8 : decode cX14_feed 8 = .ok (.iload 6, 2) := by decide +kernel
theorem dX14_feed_10 : decode cX14_feed 10 = .ok (.iconst 4, 1) := by decide +kernel
theorem dX14_feed_11 : decode cX14_feed 11 = .ok (.if_icmp .ge 112, 3) := by decide +kernel
theorem dX14_feed_14 : decode cX14_feed 14 = .ok (.aload_n 0, 1) := by decide +kernel
theorem dX14_feed_15 : decode cX14_feed 15 = .ok (.getfield 7, 3) := by decide +kernel
theorem dX14_feed_18 : decode cX14_feed 18 = .ok (.iload 6, 2) := by decide +kernel
theorem dX14_feed_20 : decode cX14_feed 20 = .ok (.iload_n 1, 1) := by decide +kernel
theorem dX14_feed_21 : decode cX14_feed 21 = .ok (.bipush 24, 2) := by decide +kernel
theorem dX14_feed_23 : decode cX14_feed 23 = .ok (.bipush 8, 2) := by decide +kernel
theorem dX14_feed_25 : decode cX14_feed 25 = .ok (.iload 6, 2) := by decide +kernel
theorem dX14_feed_27 : decode cX14_feed 27 = .ok (.imul, 1) := by decide +kernel
theorem dX14_feed_28 : decode cX14_feed 28 = .ok (.isub, 1) := by decide +kernel
theorem dX14_feed_29 : decode cX14_feed 29 = .ok (.ishr, 1) := by decide +kernel
theorem dX14_feed_30 : decode cX14_feed 30 = .ok (.i2b, 1) := by decide +kernel
theorem dX14_feed_31 : decode cX14_feed 31 = .ok (.bastore, 1) := by decide +kernel
theorem dX14_feed_32 : decode cX14_feed 32 = .ok (.aload_n 0, 1) := by decide +kernel
theorem dX14_feed_33 : decode cX14_feed 33 = .ok (.getfield 7, 3) := by decide +kernel
theorem dX14_feed_36 : decode cX14_feed 36 = .ok (.iconst 4, 1) := by decide +kernel
theorem dX14_feed_37 : decode cX14_feed 37 = .ok (.iload 6, 2) := by decide +kernel
theorem dX14_feed_39 : decode cX14_feed 39 = .ok (.iadd, 1) := by decide +kernel
theorem dX14_feed_40 : decode cX14_feed 40 = .ok (.iload_n 2, 1) := by decide +kernel
theorem dX14_feed_41 : decode cX14_feed 41 = .ok (.bipush 24, 2) := by decide +kernel
theorem dX14_feed_43 : decode cX14_feed 43 = .ok (.bipush 8, 2) := by decide +kernel
theorem dX14_feed_45 : decode cX14_feed 45 = .ok (.iload 6, 2) := by decide +kernel
theorem dX14_feed_47 : decode cX14_feed 47 = .ok (.imul, 1) := by decide +kernel
theorem dX14_feed_48 : decode cX14_feed 48 = .ok (.isub, 1) := by decide +kernel
theorem dX14_feed_49 : decode cX14_feed 49 = .ok (.ishr, 1) := by decide +kernel
theorem dX14_feed_50 : decode cX14_feed 50 = .ok (.i2b, 1) := by decide +kernel
theorem dX14_feed_51 : decode cX14_feed 51 = .ok (.bastore, 1) := by decide +kernel
theorem dX14_feed_52 : decode cX14_feed 52 = .ok (.aload_n 0, 1) := by decide +kernel
theorem dX14_feed_53 : decode cX14_feed 53 = .ok (.getfield 7, 3) := by decide +kernel
theorem dX14_feed_56 : decode cX14_feed 56 = .ok (.bipush 8, 2) := by decide +kernel
theorem dX14_feed_58 : decode cX14_feed 58 = .ok (.iload 6, 2) := by decide +kernel
theorem dX14_feed_60 : decode cX14_feed 60 = .ok (.iadd, 1) := by decide +kernel
theorem dX14_feed_61 : decode cX14_feed 61 = .ok (.iload_n 3, 1) := by decide +kernel
theorem dX14_feed_62 : decode cX14_feed 62 = .ok (.bipush 24, 2) := by decide +kernel
theorem dX14_feed_64 : decode cX14_feed 64 = .ok (.bipush 8, 2) := by decide +kernel
theorem dX14_feed_66 : decode cX14_feed 66 = .ok (.iload 6, 2) := by decide +kernel
theorem dX14_feed_68 : decode cX14_feed 68 = .ok (.imul, 1) := by decide +kernel
theorem dX14_feed_69 : decode cX14_feed 69 = .ok (.isub, 1) := by decide +kernel
theorem dX14_feed_70 : decode cX14_feed 70 = .ok (.ishr, 1) := by decide +kernel
theorem dX14_feed_71 : decode cX14_feed 71 = .ok (.i2b, 1) := by decide +kernel
theorem dX14_feed_72 : decode cX14_feed 72 = .ok (.bastore, 1) := by decide +kernel
theorem dX14_feed_73 : decode cX14_feed 73 = .ok (.aload_n 0, 1) := by decide +kernel
theorem dX14_feed_74 : decode cX14_feed 74 = .ok (.getfield 7, 3) := by decide +kernel
theorem dX14_feed_77 : decode cX14_feed 77 = .ok (.bipush 12, 2) := by decide +kernel
theorem dX14_feed_79 : decode cX14_feed 79 = .ok (.iload 6, 2) := by decide +kernel
theorem dX14_feed_81 : decode cX14_feed 81 = .ok (.iadd, 1) := by decide +kernel
theorem dX14_feed_82 : decode cX14_feed 82 = .ok (.iload 4, 2) := by decide +kernel
theorem dX14_feed_84 : decode cX14_feed 84 = .ok (.bipush 24, 2) := by decide +kernel
theorem dX14_feed_86 : decode cX14_feed 86 = .ok (.bipush 8, 2) := by decide +kernel
theorem dX14_feed_88 : decode cX14_feed 88 = .ok (.iload 6, 2) := by decide +kernel
theorem dX14_feed_90 : decode cX14_feed 90 = .ok (.imul, 1) := by decide +kernel
theorem dX14_feed_91 : decode cX14_feed 91 = .ok (.isub, 1) := by decide +kernel
theorem dX14_feed_92 : decode cX14_feed 92 = .ok (.ishr, 1) := by decide +kernel
theorem dX14_feed_93 : decode cX14_feed 93 = .ok (.i2b, 1) := by decide +kernel
theorem dX14_feed_94 : decode cX14_feed 94 = .ok (.bastore, 1) := by decide +kernel
theorem dX14_feed_95 : decode cX14_feed 95 = .ok (.aload_n 0, 1) := by decide +kernel
theorem dX14_feed_96 : decode cX14_feed 96 = .ok (.getfield 7, 3) := by decide +kernel
theorem dX14_feed_99 : decode cX14_feed 99 = .ok (.bipush 16, 2) := by decide +kernel
theorem dX14_feed_101 : decode cX14_feed 101 = .ok (.iload 6, 2) := by decide +kernel
theorem dX14_feed_103 : decode cX14_feed 103 = .ok (.iadd, 1) := by decide +kernel
theorem dX14_feed_104 : decode cX14_feed 104 = .ok (.iload 5, 2) := by decide +kernel
theorem dX14_feed_106 : decode cX14_feed 106 = .ok (.bipush 24, 2) := by decide +kernel
theorem dX14_feed_108 : decode cX14_feed 108 = .ok (.bipush 8, 2) := by decide +kernel
theorem dX14_feed_110 : decode cX14_feed 110 = .ok (.iload 6, 2) := by decide +kernel
theorem dX14_feed_112 : decode cX14_feed 112 = .ok (.imul, 1) := by decide +kernel
theorem dX14_feed_113 : decode cX14_feed 113 = .ok (.isub, 1) := by decide +kernel
theorem dX14_feed_114 : decode cX14_feed 114 = .ok (.ishr, 1) := by decide +kernel
theorem dX14_feed_115 : decode cX14_feed 115 = .ok (.i2b, 1) := by decide +kernel
theorem dX14_feed_116 : decode cX14_feed 116 = .ok (.bastore, 1) := by decide +kernel
theorem dX14_feed_117 : decode cX14_feed 117 = .ok (.iinc 6 1, 3) := by decide +kernel
theorem dX14_feed_120 : decode cX14_feed 120 = .ok (.goto (-112), 3) := by decide +kernel
theorem dX14_feed_123 : decode cX14_feed 123 = .ok (.return_, 1) := by decide +kernel
theorem dX12_fault_0 : decode cX12_fault 0 = .ok (.iload_n 1, 1) := by decide +kernel
theorem dX12_fault_1 : decode cX12_fault 1 = .ok (.ifCond .ne 8, 3) := by decide +kernel
theorem dX12_fault_4 : decode cX12_fault 4 = .ok (.aload_n 0, 1) := by decide +kernel
theorem dX12_fault_5 : decode cX12_fault 5 = .ok (.getfield 23, 3) := by decide +kernel
theorem dX12_fault_8 : decode cX12_fault 8 = .ok (.ireturn, 1) := by decide +kernel
theorem dX14_fault_0 : decode cX14_fault 0 = .ok (.aload_n 0, 1) := by decide +kernel
theorem dX14_fault_1 : decode cX14_fault 1 = .ok (.iconst 0, 1) := by decide +kernel
theorem dX14_fault_2 : decode cX14_fault 2 = .ok (.putfield 806, 3) := by decide +kernel
theorem dX14_fault_5 : decode cX14_fault 5 = .ok (.iload_n 1, 1) := by decide +kernel
theorem dX14_fault_6 : decode cX14_fault 6 = .ok (.ifCond .ne 10, 3) := by decide +kernel
theorem dX14_fault_9 : decode cX14_fault 9 = .ok (.aload_n 0, 1) := by decide +kernel
theorem dX14_fault_10 : decode cX14_fault 10 = .ok (.getfield 248, 3) := by decide +kernel
theorem dX14_fault_13 : decode cX14_fault 13 = .ok (.goto 39, 3) := by decide +kernel
theorem dX14_fault_52 : decode cX14_fault 52 = .ok (.ireturn, 1) := by decide +kernel
theorem dX12_fault_9 : decode cX12_fault 9 = .ok (.iload_n 1, 1) := by decide +kernel
theorem dX12_fault_10 : decode cX12_fault 10 = .ok (.iconst 1, 1) := by decide +kernel
theorem dX12_fault_11 : decode cX12_fault 11 = .ok (.if_icmp .ne 10, 3) := by decide +kernel
theorem dX12_fault_21 : decode cX12_fault 21 = .ok (.iload_n 1, 1) := by decide +kernel
theorem dX12_fault_22 : decode cX12_fault 22 = .ok (.iconst 2, 1) := by decide +kernel
theorem dX12_fault_23 : decode cX12_fault 23 = .ok (.if_icmp .ne 10, 3) := by decide +kernel
theorem dX12_fault_33 : decode cX12_fault 33 = .ok (.iconst (-1), 1) := by decide +kernel
theorem dX12_fault_34 : decode cX12_fault 34 = .ok (.ireturn, 1) := by decide +kernel
theorem dX12_fault_26 : decode cX12_fault 26 = .ok (.aload_n 0, 1) := by decide +kernel
theorem dX12_fault_27 : decode cX12_fault 27 = .ok (.getfield 29, 3) := by decide +kernel
theorem dX12_fault_30 : decode cX12_fault 30 = .ok (.goto 4, 3) := by decide +kernel
theorem dX12_fault_14 : decode cX12_fault 14 = .ok (.aload_n 0, 1) := by decide +kernel
theorem dX12_fault_15 : decode cX12_fault 15 = .ok (.getfield 26, 3) := by decide +kernel
theorem dX12_fault_18 : decode cX12_fault 18 = .ok (.goto 16, 3) := by decide +kernel
theorem dX14_fault_16 : decode cX14_fault 16 = .ok (.aload_n 0, 1) := by decide +kernel
theorem dX14_fault_17 : decode cX14_fault 17 = .ok (.getfield 248, 3) := by decide +kernel
theorem dX14_fault_20 : decode cX14_fault 20 = .ok (.ifCond .eq 12, 3) := by decide +kernel
theorem dX14_fault_32 : decode cX14_fault 32 = .ok (.iconst (-1), 1) := by decide +kernel
theorem dX14_fault_33 : decode cX14_fault 33 = .ok (.goto 19, 3) := by decide +kernel
theorem dX12_truth_0 : decode cX12_truth 0 = .ok (.aload_n 0, 1) := by decide +kernel
theorem dX12_truth_1 : decode cX12_truth 1 = .ok (.getfield 35, 3) := by decide +kernel
theorem dX12_truth_4 : decode cX12_truth 4 = .ok (.iconst 1, 1) := by decide +kernel
theorem dX12_truth_5 : decode cX12_truth 5 = .ok (.if_icmp .ne 7, 3) := by decide +kernel
theorem dX12_truth_12 : decode cX12_truth 12 = .ok (.aload_n 0, 1) := by decide +kernel
theorem dX12_truth_13 : decode cX12_truth 13 = .ok (.getfield 59, 3) := by decide +kernel
theorem dX12_truth_16 : decode cX12_truth 16 = .ok (.iconst 0, 1) := by decide +kernel
theorem dX12_truth_17 : decode cX12_truth 17 = .ok (.iload_n 1, 1) := by decide +kernel
theorem dX12_truth_18 : decode cX12_truth 18 = .ok (.ifCond .eq 7, 3) := by decide +kernel
theorem dX12_truth_25 : decode cX12_truth 25 = .ok (.lconst 0, 1) := by decide +kernel
theorem dX12_truth_26 : decode cX12_truth 26 = .ok (.iconst 0, 1) := by decide +kernel
theorem dX12_truth_27 : decode cX12_truth 27 = .ok (.invokevirtual 165, 3) := by decide +kernel
theorem dX8_make_0 : decode cX8_make 0 = .ok (.aload_n 0, 1) := by decide +kernel
theorem dX8_make_1 : decode cX8_make 1 = .ok (.getfield 36, 3) := by decide +kernel
theorem dX8_make_4 : decode cX8_make 4 = .ok (.sipush 500, 3) := by decide +kernel
theorem dX8_make_7 : decode cX8_make 7 = .ok (.if_icmp .ge 16, 3) := by decide +kernel
theorem dX8_make_10 : decode cX8_make 10 = .ok (.aload_n 0, 1) := by decide +kernel
theorem dX8_make_11 : decode cX8_make 11 = .ok (.getfield 40, 3) := by decide +kernel
theorem dX8_make_14 : decode cX8_make 14 = .ok (.iload 4, 2) := by decide +kernel
theorem dX8_make_16 : decode cX8_make 16 = .ok (.iadd, 1) := by decide +kernel
theorem dX8_make_17 : decode cX8_make 17 = .ok (.sipush 16000, 3) := by decide +kernel
theorem dX8_make_20 : decode cX8_make 20 = .ok (.if_icmp .le 5, 3) := by decide +kernel
theorem dX8_make_25 : decode cX8_make 25 = .ok (.aload_n 0, 1) := by decide +kernel
theorem dX8_make_26 : decode cX8_make 26 = .ok (.getfield 9, 3) := by decide +kernel
theorem dX8_make_29 : decode cX8_make 29 = .ok (.aload_n 0, 1) := by decide +kernel
theorem dX8_make_30 : decode cX8_make 30 = .ok (.getfield 36, 3) := by decide +kernel
theorem dX8_make_33 : decode cX8_make 33 = .ok (.iload_n 1, 1) := by decide +kernel
theorem dX8_make_34 : decode cX8_make 34 = .ok (.invokestatic 66, 3) := by decide +kernel
theorem dX12_set_0 : decode cX12_set 0 = .ok (.iload_n 1, 1) := by decide +kernel
theorem dX12_set_1 : decode cX12_set 1 = .ok (.ifCond .lt 13, 3) := by decide +kernel
theorem dX12_set_4 : decode cX12_set 4 = .ok (.iload_n 1, 1) := by decide +kernel
theorem dX12_set_5 : decode cX12_set 5 = .ok (.aload_n 0, 1) := by decide +kernel
theorem dX12_set_6 : decode cX12_set 6 = .ok (.arraylength, 1) := by decide +kernel
theorem dX12_set_7 : decode cX12_set 7 = .ok (.if_icmp .ge 7, 3) := by decide +kernel
theorem dX12_set_10 : decode cX12_set 10 = .ok (.aload_n 0, 1) := by decide +kernel
theorem dX12_set_11 : decode cX12_set 11 = .ok (.iload_n 1, 1) := by decide +kernel
theorem dX12_set_12 : decode cX12_set 12 = .ok (.iload_n 2, 1) := by decide +kernel
theorem dX12_set_13 : decode cX12_set 13 = .ok (.iastore, 1) := by decide +kernel
theorem dX12_set_14 : decode cX12_set 14 = .ok (.return_, 1) := by decide +kernel
theorem dX8_make_37 : decode cX8_make 37 = .ok (.aload_n 0, 1) := by decide +kernel
theorem dX8_make_38 : decode cX8_make 38 = .ok (.getfield 36, 3) := by decide +kernel
theorem dX8_make_41 : decode cX8_make 41 = .ok (.aload_n 0, 1) := by decide +kernel
theorem dX8_make_42 : decode cX8_make 42 = .ok (.getfield 15, 3) := by decide +kernel
theorem dX8_make_45 : decode cX8_make 45 = .ok (.arraylength, 1) := by decide +kernel
theorem dX8_make_46 : decode cX8_make 46 = .ok (.if_icmp .ge 13, 3) := by decide +kernel
theorem dX8_make_49 : decode cX8_make 49 = .ok (.aload_n 0, 1) := by decide +kernel
theorem dX8_make_50 : decode cX8_make 50 = .ok (.getfield 15, 3) := by decide +kernel
theorem dX8_make_53 : decode cX8_make 53 = .ok (.aload_n 0, 1) := by decide +kernel
theorem dX8_make_54 : decode cX8_make 54 = .ok (.getfield 36, 3) := by decide +kernel
theorem dX8_make_57 : decode cX8_make 57 = .ok (.lload_n 2, 1) := by decide +kernel
theorem dX8_make_58 : decode cX8_make 58 = .ok (.lastore, 1) := by decide +kernel
theorem dX8_make_59 : decode cX8_make 59 = .ok (.aload_n 0, 1) := by decide +kernel
theorem dX8_make_60 : decode cX8_make 60 = .ok (.getfield 19, 3) := by decide +kernel
theorem dX8_make_63 : decode cX8_make 63 = .ok (.aload_n 0, 1) := by decide +kernel
theorem dX8_make_64 : decode cX8_make 64 = .ok (.getfield 36, 3) := by decide +kernel
theorem dX8_make_67 : decode cX8_make 67 = .ok (.aload_n 0, 1) := by decide +kernel
theorem dX8_make_68 : decode cX8_make 68 = .ok (.getfield 40, 3) := by decide +kernel
theorem dX8_make_71 : decode cX8_make 71 = .ok (.invokestatic 66, 3) := by decide +kernel
theorem dX8_make_74 : decode cX8_make 74 = .ok (.aload_n 0, 1) := by decide +kernel
theorem dX8_make_75 : decode cX8_make 75 = .ok (.getfield 22, 3) := by decide +kernel
theorem dX8_make_78 : decode cX8_make 78 = .ok (.aload_n 0, 1) := by decide +kernel
theorem dX8_make_79 : decode cX8_make 79 = .ok (.getfield 36, 3) := by decide +kernel
theorem dX8_make_82 : decode cX8_make 82 = .ok (.iload 4, 2) := by decide +kernel
theorem dX8_make_84 : decode cX8_make 84 = .ok (.invokestatic 66, 3) := by decide +kernel
theorem dX8_make_87 : decode cX8_make 87 = .ok (.aload_n 0, 1) := by decide +kernel
theorem dX8_make_88 : decode cX8_make 88 = .ok (.getfield 25, 3) := by decide +kernel
theorem dX8_make_91 : decode cX8_make 91 = .ok (.aload_n 0, 1) := by decide +kernel
theorem dX8_make_92 : decode cX8_make 92 = .ok (.getfield 36, 3) := by decide +kernel
theorem dX8_make_95 : decode cX8_make 95 = .ok (.iconst 0, 1) := by decide +kernel
theorem dX8_make_96 : decode cX8_make 96 = .ok (.invokestatic 66, 3) := by decide +kernel
theorem dX8_make_99 : decode cX8_make 99 = .ok (.aload_n 0, 1) := by decide +kernel
theorem dX8_make_100 : decode cX8_make 100 = .ok (.dup, 1) := by decide +kernel
theorem dX8_make_101 : decode cX8_make 101 = .ok (.getfield 36, 3) := by decide +kernel
theorem dX8_make_104 : decode cX8_make 104 = .ok (.iconst 1, 1) := by decide +kernel
theorem dX8_make_105 : decode cX8_make 105 = .ok (.iadd, 1) := by decide +kernel
theorem dX8_make_106 : decode cX8_make 106 = .ok (.putfield 36, 3) := by decide +kernel
theorem dX8_make_109 : decode cX8_make 109 = .ok (.aload_n 0, 1) := by decide +kernel
theorem dX8_make_110 : decode cX8_make 110 = .ok (.getfield 36, 3) := by decide +kernel
theorem dX8_make_113 : decode cX8_make 113 = .ok (.iconst 1, 1) := by decide +kernel
theorem dX8_make_114 : decode cX8_make 114 = .ok (.isub, 1) := by decide +kernel
theorem dX8_make_115 : decode cX8_make 115 = .ok (.ireturn, 1) := by decide +kernel
theorem dX12_truth_30 : decode cX12_truth 30 = .ok (.ireturn, 1) := by decide +kernel
theorem dX14_truth_0 : decode cX14_truth 0 = .ok (.aload_n 0, 1) := by decide +kernel
theorem dX14_truth_1 : decode cX14_truth 1 = .ok (.iconst 0, 1) := by decide +kernel
theorem dX14_truth_2 : decode cX14_truth 2 = .ok (.putfield 806, 3) := by decide +kernel
theorem dX14_truth_5 : decode cX14_truth 5 = .ok (.aload_n 0, 1) := by decide +kernel
theorem dX14_truth_6 : decode cX14_truth 6 = .ok (.iconst 0, 1) := by decide +kernel
theorem dX14_truth_7 : decode cX14_truth 7 = .ok (.iconst 0, 1) := by decide +kernel
theorem dX14_truth_8 : decode cX14_truth 8 = .ok (.invokevirtual 809, 3) := by decide +kernel
theorem dX14_newValue_0 : decode cX14_newValue 0 = .ok (.aload_n 0, 1) := by decide +kernel
theorem dX14_newValue_1 : decode cX14_newValue 1 = .ok (.getfield 797, 3) := by decide +kernel
theorem dX14_newValue_4 : decode cX14_newValue 4 = .ok (.sipush 500, 3) := by decide +kernel
theorem dX14_newValue_7 : decode cX14_newValue 7 = .ok (.if_icmp .eq 22, 3) := by decide +kernel
theorem dX14_newValue_10 : decode cX14_newValue 10 = .ok (.aload_n 0, 1) := by decide +kernel
theorem dX14_newValue_11 : decode cX14_newValue 11 = .ok (.getfield 800, 3) := by decide +kernel
theorem dX14_newValue_14 : decode cX14_newValue 14 = .ok (.iload_n 2, 1) := by decide +kernel
theorem dX14_newValue_15 : decode cX14_newValue 15 = .ok (.iadd, 1) := by decide +kernel
theorem dX14_newValue_16 : decode cX14_newValue 16 = .ok (.sipush 16000, 3) := by decide +kernel
theorem dX14_newValue_19 : decode cX14_newValue 19 = .ok (.if_icmp .gt 10, 3) := by decide +kernel
theorem dX14_newValue_22 : decode cX14_newValue 22 = .ok (.aload_n 0, 1) := by decide +kernel
theorem dX14_newValue_23 : decode cX14_newValue 23 = .ok (.invokevirtual 803, 3) := by decide +kernel
theorem dX14_isMade_0 : decode cX14_isMade 0 = .ok (.aload_n 0, 1) := by decide +kernel
theorem dX14_isMade_1 : decode cX14_isMade 1 = .ok (.getfield 794, 3) := by decide +kernel
theorem dX14_isMade_4 : decode cX14_isMade 4 = .ok (.iconst 1, 1) := by decide +kernel
theorem dX14_isMade_5 : decode cX14_isMade 5 = .ok (.if_icmp .ne 7, 3) := by decide +kernel
theorem dX14_isMade_12 : decode cX14_isMade 12 = .ok (.iconst 0, 1) := by decide +kernel
theorem dX14_isMade_13 : decode cX14_isMade 13 = .ok (.ireturn, 1) := by decide +kernel
theorem dX14_newValue_26 : decode cX14_newValue 26 = .ok (.ifCond .eq 5, 3) := by decide +kernel
theorem dX14_newValue_31 : decode cX14_newValue 31 = .ok (.aload_n 0, 1) := by decide +kernel
theorem dX14_newValue_32 : decode cX14_newValue 32 = .ok (.getfield 64, 3) := by decide +kernel
theorem dX14_newValue_35 : decode cX14_newValue 35 = .ok (.aload_n 0, 1) := by decide +kernel
theorem dX14_newValue_36 : decode cX14_newValue 36 = .ok (.getfield 797, 3) := by decide +kernel
theorem dX14_newValue_39 : decode cX14_newValue 39 = .ok (.iload_n 1, 1) := by decide +kernel
theorem dX14_newValue_40 : decode cX14_newValue 40 = .ok (.iastore, 1) := by decide +kernel
theorem dX14_newValue_41 : decode cX14_newValue 41 = .ok (.aload_n 0, 1) := by decide +kernel
theorem dX14_newValue_42 : decode cX14_newValue 42 = .ok (.getfield 80, 3) := by decide +kernel
theorem dX14_newValue_45 : decode cX14_newValue 45 = .ok (.aload_n 0, 1) := by decide +kernel
theorem dX14_newValue_46 : decode cX14_newValue 46 = .ok (.getfield 797, 3) := by decide +kernel
theorem dX14_newValue_49 : decode cX14_newValue 49 = .ok (.iconst 0, 1) := by decide +kernel
theorem dX14_newValue_50 : decode cX14_newValue 50 = .ok (.iastore, 1) := by decide +kernel
theorem dX14_newValue_51 : decode cX14_newValue 51 = .ok (.aload_n 0, 1) := by decide +kernel
theorem dX14_newValue_52 : decode cX14_newValue 52 = .ok (.getfield 74, 3) := by decide +kernel
theorem dX14_newValue_55 : decode cX14_newValue 55 = .ok (.aload_n 0, 1) := by decide +kernel
theorem dX14_newValue_56 : decode cX14_newValue 56 = .ok (.getfield 797, 3) := by decide +kernel
theorem dX14_newValue_59 : decode cX14_newValue 59 = .ok (.aload_n 0, 1) := by decide +kernel
theorem dX14_newValue_60 : decode cX14_newValue 60 = .ok (.getfield 800, 3) := by decide +kernel
theorem dX14_newValue_63 : decode cX14_newValue 63 = .ok (.iastore, 1) := by decide +kernel
theorem dX14_newValue_64 : decode cX14_newValue 64 = .ok (.aload_n 0, 1) := by decide +kernel
theorem dX14_newValue_65 : decode cX14_newValue 65 = .ok (.getfield 77, 3) := by decide +kernel
theorem dX14_newValue_68 : decode cX14_newValue 68 = .ok (.aload_n 0, 1) := by decide +kernel
theorem dX14_newValue_69 : decode cX14_newValue 69 = .ok (.getfield 797, 3) := by decide +kernel
theorem dX14_newValue_72 : decode cX14_newValue 72 = .ok (.iload_n 2, 1) := by decide +kernel
theorem dX14_newValue_73 : decode cX14_newValue 73 = .ok (.iastore, 1) := by decide +kernel
theorem dX14_newValue_74 : decode cX14_newValue 74 = .ok (.iconst 0, 1) := by decide +kernel
theorem dX14_newValue_75 : decode cX14_newValue 75 = .ok (.istore_n 3, 1) := by decide +kernel
theorem dX14_newValue_76 : decode cX14_newValue 76 = .ok (.iload_n 3, 1) := by decide +kernel
theorem dX14_newValue_77 : decode cX14_newValue 77 = .ok (.iload_n 2, 1) := by decide +kernel
theorem dX14_newValue_78 : decode cX14_newValue 78 = .ok (.if_icmp .ge 26, 3) := by decide +kernel
theorem dX14_newValue_104 : decode cX14_newValue 104 = .ok (.aload_n 0, 1) := by decide +kernel
theorem dX14_newValue_105 : decode cX14_newValue 105 = .ok (.dup, 1) := by decide +kernel
theorem dX14_newValue_106 : decode cX14_newValue 106 = .ok (.getfield 800, 3) := by decide +kernel
theorem dX14_newValue_109 : decode cX14_newValue 109 = .ok (.iload_n 2, 1) := by decide +kernel
theorem dX14_newValue_110 : decode cX14_newValue 110 = .ok (.iadd, 1) := by decide +kernel
theorem dX14_newValue_111 : decode cX14_newValue 111 = .ok (.putfield 800, 3) := by decide +kernel
theorem dX14_newValue_114 : decode cX14_newValue 114 = .ok (.aload_n 0, 1) := by decide +kernel
theorem dX14_newValue_115 : decode cX14_newValue 115 = .ok (.dup, 1) := by decide +kernel
theorem dX14_newValue_116 : decode cX14_newValue 116 = .ok (.getfield 797, 3) := by decide +kernel
theorem dX14_newValue_119 : decode cX14_newValue 119 = .ok (.iconst 1, 1) := by decide +kernel
theorem dX14_newValue_120 : decode cX14_newValue 120 = .ok (.iadd, 1) := by decide +kernel
theorem dX14_newValue_121 : decode cX14_newValue 121 = .ok (.putfield 797, 3) := by decide +kernel
theorem dX14_newValue_124 : decode cX14_newValue 124 = .ok (.aload_n 0, 1) := by decide +kernel
theorem dX14_newValue_125 : decode cX14_newValue 125 = .ok (.getfield 797, 3) := by decide +kernel
theorem dX14_newValue_128 : decode cX14_newValue 128 = .ok (.iconst 1, 1) := by decide +kernel
theorem dX14_newValue_129 : decode cX14_newValue 129 = .ok (.isub, 1) := by decide +kernel
theorem dX14_newValue_130 : decode cX14_newValue 130 = .ok (.ireturn, 1) := by decide +kernel
theorem dX14_truth_11 : decode cX14_truth 11 = .ok (.istore_n 2, 1) := by decide +kernel
theorem dX14_truth_12 : decode cX14_truth 12 = .ok (.iload_n 2, 1) := by decide +kernel
theorem dX14_truth_13 : decode cX14_truth 13 = .ok (.ifCond .lt 18, 3) := by decide +kernel
theorem dX14_truth_16 : decode cX14_truth 16 = .ok (.aload_n 0, 1) := by decide +kernel
theorem dX14_truth_17 : decode cX14_truth 17 = .ok (.getfield 67, 3) := by decide +kernel
theorem dX14_truth_20 : decode cX14_truth 20 = .ok (.iload_n 2, 1) := by decide +kernel
theorem dX14_truth_21 : decode cX14_truth 21 = .ok (.iload_n 1, 1) := by decide +kernel
theorem dX14_truth_22 : decode cX14_truth 22 = .ok (.ifCond .eq 7, 3) := by decide +kernel
theorem dX14_truth_29 : decode cX14_truth 29 = .ok (.lconst 0, 1) := by decide +kernel
theorem dX14_truth_30 : decode cX14_truth 30 = .ok (.lastore, 1) := by decide +kernel
theorem dX14_truth_31 : decode cX14_truth 31 = .ok (.iload_n 2, 1) := by decide +kernel
theorem dX14_truth_32 : decode cX14_truth 32 = .ok (.ireturn, 1) := by decide +kernel
theorem dX12_truth_21 : decode cX12_truth 21 = .ok (.lconst 1, 1) := by decide +kernel
theorem dX12_truth_22 : decode cX12_truth 22 = .ok (.goto 4, 3) := by decide +kernel
theorem dX14_truth_25 : decode cX14_truth 25 = .ok (.lconst 1, 1) := by decide +kernel
theorem dX14_truth_26 : decode cX14_truth 26 = .ok (.goto 4, 3) := by decide +kernel
theorem dX12_number_0 : decode cX12_number 0 = .ok (.aload_n 0, 1) := by decide +kernel
theorem dX12_number_1 : decode cX12_number 1 = .ok (.getfield 35, 3) := by decide +kernel
theorem dX12_number_4 : decode cX12_number 4 = .ok (.iconst 1, 1) := by decide +kernel
theorem dX12_number_5 : decode cX12_number 5 = .ok (.if_icmp .ne 7, 3) := by decide +kernel
theorem dX12_number_12 : decode cX12_number 12 = .ok (.aload_n 0, 1) := by decide +kernel
theorem dX12_number_13 : decode cX12_number 13 = .ok (.getfield 59, 3) := by decide +kernel
theorem dX12_number_16 : decode cX12_number 16 = .ok (.iconst 1, 1) := by decide +kernel
theorem dX12_number_17 : decode cX12_number 17 = .ok (.lload_n 1, 1) := by decide +kernel
theorem dX12_number_18 : decode cX12_number 18 = .ok (.iconst 0, 1) := by decide +kernel
theorem dX12_number_19 : decode cX12_number 19 = .ok (.invokevirtual 165, 3) := by decide +kernel
theorem dX12_number_22 : decode cX12_number 22 = .ok (.ireturn, 1) := by decide +kernel
theorem dX14_number_0 : decode cX14_number 0 = .ok (.aload_n 0, 1) := by decide +kernel
theorem dX14_number_1 : decode cX14_number 1 = .ok (.iconst 0, 1) := by decide +kernel
theorem dX14_number_2 : decode cX14_number 2 = .ok (.putfield 806, 3) := by decide +kernel
theorem dX14_number_5 : decode cX14_number 5 = .ok (.aload_n 0, 1) := by decide +kernel
theorem dX14_number_6 : decode cX14_number 6 = .ok (.iconst 1, 1) := by decide +kernel
theorem dX14_number_7 : decode cX14_number 7 = .ok (.iconst 0, 1) := by decide +kernel
theorem dX14_number_8 : decode cX14_number 8 = .ok (.invokevirtual 809, 3) := by decide +kernel
theorem dX14_number_11 : decode cX14_number 11 = .ok (.istore_n 3, 1) := by decide +kernel
theorem dX14_number_12 : decode cX14_number 12 = .ok (.iload_n 3, 1) := by decide +kernel
theorem dX14_number_13 : decode cX14_number 13 = .ok (.ifCond .lt 10, 3) := by decide +kernel
theorem dX14_number_16 : decode cX14_number 16 = .ok (.aload_n 0, 1) := by decide +kernel
theorem dX14_number_17 : decode cX14_number 17 = .ok (.getfield 67, 3) := by decide +kernel
theorem dX14_number_20 : decode cX14_number 20 = .ok (.iload_n 3, 1) := by decide +kernel
theorem dX14_number_21 : decode cX14_number 21 = .ok (.lload_n 1, 1) := by decide +kernel
theorem dX14_number_22 : decode cX14_number 22 = .ok (.lastore, 1) := by decide +kernel
theorem dX14_number_23 : decode cX14_number 23 = .ok (.iload_n 3, 1) := by decide +kernel
theorem dX14_number_24 : decode cX14_number 24 = .ok (.ireturn, 1) := by decide +kernel
theorem dX12_word_0 : decode cX12_word 0 = .ok (.aload_n 0, 1) := by decide +kernel
theorem dX12_word_1 : decode cX12_word 1 = .ok (.iconst 2, 1) := by decide +kernel
theorem dX12_word_2 : decode cX12_word 2 = .ok (.invokevirtual 169, 3) := by decide +kernel
theorem dX12_fromTape_0 : decode cX12_fromTape 0 = .ok (.aload_n 0, 1) := by decide +kernel
theorem dX12_fromTape_1 : decode cX12_fromTape 1 = .ok (.getfield 16, 3) := by decide +kernel
theorem dX12_fromTape_4 : decode cX12_fromTape 4 = .ok (.istore_n 2, 1) := by decide +kernel
theorem dX12_fromTape_5 : decode cX12_fromTape 5 = .ok (.aload_n 0, 1) := by decide +kernel
theorem dX12_fromTape_6 : decode cX12_fromTape 6 = .ok (.iconst 0, 1) := by decide +kernel
theorem dX12_fromTape_7 : decode cX12_fromTape 7 = .ok (.putfield 16, 3) := by decide +kernel
theorem dX12_fromTape_10 : decode cX12_fromTape 10 = .ok (.aload_n 0, 1) := by decide +kernel
theorem dX12_fromTape_11 : decode cX12_fromTape 11 = .ok (.getfield 35, 3) := by decide +kernel
theorem dX12_fromTape_14 : decode cX12_fromTape 14 = .ok (.iconst 1, 1) := by decide +kernel
theorem dX12_fromTape_15 : decode cX12_fromTape 15 = .ok (.if_icmp .ne 5, 3) := by decide +kernel
theorem dX12_fromTape_20 : decode cX12_fromTape 20 = .ok (.aload_n 0, 1) := by decide +kernel
theorem dX12_fromTape_21 : decode cX12_fromTape 21 = .ok (.getfield 59, 3) := by decide +kernel
theorem dX12_fromTape_24 : decode cX12_fromTape 24 = .ok (.iload_n 1, 1) := by decide +kernel
theorem dX12_fromTape_25 : decode cX12_fromTape 25 = .ok (.lconst 0, 1) := by decide +kernel
theorem dX12_fromTape_26 : decode cX12_fromTape 26 = .ok (.iload_n 2, 1) := by decide +kernel
theorem dX12_fromTape_27 : decode cX12_fromTape 27 = .ok (.invokevirtual 165, 3) := by decide +kernel
theorem dX12_fromTape_30 : decode cX12_fromTape 30 = .ok (.istore_n 3, 1) := by decide +kernel
theorem dX12_fromTape_31 : decode cX12_fromTape 31 = .ok (.iload_n 3, 1) := by decide +kernel
theorem dX12_fromTape_32 : decode cX12_fromTape 32 = .ok (.iconst (-1), 1) := by decide +kernel
theorem dX12_fromTape_33 : decode cX12_fromTape 33 = .ok (.if_icmp .eq 15, 3) := by decide +kernel
theorem dX12_fromTape_36 : decode cX12_fromTape 36 = .ok (.aload_n 0, 1) := by decide +kernel
theorem dX12_fromTape_37 : decode cX12_fromTape 37 = .ok (.getfield 59, 3) := by decide +kernel
theorem dX12_fromTape_40 : decode cX12_fromTape 40 = .ok (.aload_n 0, 1) := by decide +kernel
theorem dX12_fromTape_41 : decode cX12_fromTape 41 = .ok (.getfield 13, 3) := by decide +kernel
theorem dX12_fromTape_44 : decode cX12_fromTape 44 = .ok (.iload_n 2, 1) := by decide +kernel
theorem dX12_fromTape_45 : decode cX12_fromTape 45 = .ok (.invokevirtual 173, 3) := by decide +kernel
theorem dX8_takeBytes_0 : decode cX8_takeBytes 0 = .ok (.iconst 0, 1) := by decide +kernel
theorem dX8_takeBytes_1 : decode cX8_takeBytes 1 = .ok (.istore_n 3, 1) := by decide +kernel
theorem dX8_takeBytes_2 : decode cX8_takeBytes 2 = .ok (.iload_n 3, 1) := by decide +kernel
theorem dX8_takeBytes_3 : decode cX8_takeBytes 3 = .ok (.iload_n 2, 1) := by decide +kernel
theorem dX8_takeBytes_4 : decode cX8_takeBytes 4 = .ok (.if_icmp .ge 27, 3) := by decide +kernel
theorem dX8_takeBytes_31 : decode cX8_takeBytes 31 = .ok (.aload_n 0, 1) := by decide +kernel
theorem dX8_takeBytes_32 : decode cX8_takeBytes 32 = .ok (.dup, 1) := by decide +kernel
theorem dX8_takeBytes_33 : decode cX8_takeBytes 33 = .ok (.getfield 40, 3) := by decide +kernel
theorem dX8_takeBytes_36 : decode cX8_takeBytes 36 = .ok (.iload_n 2, 1) := by decide +kernel
theorem dX8_takeBytes_37 : decode cX8_takeBytes 37 = .ok (.iadd, 1) := by decide +kernel
theorem dX8_takeBytes_38 : decode cX8_takeBytes 38 = .ok (.putfield 40, 3) := by decide +kernel
theorem dX8_takeBytes_41 : decode cX8_takeBytes 41 = .ok (.return_, 1) := by decide +kernel
theorem dX12_fromTape_48 : decode cX12_fromTape 48 = .ok (.iload_n 3, 1) := by decide +kernel
theorem dX12_fromTape_49 : decode cX12_fromTape 49 = .ok (.ireturn, 1) := by decide +kernel
theorem dX12_word_5 : decode cX12_word 5 = .ok (.ireturn, 1) := by decide +kernel
theorem dX14_word_0 : decode cX14_word 0 = .ok (.aload_n 0, 1) := by decide +kernel
theorem dX14_word_1 : decode cX14_word 1 = .ok (.iconst 0, 1) := by decide +kernel
theorem dX14_word_2 : decode cX14_word 2 = .ok (.putfield 806, 3) := by decide +kernel
theorem dX14_word_5 : decode cX14_word 5 = .ok (.aload_n 0, 1) := by decide +kernel
theorem dX14_word_6 : decode cX14_word 6 = .ok (.invokevirtual 812, 3) := by decide +kernel
theorem dX14_take_0 : decode cX14_take 0 = .ok (.aload_n 0, 1) := by decide +kernel
theorem dX14_take_1 : decode cX14_take 1 = .ok (.aload_n 0, 1) := by decide +kernel
theorem dX14_take_2 : decode cX14_take 2 = .ok (.getfield 788, 3) := by decide +kernel
theorem dX14_take_5 : decode cX14_take 5 = .ok (.putfield 791, 3) := by decide +kernel
theorem dX14_take_8 : decode cX14_take 8 = .ok (.aload_n 0, 1) := by decide +kernel
theorem dX14_take_9 : decode cX14_take 9 = .ok (.iconst 0, 1) := by decide +kernel
theorem dX14_take_10 : decode cX14_take 10 = .ok (.putfield 788, 3) := by decide +kernel
theorem dX14_take_13 : decode cX14_take 13 = .ok (.return_, 1) := by decide +kernel
theorem dX14_word_9 : decode cX14_word 9 = .ok (.aload_n 0, 1) := by decide +kernel
theorem dX14_word_10 : decode cX14_word 10 = .ok (.iconst 2, 1) := by decide +kernel
theorem dX14_word_11 : decode cX14_word 11 = .ok (.aload_n 0, 1) := by decide +kernel
theorem dX14_word_12 : decode cX14_word 12 = .ok (.getfield 791, 3) := by decide +kernel
theorem dX14_word_15 : decode cX14_word 15 = .ok (.invokevirtual 809, 3) := by decide +kernel
theorem dX14_word_18 : decode cX14_word 18 = .ok (.ireturn, 1) := by decide +kernel
theorem dX12_list_0 : decode cX12_list 0 = .ok (.aload_n 0, 1) := by decide +kernel
theorem dX12_list_1 : decode cX12_list 1 = .ok (.getfield 35, 3) := by decide +kernel
theorem dX12_list_4 : decode cX12_list 4 = .ok (.iconst 1, 1) := by decide +kernel
theorem dX12_list_5 : decode cX12_list 5 = .ok (.if_icmp .ne 7, 3) := by decide +kernel
theorem dX12_list_12 : decode cX12_list 12 = .ok (.aload_n 0, 1) := by decide +kernel
theorem dX12_list_13 : decode cX12_list 13 = .ok (.getfield 59, 3) := by decide +kernel
theorem dX12_list_16 : decode cX12_list 16 = .ok (.iconst 3, 1) := by decide +kernel
theorem dX12_list_17 : decode cX12_list 17 = .ok (.lconst 0, 1) := by decide +kernel
theorem dX12_list_18 : decode cX12_list 18 = .ok (.iconst 0, 1) := by decide +kernel
theorem dX12_list_19 : decode cX12_list 19 = .ok (.invokevirtual 165, 3) := by decide +kernel
theorem dX12_list_22 : decode cX12_list 22 = .ok (.ireturn, 1) := by decide +kernel
theorem dX14_list_0 : decode cX14_list 0 = .ok (.aload_n 0, 1) := by decide +kernel
theorem dX14_list_1 : decode cX14_list 1 = .ok (.iconst 0, 1) := by decide +kernel
theorem dX14_list_2 : decode cX14_list 2 = .ok (.putfield 806, 3) := by decide +kernel
theorem dX14_list_5 : decode cX14_list 5 = .ok (.aload_n 0, 1) := by decide +kernel
theorem dX14_list_6 : decode cX14_list 6 = .ok (.iconst 3, 1) := by decide +kernel
theorem dX14_list_7 : decode cX14_list 7 = .ok (.iconst 0, 1) := by decide +kernel
theorem dX14_list_8 : decode cX14_list 8 = .ok (.invokevirtual 809, 3) := by decide +kernel
theorem dX14_list_11 : decode cX14_list 11 = .ok (.ireturn, 1) := by decide +kernel
theorem dX12_map_0 : decode cX12_map 0 = .ok (.aload_n 0, 1) := by decide +kernel
theorem dX12_map_1 : decode cX12_map 1 = .ok (.getfield 35, 3) := by decide +kernel
theorem dX12_map_4 : decode cX12_map 4 = .ok (.iconst 1, 1) := by decide +kernel
theorem dX12_map_5 : decode cX12_map 5 = .ok (.if_icmp .ne 7, 3) := by decide +kernel
theorem dX12_map_12 : decode cX12_map 12 = .ok (.aload_n 0, 1) := by decide +kernel
theorem dX12_map_13 : decode cX12_map 13 = .ok (.getfield 59, 3) := by decide +kernel
theorem dX12_map_16 : decode cX12_map 16 = .ok (.iconst 4, 1) := by decide +kernel
theorem dX12_map_17 : decode cX12_map 17 = .ok (.lconst 0, 1) := by decide +kernel
theorem dX12_map_18 : decode cX12_map 18 = .ok (.iconst 0, 1) := by decide +kernel
theorem dX12_map_19 : decode cX12_map 19 = .ok (.invokevirtual 165, 3) := by decide +kernel
theorem dX12_map_22 : decode cX12_map 22 = .ok (.ireturn, 1) := by decide +kernel
theorem dX14_map_0 : decode cX14_map 0 = .ok (.aload_n 0, 1) := by decide +kernel
theorem dX14_map_1 : decode cX14_map 1 = .ok (.iconst 0, 1) := by decide +kernel
theorem dX14_map_2 : decode cX14_map 2 = .ok (.putfield 806, 3) := by decide +kernel
theorem dX14_map_5 : decode cX14_map 5 = .ok (.aload_n 0, 1) := by decide +kernel
theorem dX14_map_6 : decode cX14_map 6 = .ok (.iconst 4, 1) := by decide +kernel
theorem dX14_map_7 : decode cX14_map 7 = .ok (.iconst 0, 1) := by decide +kernel
theorem dX14_map_8 : decode cX14_map 8 = .ok (.invokevirtual 809, 3) := by decide +kernel
theorem dX14_map_11 : decode cX14_map 11 = .ok (.ireturn, 1) := by decide +kernel
theorem dX12_bean_0 : decode cX12_bean 0 = .ok (.aload_n 0, 1) := by decide +kernel
theorem dX12_bean_1 : decode cX12_bean 1 = .ok (.iconst 5, 1) := by decide +kernel
theorem dX12_bean_2 : decode cX12_bean 2 = .ok (.invokevirtual 169, 3) := by decide +kernel
theorem dX12_bean_5 : decode cX12_bean 5 = .ok (.ireturn, 1) := by decide +kernel
theorem dX14_bean_0 : decode cX14_bean 0 = .ok (.aload_n 0, 1) := by decide +kernel
theorem dX14_bean_1 : decode cX14_bean 1 = .ok (.iconst 0, 1) := by decide +kernel
theorem dX14_bean_2 : decode cX14_bean 2 = .ok (.putfield 806, 3) := by decide +kernel
theorem dX14_bean_5 : decode cX14_bean 5 = .ok (.aload_n 0, 1) := by decide +kernel
theorem dX14_bean_6 : decode cX14_bean 6 = .ok (.invokevirtual 812, 3) := by decide +kernel
theorem dX14_bean_9 : decode cX14_bean 9 = .ok (.aload_n 0, 1) := by decide +kernel
theorem dX14_bean_10 : decode cX14_bean 10 = .ok (.iconst 5, 1) := by decide +kernel
theorem dX14_bean_11 : decode cX14_bean 11 = .ok (.aload_n 0, 1) := by decide +kernel
theorem dX14_bean_12 : decode cX14_bean 12 = .ok (.getfield 791, 3) := by decide +kernel
theorem dX14_bean_15 : decode cX14_bean 15 = .ok (.invokevirtual 809, 3) := by decide +kernel
theorem dX14_bean_18 : decode cX14_bean 18 = .ok (.ireturn, 1) := by decide +kernel
theorem dX12_clear_0 : decode cX12_clear 0 = .ok (.aload_n 0, 1) := by decide +kernel
theorem dX12_clear_1 : decode cX12_clear 1 = .ok (.getfield 35, 3) := by decide +kernel
theorem dX12_clear_4 : decode cX12_clear 4 = .ok (.iconst 1, 1) := by decide +kernel
theorem dX12_clear_5 : decode cX12_clear 5 = .ok (.if_icmp .ne 5, 3) := by decide +kernel
theorem dX12_clear_10 : decode cX12_clear 10 = .ok (.aload_n 0, 1) := by decide +kernel
theorem dX12_clear_11 : decode cX12_clear 11 = .ok (.getfield 59, 3) := by decide +kernel
theorem dX12_clear_14 : decode cX12_clear 14 = .ok (.iconst 0, 1) := by decide +kernel
theorem dX12_clear_15 : decode cX12_clear 15 = .ok (.putfield 193, 3) := by decide +kernel
theorem dX12_clear_18 : decode cX12_clear 18 = .ok (.iconst 1, 1) := by decide +kernel
theorem dX12_clear_19 : decode cX12_clear 19 = .ok (.ireturn, 1) := by decide +kernel
theorem dX14_clear_0 : decode cX14_clear 0 = .ok (.aload_n 0, 1) := by decide +kernel
theorem dX14_clear_1 : decode cX14_clear 1 = .ok (.iconst 0, 1) := by decide +kernel
theorem dX14_clear_2 : decode cX14_clear 2 = .ok (.putfield 806, 3) := by decide +kernel
theorem dX14_clear_5 : decode cX14_clear 5 = .ok (.aload_n 0, 1) := by decide +kernel
theorem dX14_clear_6 : decode cX14_clear 6 = .ok (.invokevirtual 803, 3) := by decide +kernel
theorem dX14_clear_9 : decode cX14_clear 9 = .ok (.ifCond .eq 5, 3) := by decide +kernel
theorem dX14_clear_14 : decode cX14_clear 14 = .ok (.aload_n 0, 1) := by decide +kernel
theorem dX14_clear_15 : decode cX14_clear 15 = .ok (.iconst 0, 1) := by decide +kernel
theorem dX14_clear_16 : decode cX14_clear 16 = .ok (.putfield 830, 3) := by decide +kernel
theorem dX14_clear_19 : decode cX14_clear 19 = .ok (.iconst 1, 1) := by decide +kernel
theorem dX14_clear_20 : decode cX14_clear 20 = .ok (.ireturn, 1) := by decide +kernel
theorem dX12_stop_0 : decode cX12_stop 0 = .ok (.aload_n 0, 1) := by decide +kernel
theorem dX12_stop_1 : decode cX12_stop 1 = .ok (.getfield 35, 3) := by decide +kernel
theorem dX12_stop_4 : decode cX12_stop 4 = .ok (.iconst 1, 1) := by decide +kernel
theorem dX12_stop_5 : decode cX12_stop 5 = .ok (.if_icmp .eq 5, 3) := by decide +kernel
theorem dX12_stop_8 : decode cX12_stop 8 = .ok (.iconst 0, 1) := by decide +kernel
theorem dX12_stop_9 : decode cX12_stop 9 = .ok (.ireturn, 1) := by decide +kernel
theorem dX14_stop_0 : decode cX14_stop 0 = .ok (.aload_n 0, 1) := by decide +kernel
theorem dX14_stop_1 : decode cX14_stop 1 = .ok (.iconst 0, 1) := by decide +kernel
theorem dX14_stop_2 : decode cX14_stop 2 = .ok (.putfield 806, 3) := by decide +kernel
theorem dX14_stop_5 : decode cX14_stop 5 = .ok (.aload_n 0, 1) := by decide +kernel
theorem dX14_stop_6 : decode cX14_stop 6 = .ok (.invokevirtual 803, 3) := by decide +kernel
theorem dX14_stop_9 : decode cX14_stop 9 = .ok (.ifCond .ne 5, 3) := by decide +kernel
theorem dX14_stop_12 : decode cX14_stop 12 = .ok (.iconst 0, 1) := by decide +kernel
theorem dX14_stop_13 : decode cX14_stop 13 = .ok (.ireturn, 1) := by decide +kernel
theorem dX12_add_0 : decode cX12_add 0 = .ok (.aload_n 0, 1) := by decide +kernel
theorem dX12_add_1 : decode cX12_add 1 = .ok (.getfield 35, 3) := by decide +kernel
theorem dX12_add_4 : decode cX12_add 4 = .ok (.iconst 1, 1) := by decide +kernel
theorem dX12_add_5 : decode cX12_add 5 = .ok (.if_icmp .eq 19, 3) := by decide +kernel
theorem dX12_add_8 : decode cX12_add 8 = .ok (.aload_n 0, 1) := by decide +kernel
theorem dX12_add_9 : decode cX12_add 9 = .ok (.getfield 59, 3) := by decide +kernel
theorem dX12_add_12 : decode cX12_add 12 = .ok (.iload_n 1, 1) := by decide +kernel
theorem dX12_add_13 : decode cX12_add 13 = .ok (.iload_n 2, 1) := by decide +kernel
theorem dX12_add_14 : decode cX12_add 14 = .ok (.invokevirtual 177, 3) := by decide +kernel
theorem dX8_append_0 : decode cX8_append 0 = .ok (.aload_n 0, 1) := by decide +kernel
theorem dX8_append_1 : decode cX8_append 1 = .ok (.getfield 25, 3) := by decide +kernel
theorem dX8_append_4 : decode cX8_append 4 = .ok (.iload_n 1, 1) := by decide +kernel
theorem dX8_append_5 : decode cX8_append 5 = .ok (.invokestatic 70, 3) := by decide +kernel
theorem dX12_get_0 : decode cX12_get 0 = .ok (.iload_n 1, 1) := by decide +kernel
theorem dX12_get_1 : decode cX12_get 1 = .ok (.ifCond .lt 15, 3) := by decide +kernel
theorem dX12_get_16 : decode cX12_get 16 = .ok (.iconst 0, 1) := by decide +kernel
theorem dX12_get_17 : decode cX12_get 17 = .ok (.ireturn, 1) := by decide +kernel
theorem dX12_get_4 : decode cX12_get 4 = .ok (.iload_n 1, 1) := by decide +kernel
theorem dX12_get_5 : decode cX12_get 5 = .ok (.aload_n 0, 1) := by decide +kernel
theorem dX12_get_6 : decode cX12_get 6 = .ok (.arraylength, 1) := by decide +kernel
theorem dX12_get_7 : decode cX12_get 7 = .ok (.if_icmp .ge 9, 3) := by decide +kernel
theorem dX12_get_10 : decode cX12_get 10 = .ok (.aload_n 0, 1) := by decide +kernel
theorem dX12_get_11 : decode cX12_get 11 = .ok (.iload_n 1, 1) := by decide +kernel
theorem dX12_get_12 : decode cX12_get 12 = .ok (.iaload, 1) := by decide +kernel
theorem dX12_get_13 : decode cX12_get 13 = .ok (.goto 4, 3) := by decide +kernel
theorem dX8_append_8 : decode cX8_append 8 = .ok (.istore_n 3, 1) := by decide +kernel
theorem dX8_append_9 : decode cX8_append 9 = .ok (.aload_n 0, 1) := by decide +kernel
theorem dX8_append_10 : decode cX8_append 10 = .ok (.iload_n 1, 1) := by decide +kernel
theorem dX8_append_11 : decode cX8_append 11 = .ok (.iconst 3, 1) := by decide +kernel
theorem dX8_append_12 : decode cX8_append 12 = .ok (.invokevirtual 82, 3) := by decide +kernel
theorem dX8_is_0 : decode cX8_is 0 = .ok (.iload_n 1, 1) := by decide +kernel
theorem dX8_is_1 : decode cX8_is 1 = .ok (.ifCond .lt 27, 3) := by decide +kernel
theorem dX8_is_28 : decode cX8_is 28 = .ok (.iconst 0, 1) := by decide +kernel
theorem dX8_is_29 : decode cX8_is 29 = .ok (.ireturn, 1) := by decide +kernel
theorem dX8_is_4 : decode cX8_is 4 = .ok (.iload_n 1, 1) := by decide +kernel
theorem dX8_is_5 : decode cX8_is 5 = .ok (.aload_n 0, 1) := by decide +kernel
theorem dX8_is_6 : decode cX8_is 6 = .ok (.getfield 36, 3) := by decide +kernel
theorem dX8_is_9 : decode cX8_is 9 = .ok (.if_icmp .ge 19, 3) := by decide +kernel
theorem dX8_append_15 : decode cX8_append 15 = .ok (.ifCond .eq 28, 3) := by decide +kernel
theorem dX8_append_43 : decode cX8_append 43 = .ok (.iconst 0, 1) := by decide +kernel
theorem dX8_append_44 : decode cX8_append 44 = .ok (.ireturn, 1) := by decide +kernel
theorem dX12_add_17 : decode cX12_add 17 = .ok (.ifCond .eq 7, 3) := by decide +kernel
theorem dX12_add_24 : decode cX12_add 24 = .ok (.iconst 0, 1) := by decide +kernel
theorem dX12_add_25 : decode cX12_add 25 = .ok (.ireturn, 1) := by decide +kernel
theorem dX14_add_0 : decode cX14_add 0 = .ok (.aload_n 0, 1) := by decide +kernel
theorem dX14_add_1 : decode cX14_add 1 = .ok (.iconst 0, 1) := by decide +kernel
theorem dX14_add_2 : decode cX14_add 2 = .ok (.putfield 806, 3) := by decide +kernel
theorem dX14_add_5 : decode cX14_add 5 = .ok (.aload_n 0, 1) := by decide +kernel
theorem dX14_add_6 : decode cX14_add 6 = .ok (.invokevirtual 803, 3) := by decide +kernel
theorem dX14_add_9 : decode cX14_add 9 = .ok (.ifCond .ne 42, 3) := by decide +kernel
theorem dX14_add_12 : decode cX14_add 12 = .ok (.aload_n 0, 1) := by decide +kernel
theorem dX14_add_13 : decode cX14_add 13 = .ok (.iload_n 1, 1) := by decide +kernel
theorem dX14_add_14 : decode cX14_add 14 = .ok (.iconst 3, 1) := by decide +kernel
theorem dX14_add_15 : decode cX14_add 15 = .ok (.invokevirtual 815, 3) := by decide +kernel
theorem dX14_isValue_0 : decode cX14_isValue 0 = .ok (.iload_n 1, 1) := by decide +kernel
theorem dX14_isValue_1 : decode cX14_isValue 1 = .ok (.ifCond .lt 25, 3) := by decide +kernel
theorem dX14_isValue_26 : decode cX14_isValue 26 = .ok (.iconst 0, 1) := by decide +kernel
theorem dX14_isValue_27 : decode cX14_isValue 27 = .ok (.ireturn, 1) := by decide +kernel
theorem dX14_isValue_4 : decode cX14_isValue 4 = .ok (.iload_n 1, 1) := by decide +kernel
theorem dX14_isValue_5 : decode cX14_isValue 5 = .ok (.aload_n 0, 1) := by decide +kernel
theorem dX14_isValue_6 : decode cX14_isValue 6 = .ok (.getfield 797, 3) := by decide +kernel
theorem dX14_isValue_9 : decode cX14_isValue 9 = .ok (.if_icmp .ge 17, 3) := by decide +kernel
theorem dX14_add_18 : decode cX14_add 18 = .ok (.ifCond .eq 33, 3) := by decide +kernel
theorem dX14_add_51 : decode cX14_add 51 = .ok (.iconst 0, 1) := by decide +kernel
theorem dX14_add_52 : decode cX14_add 52 = .ok (.ireturn, 1) := by decide +kernel
theorem dX12_entry_0 : decode cX12_entry 0 = .ok (.aload_n 0, 1) := by decide +kernel
theorem dX12_entry_1 : decode cX12_entry 1 = .ok (.getfield 16, 3) := by decide +kernel
theorem dX12_entry_4 : decode cX12_entry 4 = .ok (.istore_n 3, 1) := by decide +kernel
theorem dX12_entry_5 : decode cX12_entry 5 = .ok (.aload_n 0, 1) := by decide +kernel
theorem dX12_entry_6 : decode cX12_entry 6 = .ok (.iconst 0, 1) := by decide +kernel
theorem dX12_entry_7 : decode cX12_entry 7 = .ok (.putfield 16, 3) := by decide +kernel
theorem dX12_entry_10 : decode cX12_entry 10 = .ok (.aload_n 0, 1) := by decide +kernel
theorem dX12_entry_11 : decode cX12_entry 11 = .ok (.getfield 35, 3) := by decide +kernel
theorem dX12_entry_14 : decode cX12_entry 14 = .ok (.iconst 1, 1) := by decide +kernel
theorem dX12_entry_15 : decode cX12_entry 15 = .ok (.if_icmp .eq 24, 3) := by decide +kernel
theorem dX12_entry_18 : decode cX12_entry 18 = .ok (.aload_n 0, 1) := by decide +kernel
theorem dX12_entry_19 : decode cX12_entry 19 = .ok (.getfield 59, 3) := by decide +kernel
theorem dX12_entry_22 : decode cX12_entry 22 = .ok (.iload_n 1, 1) := by decide +kernel
theorem dX12_entry_23 : decode cX12_entry 23 = .ok (.iload_n 2, 1) := by decide +kernel
theorem dX12_entry_24 : decode cX12_entry 24 = .ok (.aload_n 0, 1) := by decide +kernel
theorem dX12_entry_25 : decode cX12_entry 25 = .ok (.getfield 13, 3) := by decide +kernel
theorem dX12_entry_28 : decode cX12_entry 28 = .ok (.iload_n 3, 1) := by decide +kernel
theorem dX12_entry_29 : decode cX12_entry 29 = .ok (.invokevirtual 181, 3) := by decide +kernel
theorem dX8_setKey_0 : decode cX8_setKey 0 = .ok (.aload_n 0, 1) := by decide +kernel
theorem dX8_setKey_1 : decode cX8_setKey 1 = .ok (.iload_n 1, 1) := by decide +kernel
theorem dX8_setKey_2 : decode cX8_setKey 2 = .ok (.iconst 4, 1) := by decide +kernel
theorem dX8_setKey_3 : decode cX8_setKey 3 = .ok (.invokevirtual 82, 3) := by decide +kernel
theorem dX8_setKey_6 : decode cX8_setKey 6 = .ok (.ifCond .eq 25, 3) := by decide +kernel
theorem dX8_setKey_31 : decode cX8_setKey 31 = .ok (.iconst 0, 1) := by decide +kernel
theorem dX8_setKey_32 : decode cX8_setKey 32 = .ok (.ireturn, 1) := by decide +kernel
theorem dX12_entry_32 : decode cX12_entry 32 = .ok (.ifCond .eq 7, 3) := by decide +kernel
theorem dX12_entry_39 : decode cX12_entry 39 = .ok (.iconst 0, 1) := by decide +kernel
theorem dX12_entry_40 : decode cX12_entry 40 = .ok (.ireturn, 1) := by decide +kernel
theorem dX14_entry_0 : decode cX14_entry 0 = .ok (.aload_n 0, 1) := by decide +kernel
theorem dX14_entry_1 : decode cX14_entry 1 = .ok (.iconst 0, 1) := by decide +kernel
theorem dX14_entry_2 : decode cX14_entry 2 = .ok (.putfield 806, 3) := by decide +kernel
theorem dX14_entry_5 : decode cX14_entry 5 = .ok (.aload_n 0, 1) := by decide +kernel
theorem dX14_entry_6 : decode cX14_entry 6 = .ok (.invokevirtual 812, 3) := by decide +kernel
theorem dX14_entry_9 : decode cX14_entry 9 = .ok (.aload_n 0, 1) := by decide +kernel
theorem dX14_entry_10 : decode cX14_entry 10 = .ok (.invokevirtual 803, 3) := by decide +kernel
theorem dX14_entry_13 : decode cX14_entry 13 = .ok (.ifCond .ne 38, 3) := by decide +kernel
theorem dX14_entry_16 : decode cX14_entry 16 = .ok (.aload_n 0, 1) := by decide +kernel
theorem dX14_entry_17 : decode cX14_entry 17 = .ok (.iload_n 1, 1) := by decide +kernel
theorem dX14_entry_18 : decode cX14_entry 18 = .ok (.iconst 4, 1) := by decide +kernel
theorem dX14_entry_19 : decode cX14_entry 19 = .ok (.invokevirtual 815, 3) := by decide +kernel
theorem dX14_entry_22 : decode cX14_entry 22 = .ok (.ifCond .eq 29, 3) := by decide +kernel
theorem dX14_entry_51 : decode cX14_entry 51 = .ok (.iconst 0, 1) := by decide +kernel
theorem dX14_entry_52 : decode cX14_entry 52 = .ok (.ireturn, 1) := by decide +kernel
theorem dX12_property_0 : decode cX12_property 0 = .ok (.aload_n 0, 1) := by decide +kernel
theorem dX12_property_1 : decode cX12_property 1 = .ok (.getfield 16, 3) := by decide +kernel
theorem dX12_property_4 : decode cX12_property 4 = .ok (.istore 4, 2) := by decide +kernel
theorem dX12_property_6 : decode cX12_property 6 = .ok (.aload_n 0, 1) := by decide +kernel
theorem dX12_property_7 : decode cX12_property 7 = .ok (.iconst 0, 1) := by decide +kernel
theorem dX12_property_8 : decode cX12_property 8 = .ok (.putfield 16, 3) := by decide +kernel
theorem dX12_property_11 : decode cX12_property 11 = .ok (.aload_n 0, 1) := by decide +kernel
theorem dX12_property_12 : decode cX12_property 12 = .ok (.getfield 35, 3) := by decide +kernel
theorem dX12_property_15 : decode cX12_property 15 = .ok (.iconst 1, 1) := by decide +kernel
theorem dX12_property_16 : decode cX12_property 16 = .ok (.if_icmp .eq 12, 3) := by decide +kernel
theorem dX12_property_19 : decode cX12_property 19 = .ok (.iload_n 2, 1) := by decide +kernel
theorem dX12_property_20 : decode cX12_property 20 = .ok (.ifCond .lt 8, 3) := by decide +kernel
theorem dX12_property_28 : decode cX12_property 28 = .ok (.iconst 0, 1) := by decide +kernel
theorem dX12_property_29 : decode cX12_property 29 = .ok (.ireturn, 1) := by decide +kernel
theorem dX12_property_23 : decode cX12_property 23 = .ok (.iload_n 2, 1) := by decide +kernel
theorem dX12_property_24 : decode cX12_property 24 = .ok (.iconst 3, 1) := by decide +kernel
theorem dX12_property_25 : decode cX12_property 25 = .ok (.if_icmp .le 5, 3) := by decide +kernel
theorem dX12_property_30 : decode cX12_property 30 = .ok (.aload_n 0, 1) := by decide +kernel
theorem dX12_property_31 : decode cX12_property 31 = .ok (.getfield 59, 3) := by decide +kernel
theorem dX12_property_34 : decode cX12_property 34 = .ok (.iload_n 1, 1) := by decide +kernel
theorem dX12_property_35 : decode cX12_property 35 = .ok (.iload_n 2, 1) := by decide +kernel
theorem dX12_property_36 : decode cX12_property 36 = .ok (.iload_n 3, 1) := by decide +kernel
theorem dX12_property_37 : decode cX12_property 37 = .ok (.aload_n 0, 1) := by decide +kernel
theorem dX12_property_38 : decode cX12_property 38 = .ok (.getfield 13, 3) := by decide +kernel
theorem dX12_property_41 : decode cX12_property 41 = .ok (.iload 4, 2) := by decide +kernel
theorem dX12_property_43 : decode cX12_property 43 = .ok (.invokevirtual 185, 3) := by decide +kernel
theorem dX8_addProperty_0 : decode cX8_addProperty 0 = .ok (.aload_n 0, 1) := by decide +kernel
theorem dX8_addProperty_1 : decode cX8_addProperty 1 = .ok (.iload_n 1, 1) := by decide +kernel
theorem dX8_addProperty_2 : decode cX8_addProperty 2 = .ok (.iconst 5, 1) := by decide +kernel
theorem dX8_addProperty_3 : decode cX8_addProperty 3 = .ok (.invokevirtual 82, 3) := by decide +kernel
theorem dX8_addProperty_6 : decode cX8_addProperty 6 = .ok (.ifCond .eq 30, 3) := by decide +kernel
theorem dX8_addProperty_36 : decode cX8_addProperty 36 = .ok (.iconst 0, 1) := by decide +kernel
theorem dX8_addProperty_37 : decode cX8_addProperty 37 = .ok (.ireturn, 1) := by decide +kernel
theorem dX12_property_46 : decode cX12_property 46 = .ok (.ireturn, 1) := by decide +kernel
theorem dX14_property_0 : decode cX14_property 0 = .ok (.aload_n 0, 1) := by decide +kernel
theorem dX14_property_1 : decode cX14_property 1 = .ok (.iconst 0, 1) := by decide +kernel
theorem dX14_property_2 : decode cX14_property 2 = .ok (.putfield 806, 3) := by decide +kernel
theorem dX14_property_5 : decode cX14_property 5 = .ok (.aload_n 0, 1) := by decide +kernel
theorem dX14_property_6 : decode cX14_property 6 = .ok (.invokevirtual 812, 3) := by decide +kernel
theorem dX14_property_9 : decode cX14_property 9 = .ok (.aload_n 0, 1) := by decide +kernel
theorem dX14_property_10 : decode cX14_property 10 = .ok (.invokevirtual 803, 3) := by decide +kernel
theorem dX14_property_13 : decode cX14_property 13 = .ok (.ifCond .ne 78, 3) := by decide +kernel
theorem dX14_property_16 : decode cX14_property 16 = .ok (.aload_n 0, 1) := by decide +kernel
theorem dX14_property_17 : decode cX14_property 17 = .ok (.iload_n 1, 1) := by decide +kernel
theorem dX14_property_18 : decode cX14_property 18 = .ok (.iconst 5, 1) := by decide +kernel
theorem dX14_property_19 : decode cX14_property 19 = .ok (.invokevirtual 815, 3) := by decide +kernel
theorem dX14_property_22 : decode cX14_property 22 = .ok (.ifCond .eq 69, 3) := by decide +kernel
theorem dX14_property_91 : decode cX14_property 91 = .ok (.iconst 0, 1) := by decide +kernel
theorem dX14_property_92 : decode cX14_property 92 = .ok (.ireturn, 1) := by decide +kernel
theorem dX12_attribute_0 : decode cX12_attribute 0 = .ok (.aload_n 0, 1) := by decide +kernel
theorem dX12_attribute_1 : decode cX12_attribute 1 = .ok (.getfield 16, 3) := by decide +kernel
theorem dX12_attribute_4 : decode cX12_attribute 4 = .ok (.istore_n 2, 1) := by decide +kernel
theorem dX12_attribute_5 : decode cX12_attribute 5 = .ok (.aload_n 0, 1) := by decide +kernel
theorem dX12_attribute_6 : decode cX12_attribute 6 = .ok (.iconst 0, 1) := by decide +kernel
theorem dX12_attribute_7 : decode cX12_attribute 7 = .ok (.putfield 16, 3) := by decide +kernel
theorem dX12_attribute_10 : decode cX12_attribute 10 = .ok (.aload_n 0, 1) := by decide +kernel
theorem dX12_attribute_11 : decode cX12_attribute 11 = .ok (.getfield 35, 3) := by decide +kernel
theorem dX12_attribute_14 : decode cX12_attribute 14 = .ok (.iconst 1, 1) := by decide +kernel
theorem dX12_attribute_15 : decode cX12_attribute 15 = .ok (.if_icmp .ne 7, 3) := by decide +kernel
theorem dX12_attribute_22 : decode cX12_attribute 22 = .ok (.aload_n 0, 1) := by decide +kernel
theorem dX12_attribute_23 : decode cX12_attribute 23 = .ok (.getfield 59, 3) := by decide +kernel
theorem dX12_attribute_26 : decode cX12_attribute 26 = .ok (.aload_n 0, 1) := by decide +kernel
theorem dX12_attribute_27 : decode cX12_attribute 27 = .ok (.getfield 13, 3) := by decide +kernel
theorem dX12_attribute_30 : decode cX12_attribute 30 = .ok (.iload_n 2, 1) := by decide +kernel
theorem dX12_attribute_31 : decode cX12_attribute 31 = .ok (.iload_n 1, 1) := by decide +kernel
theorem dX12_attribute_32 : decode cX12_attribute 32 = .ok (.invokevirtual 189, 3) := by decide +kernel
theorem dX8_addAttribute_0 : decode cX8_addAttribute 0 = .ok (.iload_n 3, 1) := by decide +kernel
theorem dX8_addAttribute_1 : decode cX8_addAttribute 1 = .ok (.iconst (-1), 1) := by decide +kernel
theorem dX8_addAttribute_2 : decode cX8_addAttribute 2 = .ok (.if_icmp .lt 11, 3) := by decide +kernel
theorem dX8_addAttribute_13 : decode cX8_addAttribute 13 = .ok (.iconst (-1), 1) := by decide +kernel
theorem dX8_addAttribute_14 : decode cX8_addAttribute 14 = .ok (.ireturn, 1) := by decide +kernel
theorem dX8_addAttribute_5 : decode cX8_addAttribute 5 = .ok (.iload_n 3, 1) := by decide +kernel
theorem dX8_addAttribute_6 : decode cX8_addAttribute 6 = .ok (.aload_n 0, 1) := by decide +kernel
theorem dX8_addAttribute_7 : decode cX8_addAttribute 7 = .ok (.getfield 36, 3) := by decide +kernel
theorem dX8_addAttribute_10 : decode cX8_addAttribute 10 = .ok (.if_icmp .lt 5, 3) := by decide +kernel
theorem dX8_addAttribute_15 : decode cX8_addAttribute 15 = .ok (.iload_n 2, 1) := by decide +kernel
theorem dX8_addAttribute_16 : decode cX8_addAttribute 16 = .ok (.iconst 1, 1) := by decide +kernel
theorem dX8_addAttribute_17 : decode cX8_addAttribute 17 = .ok (.if_icmp .lt 18, 3) := by decide +kernel
theorem dX8_addAttribute_35 : decode cX8_addAttribute 35 = .ok (.iconst (-1), 1) := by decide +kernel
theorem dX8_addAttribute_36 : decode cX8_addAttribute 36 = .ok (.ireturn, 1) := by decide +kernel
theorem dX12_attribute_35 : decode cX12_attribute 35 = .ok (.ireturn, 1) := by decide +kernel
theorem dX14_attribute_0 : decode cX14_attribute 0 = .ok (.aload_n 0, 1) := by decide +kernel
theorem dX14_attribute_1 : decode cX14_attribute 1 = .ok (.iconst 0, 1) := by decide +kernel
theorem dX14_attribute_2 : decode cX14_attribute 2 = .ok (.putfield 806, 3) := by decide +kernel
theorem dX14_attribute_5 : decode cX14_attribute 5 = .ok (.aload_n 0, 1) := by decide +kernel
theorem dX14_attribute_6 : decode cX14_attribute 6 = .ok (.invokevirtual 812, 3) := by decide +kernel
theorem dX14_attribute_9 : decode cX14_attribute 9 = .ok (.aload_n 0, 1) := by decide +kernel
theorem dX14_attribute_10 : decode cX14_attribute 10 = .ok (.invokevirtual 803, 3) := by decide +kernel
theorem dX14_attribute_13 : decode cX14_attribute 13 = .ok (.ifCond .ne 42, 3) := by decide +kernel
theorem dX14_attribute_16 : decode cX14_attribute 16 = .ok (.iload_n 1, 1) := by decide +kernel
theorem dX14_attribute_17 : decode cX14_attribute 17 = .ok (.iconst (-1), 1) := by decide +kernel
theorem dX14_attribute_18 : decode cX14_attribute 18 = .ok (.if_icmp .lt 37, 3) := by decide +kernel
theorem dX14_attribute_55 : decode cX14_attribute 55 = .ok (.iconst (-1), 1) := by decide +kernel
theorem dX14_attribute_56 : decode cX14_attribute 56 = .ok (.ireturn, 1) := by decide +kernel
theorem dX14_attribute_21 : decode cX14_attribute 21 = .ok (.iload_n 1, 1) := by decide +kernel
theorem dX14_attribute_22 : decode cX14_attribute 22 = .ok (.aload_n 0, 1) := by decide +kernel
theorem dX14_attribute_23 : decode cX14_attribute 23 = .ok (.getfield 797, 3) := by decide +kernel
theorem dX14_attribute_26 : decode cX14_attribute 26 = .ok (.if_icmp .ge 29, 3) := by decide +kernel
theorem dX14_attribute_29 : decode cX14_attribute 29 = .ok (.aload_n 0, 1) := by decide +kernel
theorem dX14_attribute_30 : decode cX14_attribute 30 = .ok (.getfield 791, 3) := by decide +kernel
theorem dX14_attribute_33 : decode cX14_attribute 33 = .ok (.iconst 1, 1) := by decide +kernel
theorem dX14_attribute_34 : decode cX14_attribute 34 = .ok (.if_icmp .lt 21, 3) := by decide +kernel
theorem dX12_width_0 : decode cX12_width 0 = .ok (.iload_n 1, 1) := by decide +kernel
theorem dX12_width_1 : decode cX12_width 1 = .ok (.ifCond .lt 10, 3) := by decide +kernel
theorem dX12_width_11 : decode cX12_width 11 = .ok (.iconst 0, 1) := by decide +kernel
theorem dX12_width_12 : decode cX12_width 12 = .ok (.ireturn, 1) := by decide +kernel
theorem dX14_width_0 : decode cX14_width 0 = .ok (.aload_n 0, 1) := by decide +kernel
theorem dX14_width_1 : decode cX14_width 1 = .ok (.iconst 0, 1) := by decide +kernel
theorem dX14_width_2 : decode cX14_width 2 = .ok (.putfield 806, 3) := by decide +kernel
theorem dX14_width_5 : decode cX14_width 5 = .ok (.iload_n 1, 1) := by decide +kernel
theorem dX14_width_6 : decode cX14_width 6 = .ok (.ifCond .lt 10, 3) := by decide +kernel
theorem dX14_width_16 : decode cX14_width 16 = .ok (.iconst 0, 1) := by decide +kernel
theorem dX14_width_17 : decode cX14_width 17 = .ok (.ireturn, 1) := by decide +kernel
theorem dX12_width_4 : decode cX12_width 4 = .ok (.iload_n 1, 1) := by decide +kernel
theorem dX12_width_5 : decode cX12_width 5 = .ok (.sipush 1000, 3) := by decide +kernel
theorem dX12_width_8 : decode cX12_width 8 = .ok (.if_icmp .le 5, 3) := by decide +kernel
theorem dX14_width_9 : decode cX14_width 9 = .ok (.iload_n 1, 1) := by decide +kernel
theorem dX14_width_10 : decode cX14_width 10 = .ok (.sipush 1000, 3) := by decide +kernel
theorem dX14_width_13 : decode cX14_width 13 = .ok (.if_icmp .le 5, 3) := by decide +kernel
theorem dX12_width_13 : decode cX12_width 13 = .ok (.aload_n 0, 1) := by decide +kernel
theorem dX12_width_14 : decode cX12_width 14 = .ok (.iload_n 1, 1) := by decide +kernel
theorem dX12_width_15 : decode cX12_width 15 = .ok (.putfield 32, 3) := by decide +kernel
theorem dX12_width_18 : decode cX12_width 18 = .ok (.iconst 1, 1) := by decide +kernel
theorem dX12_width_19 : decode cX12_width 19 = .ok (.ireturn, 1) := by decide +kernel
theorem dX14_width_18 : decode cX14_width 18 = .ok (.aload_n 0, 1) := by decide +kernel
theorem dX14_width_19 : decode cX14_width 19 = .ok (.iload_n 1, 1) := by decide +kernel
theorem dX14_width_20 : decode cX14_width 20 = .ok (.putfield 833, 3) := by decide +kernel
theorem dX14_width_23 : decode cX14_width 23 = .ok (.iconst 1, 1) := by decide +kernel
theorem dX14_width_24 : decode cX14_width 24 = .ok (.ireturn, 1) := by decide +kernel
theorem dX12_byteOf_0 : decode cX12_byteOf 0 = .ok (.aload_n 0, 1) := by decide +kernel
theorem dX12_byteOf_1 : decode cX12_byteOf 1 = .ok (.getfield 35, 3) := by decide +kernel
theorem dX12_byteOf_4 : decode cX12_byteOf 4 = .ok (.ifCond .eq 15, 3) := by decide +kernel
theorem dX12_byteOf_19 : decode cX12_byteOf 19 = .ok (.iconst (-1), 1) := by decide +kernel
theorem dX12_byteOf_20 : decode cX12_byteOf 20 = .ok (.goto 17, 3) := by decide +kernel
theorem dX12_byteOf_37 : decode cX12_byteOf 37 = .ok (.ireturn, 1) := by decide +kernel
theorem dX14_byteOf_0 : decode cX14_byteOf 0 = .ok (.aload_n 0, 1) := by decide +kernel
theorem dX14_byteOf_1 : decode cX14_byteOf 1 = .ok (.iconst 0, 1) := by decide +kernel
theorem dX14_byteOf_2 : decode cX14_byteOf 2 = .ok (.putfield 806, 3) := by decide +kernel
theorem dX14_byteOf_5 : decode cX14_byteOf 5 = .ok (.iload_n 1, 1) := by decide +kernel
theorem dX14_byteOf_6 : decode cX14_byteOf 6 = .ok (.ifCond .lt 24, 3) := by decide +kernel
theorem dX14_byteOf_30 : decode cX14_byteOf 30 = .ok (.iconst (-1), 1) := by decide +kernel
theorem dX14_byteOf_31 : decode cX14_byteOf 31 = .ok (.ireturn, 1) := by decide +kernel
theorem dX14_byteOf_9 : decode cX14_byteOf 9 = .ok (.iload_n 1, 1) := by decide +kernel
theorem dX14_byteOf_10 : decode cX14_byteOf 10 = .ok (.aload_n 0, 1) := by decide +kernel
theorem dX14_byteOf_11 : decode cX14_byteOf 11 = .ok (.getfield 980, 3) := by decide +kernel
theorem dX14_byteOf_14 : decode cX14_byteOf 14 = .ok (.if_icmp .ge 16, 3) := by decide +kernel
theorem dX12_error_0 : decode cX12_error 0 = .ok (.iload_n 1, 1) := by decide +kernel
theorem dX12_error_1 : decode cX12_error 1 = .ok (.ifCond .lt 28, 3) := by decide +kernel
theorem dX12_error_29 : decode cX12_error 29 = .ok (.iconst (-1), 1) := by decide +kernel
theorem dX12_error_30 : decode cX12_error 30 = .ok (.ireturn, 1) := by decide +kernel
theorem dX12_error_4 : decode cX12_error 4 = .ok (.iload_n 1, 1) := by decide +kernel
theorem dX12_error_5 : decode cX12_error 5 = .ok (.sipush 400, 3) := by decide +kernel
theorem dX12_error_8 : decode cX12_error 8 = .ok (.if_icmp .ge 21, 3) := by decide +kernel
theorem dX12_error_11 : decode cX12_error 11 = .ok (.iload_n 2, 1) := by decide +kernel
theorem dX12_error_12 : decode cX12_error 12 = .ok (.ifCond .lt 17, 3) := by decide +kernel
theorem dX12_error_15 : decode cX12_error 15 = .ok (.iload_n 2, 1) := by decide +kernel
theorem dX12_error_16 : decode cX12_error 16 = .ok (.iconst 2, 1) := by decide +kernel
theorem dX12_error_17 : decode cX12_error 17 = .ok (.if_icmp .gt 12, 3) := by decide +kernel
theorem dX12_error_20 : decode cX12_error 20 = .ok (.iload_n 1, 1) := by decide +kernel
theorem dX12_error_21 : decode cX12_error 21 = .ok (.aload_n 0, 1) := by decide +kernel
theorem dX12_error_22 : decode cX12_error 22 = .ok (.iconst 0, 1) := by decide +kernel
theorem dX12_error_23 : decode cX12_error 23 = .ok (.invokevirtual 223, 3) := by decide +kernel
theorem dX12_told_0 : decode cX12_told 0 = .ok (.aload_n 0, 1) := by decide +kernel
theorem dX12_told_1 : decode cX12_told 1 = .ok (.getfield 35, 3) := by decide +kernel
theorem dX12_told_4 : decode cX12_told 4 = .ok (.ifCond .ne 5, 3) := by decide +kernel
theorem dX12_told_7 : decode cX12_told 7 = .ok (.iconst 0, 1) := by decide +kernel
theorem dX12_told_8 : decode cX12_told 8 = .ok (.ireturn, 1) := by decide +kernel
theorem dX12_error_26 : decode cX12_error 26 = .ok (.if_icmp .lt 5, 3) := by decide +kernel
theorem dX14_error_0 : decode cX14_error 0 = .ok (.aload_n 0, 1) := by decide +kernel
theorem dX14_error_1 : decode cX14_error 1 = .ok (.iconst 0, 1) := by decide +kernel
theorem dX14_error_2 : decode cX14_error 2 = .ok (.putfield 806, 3) := by decide +kernel
theorem dX14_error_5 : decode cX14_error 5 = .ok (.iload_n 1, 1) := by decide +kernel
theorem dX14_error_6 : decode cX14_error 6 = .ok (.ifCond .lt 27, 3) := by decide +kernel
theorem dX14_error_33 : decode cX14_error 33 = .ok (.iconst (-1), 1) := by decide +kernel
theorem dX14_error_34 : decode cX14_error 34 = .ok (.ireturn, 1) := by decide +kernel
theorem dX14_error_9 : decode cX14_error 9 = .ok (.iload_n 1, 1) := by decide +kernel
theorem dX14_error_10 : decode cX14_error 10 = .ok (.aload_n 0, 1) := by decide +kernel
theorem dX14_error_11 : decode cX14_error 11 = .ok (.getfield 857, 3) := by decide +kernel
theorem dX14_error_14 : decode cX14_error 14 = .ok (.if_icmp .ge 19, 3) := by decide +kernel
theorem dX12_looked_0 : decode cX12_looked 0 = .ok (.iload_n 1, 1) := by decide +kernel
theorem dX12_looked_1 : decode cX12_looked 1 = .ok (.ifCond .lt 28, 3) := by decide +kernel
theorem dX12_looked_29 : decode cX12_looked 29 = .ok (.bipush (-2), 2) := by decide +kernel
theorem dX12_looked_31 : decode cX12_looked 31 = .ok (.ireturn, 1) := by decide +kernel
theorem dX12_looked_4 : decode cX12_looked 4 = .ok (.iload_n 1, 1) := by decide +kernel
theorem dX12_looked_5 : decode cX12_looked 5 = .ok (.sipush 1000, 3) := by decide +kernel
theorem dX12_looked_8 : decode cX12_looked 8 = .ok (.if_icmp .ge 21, 3) := by decide +kernel
theorem dX12_looked_11 : decode cX12_looked 11 = .ok (.iload_n 2, 1) := by decide +kernel
theorem dX12_looked_12 : decode cX12_looked 12 = .ok (.ifCond .lt 17, 3) := by decide +kernel
theorem dX12_looked_15 : decode cX12_looked 15 = .ok (.iload_n 2, 1) := by decide +kernel
theorem dX12_looked_16 : decode cX12_looked 16 = .ok (.iconst 1, 1) := by decide +kernel
theorem dX12_looked_17 : decode cX12_looked 17 = .ok (.if_icmp .gt 12, 3) := by decide +kernel
theorem dX12_looked_20 : decode cX12_looked 20 = .ok (.iload_n 1, 1) := by decide +kernel
theorem dX12_looked_21 : decode cX12_looked 21 = .ok (.aload_n 0, 1) := by decide +kernel
theorem dX12_looked_22 : decode cX12_looked 22 = .ok (.iconst 1, 1) := by decide +kernel
theorem dX12_looked_23 : decode cX12_looked 23 = .ok (.invokevirtual 223, 3) := by decide +kernel
theorem dX12_looked_26 : decode cX12_looked 26 = .ok (.if_icmp .lt 6, 3) := by decide +kernel
theorem dX14_looked_0 : decode cX14_looked 0 = .ok (.aload_n 0, 1) := by decide +kernel
theorem dX14_looked_1 : decode cX14_looked 1 = .ok (.iconst 0, 1) := by decide +kernel
theorem dX14_looked_2 : decode cX14_looked 2 = .ok (.putfield 806, 3) := by decide +kernel
theorem dX14_looked_5 : decode cX14_looked 5 = .ok (.iload_n 1, 1) := by decide +kernel
theorem dX14_looked_6 : decode cX14_looked 6 = .ok (.ifCond .lt 27, 3) := by decide +kernel
theorem dX14_looked_33 : decode cX14_looked 33 = .ok (.bipush (-2), 2) := by decide +kernel
theorem dX14_looked_35 : decode cX14_looked 35 = .ok (.ireturn, 1) := by decide +kernel
theorem dX14_looked_9 : decode cX14_looked 9 = .ok (.iload_n 1, 1) := by decide +kernel
theorem dX14_looked_10 : decode cX14_looked 10 = .ok (.aload_n 0, 1) := by decide +kernel
theorem dX14_looked_11 : decode cX14_looked 11 = .ok (.getfield 869, 3) := by decide +kernel
theorem dX14_looked_14 : decode cX14_looked 14 = .ok (.if_icmp .ge 19, 3) := by decide +kernel
theorem dX12_file_0 : decode cX12_file 0 = .ok (.aload_n 0, 1) := by decide +kernel
theorem dX12_file_1 : decode cX12_file 1 = .ok (.getfield 16, 3) := by decide +kernel
theorem dX12_file_4 : decode cX12_file 4 = .ok (.istore_n 2, 1) := by decide +kernel
theorem dX12_file_5 : decode cX12_file 5 = .ok (.aload_n 0, 1) := by decide +kernel
theorem dX12_file_6 : decode cX12_file 6 = .ok (.iconst 0, 1) := by decide +kernel
theorem dX12_file_7 : decode cX12_file 7 = .ok (.putfield 16, 3) := by decide +kernel
theorem dX12_file_10 : decode cX12_file 10 = .ok (.iload_n 1, 1) := by decide +kernel
theorem dX12_file_11 : decode cX12_file 11 = .ok (.ifCond .lt 9, 3) := by decide +kernel
theorem dX12_file_20 : decode cX12_file 20 = .ok (.iconst 0, 1) := by decide +kernel
theorem dX12_file_21 : decode cX12_file 21 = .ok (.ireturn, 1) := by decide +kernel
theorem dX14_file_0 : decode cX14_file 0 = .ok (.aload_n 0, 1) := by decide +kernel
theorem dX14_file_1 : decode cX14_file 1 = .ok (.iconst 0, 1) := by decide +kernel
theorem dX14_file_2 : decode cX14_file 2 = .ok (.putfield 806, 3) := by decide +kernel
theorem dX14_file_5 : decode cX14_file 5 = .ok (.aload_n 0, 1) := by decide +kernel
theorem dX14_file_6 : decode cX14_file 6 = .ok (.invokevirtual 812, 3) := by decide +kernel
theorem dX14_file_9 : decode cX14_file 9 = .ok (.iload_n 1, 1) := by decide +kernel
theorem dX14_file_10 : decode cX14_file 10 = .ok (.ifCond .lt 9, 3) := by decide +kernel
theorem dX14_file_19 : decode cX14_file 19 = .ok (.iconst 0, 1) := by decide +kernel
theorem dX14_file_20 : decode cX14_file 20 = .ok (.ireturn, 1) := by decide +kernel
theorem dX12_file_14 : decode cX12_file 14 = .ok (.iload_n 1, 1) := by decide +kernel
theorem dX12_file_15 : decode cX12_file 15 = .ok (.bipush 8, 2) := by decide +kernel
theorem dX12_file_17 : decode cX12_file 17 = .ok (.if_icmp .lt 5, 3) := by decide +kernel
theorem dX14_file_13 : decode cX14_file 13 = .ok (.iload_n 1, 1) := by decide +kernel
theorem dX14_file_14 : decode cX14_file 14 = .ok (.bipush 8, 2) := by decide +kernel
theorem dX14_file_16 : decode cX14_file 16 = .ok (.if_icmp .lt 5, 3) := by decide +kernel
theorem dX12_file_22 : decode cX12_file 22 = .ok (.iconst 0, 1) := by decide +kernel
theorem dX12_file_23 : decode cX12_file 23 = .ok (.istore_n 3, 1) := by decide +kernel
theorem dX12_file_24 : decode cX12_file 24 = .ok (.iload_n 3, 1) := by decide +kernel
theorem dX12_file_25 : decode cX12_file 25 = .ok (.iload_n 2, 1) := by decide +kernel
theorem dX12_file_26 : decode cX12_file 26 = .ok (.if_icmp .ge 49, 3) := by decide +kernel
theorem dX12_file_75 : decode cX12_file 75 = .ok (.aload_n 0, 1) := by decide +kernel
theorem dX12_file_76 : decode cX12_file 76 = .ok (.getfield 52, 3) := by decide +kernel
theorem dX12_file_79 : decode cX12_file 79 = .ok (.iload_n 1, 1) := by decide +kernel
theorem dX12_file_80 : decode cX12_file 80 = .ok (.aaload, 1) := by decide +kernel
theorem dX12_file_81 : decode cX12_file 81 = .ok (.astore_n 3, 1) := by decide +kernel
theorem dX12_file_82 : decode cX12_file 82 = .ok (.iconst 0, 1) := by decide +kernel
theorem dX12_file_83 : decode cX12_file 83 = .ok (.istore 4, 2) := by decide +kernel
theorem dX12_file_85 : decode cX12_file 85 = .ok (.iload 4, 2) := by decide +kernel
theorem dX12_file_87 : decode cX12_file 87 = .ok (.iload_n 2, 1) := by decide +kernel
theorem dX12_file_88 : decode cX12_file 88 = .ok (.if_icmp .ge 24, 3) := by decide +kernel
theorem dX12_file_112 : decode cX12_file 112 = .ok (.aload_n 0, 1) := by decide +kernel
theorem dX12_file_113 : decode cX12_file 113 = .ok (.getfield 55, 3) := by decide +kernel
theorem dX12_file_116 : decode cX12_file 116 = .ok (.iload_n 1, 1) := by decide +kernel
theorem dX12_file_117 : decode cX12_file 117 = .ok (.iload_n 2, 1) := by decide +kernel
theorem dX12_file_118 : decode cX12_file 118 = .ok (.iastore, 1) := by decide +kernel
theorem dX12_file_119 : decode cX12_file 119 = .ok (.iconst 1, 1) := by decide +kernel
theorem dX12_file_120 : decode cX12_file 120 = .ok (.ireturn, 1) := by decide +kernel
theorem dX14_file_21 : decode cX14_file 21 = .ok (.iconst 0, 1) := by decide +kernel
theorem dX14_file_22 : decode cX14_file 22 = .ok (.istore_n 2, 1) := by decide +kernel
theorem dX14_file_23 : decode cX14_file 23 = .ok (.iload_n 2, 1) := by decide +kernel
theorem dX14_file_24 : decode cX14_file 24 = .ok (.aload_n 0, 1) := by decide +kernel
theorem dX14_file_25 : decode cX14_file 25 = .ok (.getfield 791, 3) := by decide +kernel
theorem dX14_file_28 : decode cX14_file 28 = .ok (.if_icmp .ge 55, 3) := by decide +kernel
theorem dX14_file_83 : decode cX14_file 83 = .ok (.iconst 0, 1) := by decide +kernel
theorem dX14_file_84 : decode cX14_file 84 = .ok (.istore_n 2, 1) := by decide +kernel
theorem dX14_file_85 : decode cX14_file 85 = .ok (.iload_n 2, 1) := by decide +kernel
theorem dX14_file_86 : decode cX14_file 86 = .ok (.aload_n 0, 1) := by decide +kernel
theorem dX14_file_87 : decode cX14_file 87 = .ok (.getfield 791, 3) := by decide +kernel
theorem dX14_file_90 : decode cX14_file 90 = .ok (.if_icmp .ge 23, 3) := by decide +kernel
theorem dX14_file_113 : decode cX14_file 113 = .ok (.aload_n 0, 1) := by decide +kernel
theorem dX14_file_114 : decode cX14_file 114 = .ok (.getfield 21, 3) := by decide +kernel
theorem dX14_file_117 : decode cX14_file 117 = .ok (.iload_n 1, 1) := by decide +kernel
theorem dX14_file_118 : decode cX14_file 118 = .ok (.aload_n 0, 1) := by decide +kernel
theorem dX14_file_119 : decode cX14_file 119 = .ok (.getfield 791, 3) := by decide +kernel
theorem dX14_file_122 : decode cX14_file 122 = .ok (.iastore, 1) := by decide +kernel
theorem dX14_file_123 : decode cX14_file 123 = .ok (.iconst 1, 1) := by decide +kernel
theorem dX14_file_124 : decode cX14_file 124 = .ok (.ireturn, 1) := by decide +kernel
theorem dX12_end_0 : decode cX12_end 0 = .ok (.iload_n 1, 1) := by decide +kernel
theorem dX12_end_1 : decode cX12_end 1 = .ok (.ifCond .lt 21, 3) := by decide +kernel
theorem dX12_end_22 : decode cX12_end 22 = .ok (.iconst (-1), 1) := by decide +kernel
theorem dX12_end_23 : decode cX12_end 23 = .ok (.ireturn, 1) := by decide +kernel
theorem dX14_end_0 : decode cX14_end 0 = .ok (.aload_n 0, 1) := by decide +kernel
theorem dX14_end_1 : decode cX14_end 1 = .ok (.iconst 0, 1) := by decide +kernel
theorem dX14_end_2 : decode cX14_end 2 = .ok (.putfield 806, 3) := by decide +kernel
theorem dX14_end_5 : decode cX14_end 5 = .ok (.iload_n 1, 1) := by decide +kernel
theorem dX14_end_6 : decode cX14_end 6 = .ok (.ifCond .lt 21, 3) := by decide +kernel
theorem dX14_end_27 : decode cX14_end 27 = .ok (.iconst (-1), 1) := by decide +kernel
theorem dX14_end_28 : decode cX14_end 28 = .ok (.ireturn, 1) := by decide +kernel
theorem dX12_end_4 : decode cX12_end 4 = .ok (.iload_n 1, 1) := by decide +kernel
theorem dX12_end_5 : decode cX12_end 5 = .ok (.bipush 20, 2) := by decide +kernel
theorem dX12_end_7 : decode cX12_end 7 = .ok (.if_icmp .gt 15, 3) := by decide +kernel
theorem dX14_end_9 : decode cX14_end 9 = .ok (.iload_n 1, 1) := by decide +kernel
theorem dX14_end_10 : decode cX14_end 10 = .ok (.bipush 20, 2) := by decide +kernel
theorem dX14_end_12 : decode cX14_end 12 = .ok (.if_icmp .gt 15, 3) := by decide +kernel
theorem dX12_end_10 : decode cX12_end 10 = .ok (.aload_n 0, 1) := by decide +kernel
theorem dX12_end_11 : decode cX12_end 11 = .ok (.getfield 16, 3) := by decide +kernel
theorem dX12_end_14 : decode cX12_end 14 = .ok (.iload_n 1, 1) := by decide +kernel
theorem dX12_end_15 : decode cX12_end 15 = .ok (.iadd, 1) := by decide +kernel
theorem dX12_end_16 : decode cX12_end 16 = .ok (.sipush 4000, 3) := by decide +kernel
theorem dX12_end_19 : decode cX12_end 19 = .ok (.if_icmp .le 5, 3) := by decide +kernel
theorem dX12_end_24 : decode cX12_end 24 = .ok (.iconst 0, 1) := by decide +kernel
theorem dX12_end_25 : decode cX12_end 25 = .ok (.istore_n 2, 1) := by decide +kernel
theorem dX12_end_26 : decode cX12_end 26 = .ok (.iload_n 2, 1) := by decide +kernel
theorem dX12_end_27 : decode cX12_end 27 = .ok (.iload_n 1, 1) := by decide +kernel
theorem dX12_end_28 : decode cX12_end 28 = .ok (.if_icmp .ge 30, 3) := by decide +kernel
theorem dX12_end_58 : decode cX12_end 58 = .ok (.aload_n 0, 1) := by decide +kernel
theorem dX12_end_59 : decode cX12_end 59 = .ok (.dup, 1) := by decide +kernel
theorem dX12_end_60 : decode cX12_end 60 = .ok (.getfield 16, 3) := by decide +kernel
theorem dX12_end_63 : decode cX12_end 63 = .ok (.iload_n 1, 1) := by decide +kernel
theorem dX12_end_64 : decode cX12_end 64 = .ok (.iadd, 1) := by decide +kernel
theorem dX12_end_65 : decode cX12_end 65 = .ok (.putfield 16, 3) := by decide +kernel
theorem dX12_end_68 : decode cX12_end 68 = .ok (.aload_n 0, 1) := by decide +kernel
theorem dX12_end_69 : decode cX12_end 69 = .ok (.getfield 9, 3) := by decide +kernel
theorem dX12_end_72 : decode cX12_end 72 = .ok (.iconst 0, 1) := by decide +kernel
theorem dX12_end_73 : decode cX12_end 73 = .ok (.invokestatic 113, 3) := by decide +kernel
theorem dX12_end_76 : decode cX12_end 76 = .ok (.aload_n 0, 1) := by decide +kernel
theorem dX12_end_77 : decode cX12_end 77 = .ok (.getfield 16, 3) := by decide +kernel
theorem dX12_end_80 : decode cX12_end 80 = .ok (.ireturn, 1) := by decide +kernel
theorem dX12_end_31 : decode cX12_end 31 = .ok (.aload_n 0, 1) := by decide +kernel
theorem dX12_end_32 : decode cX12_end 32 = .ok (.getfield 13, 3) := by decide +kernel
theorem dX12_end_35 : decode cX12_end 35 = .ok (.aload_n 0, 1) := by decide +kernel
theorem dX12_end_36 : decode cX12_end 36 = .ok (.getfield 16, 3) := by decide +kernel
theorem dX12_end_39 : decode cX12_end 39 = .ok (.iload_n 2, 1) := by decide +kernel
theorem dX12_end_40 : decode cX12_end 40 = .ok (.iadd, 1) := by decide +kernel
theorem dX12_end_41 : decode cX12_end 41 = .ok (.aload_n 0, 1) := by decide +kernel
theorem dX12_end_42 : decode cX12_end 42 = .ok (.getfield 9, 3) := by decide +kernel
theorem dX12_end_45 : decode cX12_end 45 = .ok (.iload_n 2, 1) := by decide +kernel
theorem dX12_end_46 : decode cX12_end 46 = .ok (.invokestatic 109, 3) := by decide +kernel
theorem dX12_getByte_0 : decode cX12_getByte 0 = .ok (.iload_n 1, 1) := by decide +kernel
theorem dX12_getByte_1 : decode cX12_getByte 1 = .ok (.ifCond .lt 19, 3) := by decide +kernel
theorem dX12_getByte_4 : decode cX12_getByte 4 = .ok (.iload_n 1, 1) := by decide +kernel
theorem dX12_getByte_5 : decode cX12_getByte 5 = .ok (.aload_n 0, 1) := by decide +kernel
theorem dX12_getByte_6 : decode cX12_getByte 6 = .ok (.arraylength, 1) := by decide +kernel
theorem dX12_getByte_7 : decode cX12_getByte 7 = .ok (.if_icmp .ge 13, 3) := by decide +kernel
theorem dX12_getByte_10 : decode cX12_getByte 10 = .ok (.aload_n 0, 1) := by decide +kernel
theorem dX12_getByte_11 : decode cX12_getByte 11 = .ok (.iload_n 1, 1) := by decide +kernel
theorem dX12_getByte_12 : decode cX12_getByte 12 = .ok (.baload, 1) := by decide +kernel
theorem dX12_getByte_13 : decode cX12_getByte 13 = .ok (.sipush 255, 3) := by decide +kernel
theorem dX12_getByte_16 : decode cX12_getByte 16 = .ok (.iand, 1) := by decide +kernel
theorem dX12_getByte_17 : decode cX12_getByte 17 = .ok (.goto 4, 3) := by decide +kernel
theorem dX12_getByte_21 : decode cX12_getByte 21 = .ok (.ireturn, 1) := by decide +kernel
theorem dX12_end_49 : decode cX12_end 49 = .ok (.invokestatic 105, 3) := by decide +kernel
theorem dX12_end_52 : decode cX12_end 52 = .ok (.iinc 2 1, 3) := by decide +kernel
theorem dX12_end_55 : decode cX12_end 55 = .ok (.goto (-29), 3) := by decide +kernel
theorem dX14_end_15 : decode cX14_end 15 = .ok (.aload_n 0, 1) := by decide +kernel
theorem dX14_end_16 : decode cX14_end 16 = .ok (.getfield 788, 3) := by decide +kernel
theorem dX14_end_19 : decode cX14_end 19 = .ok (.iload_n 1, 1) := by decide +kernel
theorem dX14_end_20 : decode cX14_end 20 = .ok (.iadd, 1) := by decide +kernel
theorem dX14_end_21 : decode cX14_end 21 = .ok (.sipush 4000, 3) := by decide +kernel
theorem dX14_end_24 : decode cX14_end 24 = .ok (.if_icmp .le 5, 3) := by decide +kernel
theorem dX14_end_29 : decode cX14_end 29 = .ok (.iconst 0, 1) := by decide +kernel
theorem dX14_end_30 : decode cX14_end 30 = .ok (.istore_n 2, 1) := by decide +kernel
theorem dX14_end_31 : decode cX14_end 31 = .ok (.iload_n 2, 1) := by decide +kernel
theorem dX14_end_32 : decode cX14_end 32 = .ok (.iload_n 1, 1) := by decide +kernel
theorem dX14_end_33 : decode cX14_end 33 = .ok (.if_icmp .ge 26, 3) := by decide +kernel
theorem dX14_end_59 : decode cX14_end 59 = .ok (.iconst 0, 1) := by decide +kernel
theorem dX14_end_60 : decode cX14_end 60 = .ok (.istore_n 2, 1) := by decide +kernel
theorem dX14_end_61 : decode cX14_end 61 = .ok (.iload_n 2, 1) := by decide +kernel
theorem dX14_end_62 : decode cX14_end 62 = .ok (.bipush 20, 2) := by decide +kernel
theorem dX14_end_64 : decode cX14_end 64 = .ok (.if_icmp .ge 16, 3) := by decide +kernel
theorem dX14_end_67 : decode cX14_end 67 = .ok (.aload_n 0, 1) := by decide +kernel
theorem dX14_end_68 : decode cX14_end 68 = .ok (.getfield 7, 3) := by decide +kernel
theorem dX14_end_71 : decode cX14_end 71 = .ok (.iload_n 2, 1) := by decide +kernel
theorem dX14_end_72 : decode cX14_end 72 = .ok (.iconst 0, 1) := by decide +kernel
theorem dX14_end_73 : decode cX14_end 73 = .ok (.bastore, 1) := by decide +kernel
theorem dX14_end_74 : decode cX14_end 74 = .ok (.iinc 2 1, 3) := by decide +kernel
theorem dX14_end_77 : decode cX14_end 77 = .ok (.goto (-16), 3) := by decide +kernel
theorem dX14_end_80 : decode cX14_end 80 = .ok (.aload_n 0, 1) := by decide +kernel
theorem dX14_end_81 : decode cX14_end 81 = .ok (.dup, 1) := by decide +kernel
theorem dX14_end_82 : decode cX14_end 82 = .ok (.getfield 788, 3) := by decide +kernel
theorem dX14_end_85 : decode cX14_end 85 = .ok (.iload_n 1, 1) := by decide +kernel
theorem dX14_end_86 : decode cX14_end 86 = .ok (.iadd, 1) := by decide +kernel
theorem dX14_end_87 : decode cX14_end 87 = .ok (.putfield 788, 3) := by decide +kernel
theorem dX14_end_90 : decode cX14_end 90 = .ok (.aload_n 0, 1) := by decide +kernel
theorem dX14_end_91 : decode cX14_end 91 = .ok (.getfield 788, 3) := by decide +kernel
theorem dX14_end_94 : decode cX14_end 94 = .ok (.ireturn, 1) := by decide +kernel
theorem dX14_end_36 : decode cX14_end 36 = .ok (.aload_n 0, 1) := by decide +kernel
theorem dX14_end_37 : decode cX14_end 37 = .ok (.getfield 13, 3) := by decide +kernel
theorem dX14_end_40 : decode cX14_end 40 = .ok (.aload_n 0, 1) := by decide +kernel
theorem dX14_end_41 : decode cX14_end 41 = .ok (.getfield 788, 3) := by decide +kernel
theorem dX14_end_44 : decode cX14_end 44 = .ok (.iload_n 2, 1) := by decide +kernel
theorem dX14_end_45 : decode cX14_end 45 = .ok (.iadd, 1) := by decide +kernel
theorem dX14_end_46 : decode cX14_end 46 = .ok (.aload_n 0, 1) := by decide +kernel
theorem dX14_end_47 : decode cX14_end 47 = .ok (.getfield 7, 3) := by decide +kernel
theorem dX14_end_50 : decode cX14_end 50 = .ok (.iload_n 2, 1) := by decide +kernel
theorem dX14_end_51 : decode cX14_end 51 = .ok (.baload, 1) := by decide +kernel
theorem dX14_end_52 : decode cX14_end 52 = .ok (.bastore, 1) := by decide +kernel
theorem dX14_end_53 : decode cX14_end 53 = .ok (.iinc 2 1, 3) := by decide +kernel
theorem dX14_end_56 : decode cX14_end 56 = .ok (.goto (-25), 3) := by decide +kernel
theorem dX12_look_0 : decode cX12_look 0 = .ok (.iload_n 1, 1) := by decide +kernel
theorem dX12_look_1 : decode cX12_look 1 = .ok (.tableswitch 108 0 8 #[51, 56, 64, 72, 77, 83, 89, 95, 100], 51) := by decide +kernel
theorem dX12_look_52 : decode cX12_look 52 = .ok (.aload_n 0, 1) := by decide +kernel
theorem dX12_look_53 : decode cX12_look 53 = .ok (.getfield 20, 3) := by decide +kernel
theorem dX12_look_56 : decode cX12_look 56 = .ok (.ireturn, 1) := by decide +kernel
theorem dX14_look_0 : decode cX14_look 0 = .ok (.aload_n 0, 1) := by decide +kernel
theorem dX14_look_1 : decode cX14_look 1 = .ok (.iconst 0, 1) := by decide +kernel
theorem dX14_look_2 : decode cX14_look 2 = .ok (.putfield 806, 3) := by decide +kernel
theorem dX14_look_5 : decode cX14_look 5 = .ok (.iload_n 1, 1) := by decide +kernel
theorem dX14_look_6 : decode cX14_look 6 = .ok (.tableswitch 95 0 8 #[50, 55, 60, 65, 70, 75, 80, 85, 90], 50) := by decide +kernel
theorem dX14_look_56 : decode cX14_look 56 = .ok (.aload_n 0, 1) := by decide +kernel
theorem dX14_look_57 : decode cX14_look 57 = .ok (.getfield 848, 3) := by decide +kernel
theorem dX14_look_60 : decode cX14_look 60 = .ok (.ireturn, 1) := by decide +kernel
theorem dX12_look_57 : decode cX12_look 57 = .ok (.aload_n 0, 1) := by decide +kernel
theorem dX12_look_58 : decode cX12_look 58 = .ok (.getfield 59, 3) := by decide +kernel
theorem dX12_look_61 : decode cX12_look 61 = .ok (.getfield 242, 3) := by decide +kernel
theorem dX12_look_64 : decode cX12_look 64 = .ok (.ireturn, 1) := by decide +kernel
theorem dX14_look_61 : decode cX14_look 61 = .ok (.aload_n 0, 1) := by decide +kernel
theorem dX14_look_62 : decode cX14_look 62 = .ok (.getfield 797, 3) := by decide +kernel
theorem dX14_look_65 : decode cX14_look 65 = .ok (.ireturn, 1) := by decide +kernel
theorem dX12_look_65 : decode cX12_look 65 = .ok (.aload_n 0, 1) := by decide +kernel
theorem dX12_look_66 : decode cX12_look 66 = .ok (.getfield 59, 3) := by decide +kernel
theorem dX12_look_69 : decode cX12_look 69 = .ok (.getfield 193, 3) := by decide +kernel
theorem dX12_look_72 : decode cX12_look 72 = .ok (.ireturn, 1) := by decide +kernel
theorem dX14_look_66 : decode cX14_look 66 = .ok (.aload_n 0, 1) := by decide +kernel
theorem dX14_look_67 : decode cX14_look 67 = .ok (.getfield 830, 3) := by decide +kernel
theorem dX14_look_70 : decode cX14_look 70 = .ok (.ireturn, 1) := by decide +kernel
theorem dX12_look_73 : decode cX12_look 73 = .ok (.aload_n 0, 1) := by decide +kernel
theorem dX12_look_74 : decode cX12_look 74 = .ok (.getfield 38, 3) := by decide +kernel
theorem dX12_look_77 : decode cX12_look 77 = .ok (.ireturn, 1) := by decide +kernel
theorem dX14_look_71 : decode cX14_look 71 = .ok (.aload_n 0, 1) := by decide +kernel
theorem dX14_look_72 : decode cX14_look 72 = .ok (.getfield 980, 3) := by decide +kernel
theorem dX14_look_75 : decode cX14_look 75 = .ok (.ireturn, 1) := by decide +kernel
theorem dX12_look_78 : decode cX12_look 78 = .ok (.aload_n 0, 1) := by decide +kernel
theorem dX12_look_79 : decode cX12_look 79 = .ok (.iconst 0, 1) := by decide +kernel
theorem dX12_look_80 : decode cX12_look 80 = .ok (.invokevirtual 223, 3) := by decide +kernel
theorem dX12_look_83 : decode cX12_look 83 = .ok (.ireturn, 1) := by decide +kernel
theorem dX14_look_76 : decode cX14_look 76 = .ok (.aload_n 0, 1) := by decide +kernel
theorem dX14_look_77 : decode cX14_look 77 = .ok (.getfield 857, 3) := by decide +kernel
theorem dX14_look_80 : decode cX14_look 80 = .ok (.ireturn, 1) := by decide +kernel
theorem dX12_look_84 : decode cX12_look 84 = .ok (.aload_n 0, 1) := by decide +kernel
theorem dX12_look_85 : decode cX12_look 85 = .ok (.iconst 1, 1) := by decide +kernel
theorem dX12_look_86 : decode cX12_look 86 = .ok (.invokevirtual 223, 3) := by decide +kernel
theorem dX12_look_89 : decode cX12_look 89 = .ok (.ireturn, 1) := by decide +kernel
theorem dX14_look_81 : decode cX14_look 81 = .ok (.aload_n 0, 1) := by decide +kernel
theorem dX14_look_82 : decode cX14_look 82 = .ok (.getfield 869, 3) := by decide +kernel
theorem dX14_look_85 : decode cX14_look 85 = .ok (.ireturn, 1) := by decide +kernel
theorem dX12_look_90 : decode cX12_look 90 = .ok (.aload_n 0, 1) := by decide +kernel
theorem dX12_look_91 : decode cX12_look 91 = .ok (.iconst 2, 1) := by decide +kernel
theorem dX12_look_92 : decode cX12_look 92 = .ok (.invokevirtual 223, 3) := by decide +kernel
theorem dX12_look_95 : decode cX12_look 95 = .ok (.ireturn, 1) := by decide +kernel
theorem dX14_look_86 : decode cX14_look 86 = .ok (.aload_n 0, 1) := by decide +kernel
theorem dX14_look_87 : decode cX14_look 87 = .ok (.getfield 945, 3) := by decide +kernel
theorem dX14_look_90 : decode cX14_look 90 = .ok (.ireturn, 1) := by decide +kernel
theorem dX12_look_96 : decode cX12_look 96 = .ok (.aload_n 0, 1) := by decide +kernel
theorem dX12_look_97 : decode cX12_look 97 = .ok (.getfield 35, 3) := by decide +kernel
theorem dX12_look_100 : decode cX12_look 100 = .ok (.ireturn, 1) := by decide +kernel
theorem dX14_look_91 : decode cX14_look 91 = .ok (.aload_n 0, 1) := by decide +kernel
theorem dX14_look_92 : decode cX14_look 92 = .ok (.getfield 794, 3) := by decide +kernel
theorem dX14_look_95 : decode cX14_look 95 = .ok (.ireturn, 1) := by decide +kernel
theorem dX12_look_101 : decode cX12_look 101 = .ok (.aload_n 0, 1) := by decide +kernel
theorem dX12_look_102 : decode cX12_look 102 = .ok (.getfield 59, 3) := by decide +kernel
theorem dX12_look_105 : decode cX12_look 105 = .ok (.getfield 245, 3) := by decide +kernel
theorem dX12_look_108 : decode cX12_look 108 = .ok (.ireturn, 1) := by decide +kernel
theorem dX14_look_96 : decode cX14_look 96 = .ok (.aload_n 0, 1) := by decide +kernel
theorem dX14_look_97 : decode cX14_look 97 = .ok (.getfield 800, 3) := by decide +kernel
theorem dX14_look_100 : decode cX14_look 100 = .ok (.ireturn, 1) := by decide +kernel
theorem dX12_look_109 : decode cX12_look 109 = .ok (.iconst (-1), 1) := by decide +kernel
theorem dX12_look_110 : decode cX12_look 110 = .ok (.ireturn, 1) := by decide +kernel
theorem dX14_look_101 : decode cX14_look 101 = .ok (.iconst (-1), 1) := by decide +kernel
theorem dX14_look_102 : decode cX14_look 102 = .ok (.ireturn, 1) := by decide +kernel
