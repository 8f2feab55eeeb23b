theorem zw3021 : Cond.methodLink "TemplateHouseModel" 290 ⟨"java/lang/String", "length", "()I"⟩ ∈ zT := zsub13 141 (by decide +kernel) (by decide +kernel)
theorem zw3022 : Cond.methodLink "TemplateHouseModel" 296 ⟨"java/lang/String", "charAt", "(I)C"⟩ ∈ zT := zsub13 142 (by decide +kernel) (by decide +kernel)
theorem zw3009 : Cond.methodLink "TemplateHouseModel" 300 ⟨"TemplateHouseModel", "wordEnd", "([BII)I"⟩ ∈ zT := zsub13 129 (by decide +kernel) (by decide +kernel)
theorem zw3018 : Cond.methodLink "TemplateHouseModel" 304 ⟨"TemplateHouseModel", "is", "([BIILjava/lang/String;)Z"⟩ ∈ zT := zsub13 138 (by decide +kernel) (by decide +kernel)
theorem zw3005 : Cond.methodLink "TemplateHouseModel" 313 ⟨"TemplateHouseModel", "isFileWord", "(Ljava/lang/String;)Z"⟩ ∈ zT := zsub13 125 (by decide +kernel) (by decide +kernel)
theorem zw3128 : Cond.methodLink "TemplateHouseModel" 576 ⟨"TemplateHouseModel", "isWord", "(Ljava/lang/String;)Z"⟩ ∈ zT := zsub14 8 (by decide +kernel) (by decide +kernel)
theorem zw3145 : Cond.methodLink "TemplateHouseModel" 602 ⟨"TemplateHouseModel", "function", "()I"⟩ ∈ zT := zsub14 25 (by decide +kernel) (by decide +kernel)
theorem zw3158 : Cond.methodLink "TemplateHouseModel" 605 ⟨"TemplateHouseModel", "isSteering", "()Z"⟩ ∈ zT := zsub14 38 (by decide +kernel) (by decide +kernel)
theorem zw2985 : Cond.methodLink "TemplateHouseModel" 308 ⟨"TemplateHouseModel", "skip", "()V"⟩ ∈ zT := zsub13 105 (by decide +kernel) (by decide +kernel)
theorem zw3020 : Cond.code ⟨"TemplateHouseModel", "is", "([BIILjava/lang/String;)Z"⟩ prog_15_method_10_code 6 (Option.some Jvm.ClassFile.FieldType.boolean) ∈ zT := zsub13 140 rfl rfl
theorem zw3019 : Cond.static ⟨"TemplateHouseModel", "is", "([BIILjava/lang/String;)Z"⟩ ∈ zT := zsub13 139 (by decide +kernel) (by decide +kernel)
theorem zw3008 : Cond.code ⟨"TemplateHouseModel", "isFileWord", "(Ljava/lang/String;)Z"⟩ prog_15_method_11_code 2 (Option.some Jvm.ClassFile.FieldType.boolean) ∈ zT := zsub13 128 rfl rfl
theorem zw3007 : Cond.instanceMethod ⟨"TemplateHouseModel", "isFileWord", "(Ljava/lang/String;)Z"⟩ ∈ zT := zsub13 127 (by decide +kernel) (by decide +kernel)
theorem zwp192 : Cond.selects "TemplateHouseModel" ⟨"TemplateHouseModel", "isFileWord", "(Ljava/lang/String;)Z"⟩ ⟨"TemplateHouseModel", "isFileWord", "(Ljava/lang/String;)Z"⟩ ∈ zT := zin 192 (by decide +kernel) (by decide +kernel)
theorem zw3131 : Cond.code ⟨"TemplateHouseModel", "isWord", "(Ljava/lang/String;)Z"⟩ prog_15_method_41_code 2 (Option.some Jvm.ClassFile.FieldType.boolean) ∈ zT := zsub14 11 rfl rfl
theorem zw3130 : Cond.instanceMethod ⟨"TemplateHouseModel", "isWord", "(Ljava/lang/String;)Z"⟩ ∈ zT := zsub14 10 (by decide +kernel) (by decide +kernel)
theorem zwp210 : Cond.selects "TemplateHouseModel" ⟨"TemplateHouseModel", "isWord", "(Ljava/lang/String;)Z"⟩ ⟨"TemplateHouseModel", "isWord", "(Ljava/lang/String;)Z"⟩ ∈ zT := zin 210 (by decide +kernel) (by decide +kernel)
theorem zw3058 : Cond.code ⟨"TemplateHouseModel", "isFileReserved", "()Z"⟩ prog_15_method_13_code 1 (Option.some Jvm.ClassFile.FieldType.boolean) ∈ zT := zsub13 178 rfl rfl
theorem zw3057 : Cond.instanceMethod ⟨"TemplateHouseModel", "isFileReserved", "()Z"⟩ ∈ zT := zsub13 177 (by decide +kernel) (by decide +kernel)
theorem zwp191 : Cond.selects "TemplateHouseModel" ⟨"TemplateHouseModel", "isFileReserved", "()Z"⟩ ⟨"TemplateHouseModel", "isFileReserved", "()Z"⟩ ∈ zT := zin 191 (by decide +kernel) (by decide +kernel)
theorem zw3148 : Cond.code ⟨"TemplateHouseModel", "function", "()I"⟩ prog_15_method_42_code 1 (Option.some Jvm.ClassFile.FieldType.int) ∈ zT := zsub14 28 rfl rfl
theorem zw3147 : Cond.instanceMethod ⟨"TemplateHouseModel", "function", "()I"⟩ ∈ zT := zsub14 27 (by decide +kernel) (by decide +kernel)
theorem zwp183 : Cond.selects "TemplateHouseModel" ⟨"TemplateHouseModel", "function", "()I"⟩ ⟨"TemplateHouseModel", "function", "()I"⟩ ∈ zT := zin 183 (by decide +kernel) (by decide +kernel)
theorem zw3161 : Cond.code ⟨"TemplateHouseModel", "isSteering", "()Z"⟩ prog_15_method_43_code 1 (Option.some Jvm.ClassFile.FieldType.boolean) ∈ zT := zsub14 41 rfl rfl
theorem zw3160 : Cond.instanceMethod ⟨"TemplateHouseModel", "isSteering", "()Z"⟩ ∈ zT := zsub14 40 (by decide +kernel) (by decide +kernel)
theorem zwp204 : Cond.selects "TemplateHouseModel" ⟨"TemplateHouseModel", "isSteering", "()Z"⟩ ⟨"TemplateHouseModel", "isSteering", "()Z"⟩ ∈ zT := zin 204 (by decide +kernel) (by decide +kernel)
theorem zw3144 : Cond.code ⟨"TemplateHouseModel", "isReserved", "()Z"⟩ prog_15_method_44_code 1 (Option.some Jvm.ClassFile.FieldType.boolean) ∈ zT := zsub14 24 rfl rfl
theorem zw3143 : Cond.instanceMethod ⟨"TemplateHouseModel", "isReserved", "()Z"⟩ ∈ zT := zsub14 23 (by decide +kernel) (by decide +kernel)
theorem zwp201 : Cond.selects "TemplateHouseModel" ⟨"TemplateHouseModel", "isReserved", "()Z"⟩ ⟨"TemplateHouseModel", "isReserved", "()Z"⟩ ∈ zT := zin 201 (by decide +kernel) (by decide +kernel)
theorem zw3037 : Cond.code ⟨"TemplateHouseModel", "sign", "(Ljava/lang/String;)V"⟩ prog_15_method_12_code 4 (Option.none : Option Jvm.ClassFile.FieldType) ∈ zT := zsub13 157 rfl rfl
theorem zw3036 : Cond.instanceMethod ⟨"TemplateHouseModel", "sign", "(Ljava/lang/String;)V"⟩ ∈ zT := zsub13 156 (by decide +kernel) (by decide +kernel)
theorem zwp280 : Cond.selects "TemplateHouseModel" ⟨"TemplateHouseModel", "sign", "(Ljava/lang/String;)V"⟩ ⟨"TemplateHouseModel", "sign", "(Ljava/lang/String;)V"⟩ ∈ zT := zin 280 (by decide +kernel) (by decide +kernel)
abbrev cX14_is : ByteArray := prog_15_method_10_code
abbrev yX14_is : MethodName := ⟨"TemplateHouseModel", "is", "([BIILjava/lang/String;)Z"⟩
theorem dmX14_is : zDs yX14_is cX14_is 6 (some .boolean) 4 := ⟨⟨⟨by decide +kernel, by decide +kernel, by decide +kernel⟩, zw3020, zw14⟩, zw3019⟩
abbrev cX14_isFileWord : ByteArray := prog_15_method_11_code
abbrev yX14_isFileWord : MethodName := ⟨"TemplateHouseModel", "isFileWord", "(Ljava/lang/String;)Z"⟩
theorem dmX14_isFileWord : zDv yX14_isFileWord cX14_isFileWord 2 (some .boolean) 1 := ⟨⟨⟨by decide +kernel, by decide +kernel, by decide +kernel⟩, zw3008, zw14⟩, zw3007, zwp192⟩
abbrev cX14_isWord : ByteArray := prog_15_method_41_code
abbrev yX14_isWord : MethodName := ⟨"TemplateHouseModel", "isWord", "(Ljava/lang/String;)Z"⟩
theorem dmX14_isWord : zDv yX14_isWord cX14_isWord 2 (some .boolean) 1 := ⟨⟨⟨by decide +kernel, by decide +kernel, by decide +kernel⟩, zw3131, zw14⟩, zw3130, zwp210⟩
abbrev cX14_isFileReserved : ByteArray := prog_15_method_13_code
abbrev yX14_isFileReserved : MethodName := ⟨"TemplateHouseModel", "isFileReserved", "()Z"⟩
theorem dmX14_isFileReserved : zDv yX14_isFileReserved cX14_isFileReserved 1 (some .boolean) 0 := ⟨⟨⟨by decide +kernel, by decide +kernel, by decide +kernel⟩, zw3058, zw14⟩, zw3057, zwp191⟩
abbrev cX14_function : ByteArray := prog_15_method_42_code
abbrev yX14_function : MethodName := ⟨"TemplateHouseModel", "function", "()I"⟩
theorem dmX14_function : zDv yX14_function cX14_function 1 (some .int) 0 := ⟨⟨⟨by decide +kernel, by decide +kernel, by decide +kernel⟩, zw3148, zw14⟩, zw3147, zwp183⟩
abbrev cX14_isSteering : ByteArray := prog_15_method_43_code
abbrev yX14_isSteering : MethodName := ⟨"TemplateHouseModel", "isSteering", "()Z"⟩
theorem dmX14_isSteering : zDv yX14_isSteering cX14_isSteering 1 (some .boolean) 0 := ⟨⟨⟨by decide +kernel, by decide +kernel, by decide +kernel⟩, zw3161, zw14⟩, zw3160, zwp204⟩
abbrev cX14_isReserved : ByteArray := prog_15_method_44_code
abbrev yX14_isReserved : MethodName := ⟨"TemplateHouseModel", "isReserved", "()Z"⟩
theorem dmX14_isReserved : zDv yX14_isReserved cX14_isReserved 1 (some .boolean) 0 := ⟨⟨⟨by decide +kernel, by decide +kernel, by decide +kernel⟩, zw3144, zw14⟩, zw3143, zwp201⟩
abbrev cX14_sign : ByteArray := prog_15_method_12_code
abbrev yX14_sign : MethodName := ⟨"TemplateHouseModel", "sign", "(Ljava/lang/String;)V"⟩
theorem dmX14_sign : zDv yX14_sign cX14_sign 4 none 1 := ⟨⟨⟨by decide +kernel, by decide +kernel, by decide +kernel⟩, zw3037, zw14⟩, zw3036, zwp280⟩
theorem dX14_is_0 : decode cX14_is 0 = .ok (.iload_n 2, 1) := by decide +kernel
theorem dX14_is_1 : decode cX14_is 1 = .ok (.iload_n 1, 1) := by decide +kernel
theorem dX14_is_2 : decode cX14_is 2 = .ok (.isub, 1) := by decide +kernel
theorem dX14_is_3 : decode cX14_is 3 = .ok (.aload_n 3, 1) := by decide +kernel
theorem dX14_is_4 : decode cX14_is 4 = .ok (.invokevirtual 290, 3) := by decide +kernel
theorem dX14_is_7 : decode cX14_is 7 = .ok (.if_icmp .ne 7, 3) := by decide +kernel
theorem dX14_is_14 : decode cX14_is 14 = .ok (.iconst 0, 1) := by decide +kernel
theorem dX14_is_15 : decode cX14_is 15 = .ok (.istore 4, 2) := by decide +kernel
theorem dX14_is_17 : decode cX14_is 17 = .ok (.iconst 0, 1) := by decide +kernel
theorem dX14_is_18 : decode cX14_is 18 = .ok (.istore 5, 2) := by decide +kernel
theorem dX14_is_20 : decode cX14_is 20 = .ok (.iload 5, 2) := by decide +kernel
theorem dX14_is_22 : decode cX14_is 22 = .ok (.aload_n 3, 1) := by decide +kernel
theorem dX14_is_23 : decode cX14_is 23 = .ok (.invokevirtual 290, 3) := by decide +kernel
theorem dX14_is_26 : decode cX14_is 26 = .ok (.if_icmp .ge 36, 3) := by decide +kernel
theorem dX14_is_62 : decode cX14_is 62 = .ok (.iload 4, 2) := by decide +kernel
theorem dX14_is_64 : decode cX14_is 64 = .ok (.ireturn, 1) := by decide +kernel
theorem dX14_is_29 : decode cX14_is 29 = .ok (.iload 4, 2) := by decide +kernel
theorem dX14_is_31 : decode cX14_is 31 = .ok (.ifCond .eq 31, 3) := by decide +kernel
theorem dX14_is_34 : decode cX14_is 34 = .ok (.aload_n 0, 1) := by decide +kernel
theorem dX14_is_35 : decode cX14_is 35 = .ok (.iload_n 1, 1) := by decide +kernel
theorem dX14_is_36 : decode cX14_is 36 = .ok (.iload 5, 2) := by decide +kernel
theorem dX14_is_38 : decode cX14_is 38 = .ok (.iadd, 1) := by decide +kernel
theorem dX14_is_39 : decode cX14_is 39 = .ok (.baload, 1) := by decide +kernel
theorem dX14_is_40 : decode cX14_is 40 = .ok (.aload_n 3, 1) := by decide +kernel
theorem dX14_is_41 : decode cX14_is 41 = .ok (.iload 5, 2) := by decide +kernel
theorem dX14_is_43 : decode cX14_is 43 = .ok (.invokevirtual 296, 3) := by decide +kernel
theorem dX14_is_46 : decode cX14_is 46 = .ok (.if_icmp .ne 7, 3) := by decide +kernel
theorem dX14_is_53 : decode cX14_is 53 = .ok (.iconst 0, 1) := by decide +kernel
theorem dX14_is_54 : decode cX14_is 54 = .ok (.istore 4, 2) := by decide +kernel
theorem dX14_is_56 : decode cX14_is 56 = .ok (.iinc 5 1, 3) := by decide +kernel
theorem dX14_is_59 : decode cX14_is 59 = .ok (.goto (-39), 3) := by decide +kernel
theorem dX14_is_49 : decode cX14_is 49 = .ok (.iconst 1, 1) := by decide +kernel
theorem dX14_is_50 : decode cX14_is 50 = .ok (.goto 4, 3) := by decide +kernel
theorem dX14_is_10 : decode cX14_is 10 = .ok (.iconst 1, 1) := by decide +kernel
theorem dX14_is_11 : decode cX14_is 11 = .ok (.goto 4, 3) := by decide +kernel
theorem dX14_isFileWord_0 : decode cX14_isFileWord 0 = .ok (.aload_n 0, 1) := by decide +kernel
theorem dX14_isFileWord_1 : decode cX14_isFileWord 1 = .ok (.getfield 263, 3) := by decide +kernel
theorem dX14_isFileWord_4 : decode cX14_isFileWord 4 = .ok (.aload_n 0, 1) := by decide +kernel
theorem dX14_isFileWord_5 : decode cX14_isFileWord 5 = .ok (.getfield 274, 3) := by decide +kernel
theorem dX14_isFileWord_8 : decode cX14_isFileWord 8 = .ok (.aload_n 0, 1) := by decide +kernel
theorem dX14_isFileWord_9 : decode cX14_isFileWord 9 = .ok (.getfield 263, 3) := by decide +kernel
theorem dX14_isFileWord_12 : decode cX14_isFileWord 12 = .ok (.aload_n 0, 1) := by decide +kernel
theorem dX14_isFileWord_13 : decode cX14_isFileWord 13 = .ok (.getfield 260, 3) := by decide +kernel
theorem dX14_isFileWord_16 : decode cX14_isFileWord 16 = .ok (.aload_n 0, 1) := by decide +kernel
theorem dX14_isFileWord_17 : decode cX14_isFileWord 17 = .ok (.getfield 274, 3) := by decide +kernel
theorem dX14_isFileWord_20 : decode cX14_isFileWord 20 = .ok (.invokestatic 300, 3) := by decide +kernel
theorem dX14_isFileWord_23 : decode cX14_isFileWord 23 = .ok (.aload_n 1, 1) := by decide +kernel
theorem dX14_isFileWord_24 : decode cX14_isFileWord 24 = .ok (.invokestatic 304, 3) := by decide +kernel
theorem dX14_isFileWord_27 : decode cX14_isFileWord 27 = .ok (.ireturn, 1) := by decide +kernel
theorem dX14_isWord_0 : decode cX14_isWord 0 = .ok (.aload_n 0, 1) := by decide +kernel
theorem dX14_isWord_1 : decode cX14_isWord 1 = .ok (.getfield 36, 3) := by decide +kernel
theorem dX14_isWord_4 : decode cX14_isWord 4 = .ok (.aload_n 0, 1) := by decide +kernel
theorem dX14_isWord_5 : decode cX14_isWord 5 = .ok (.getfield 548, 3) := by decide +kernel
theorem dX14_isWord_8 : decode cX14_isWord 8 = .ok (.aload_n 0, 1) := by decide +kernel
theorem dX14_isWord_9 : decode cX14_isWord 9 = .ok (.getfield 36, 3) := by decide +kernel
theorem dX14_isWord_12 : decode cX14_isWord 12 = .ok (.aload_n 0, 1) := by decide +kernel
theorem dX14_isWord_13 : decode cX14_isWord 13 = .ok (.getfield 533, 3) := by decide +kernel
theorem dX14_isWord_16 : decode cX14_isWord 16 = .ok (.aload_n 0, 1) := by decide +kernel
theorem dX14_isWord_17 : decode cX14_isWord 17 = .ok (.getfield 548, 3) := by decide +kernel
theorem dX14_isWord_20 : decode cX14_isWord 20 = .ok (.invokestatic 300, 3) := by decide +kernel
theorem dX14_isWord_23 : decode cX14_isWord 23 = .ok (.aload_n 1, 1) := by decide +kernel
theorem dX14_isWord_24 : decode cX14_isWord 24 = .ok (.invokestatic 304, 3) := by decide +kernel
theorem dX14_isWord_27 : decode cX14_isWord 27 = .ok (.ireturn, 1) := by decide +kernel
theorem dX14_isFileReserved_0 : decode cX14_isFileReserved 0 = .ok (.aload_n 0, 1) := by decide +kernel
theorem dX14_isFileReserved_1 : decode cX14_isFileReserved 1 = .ok (.ldc_w 311, 3) := by decide +kernel
theorem dX14_isFileReserved_4 : decode cX14_isFileReserved 4 = .ok (.invokevirtual 313, 3) := by decide +kernel
theorem dX14_isFileReserved_7 : decode cX14_isFileReserved 7 = .ok (.ifCond .ne 53, 3) := by decide +kernel
theorem dX14_isFileReserved_60 : decode cX14_isFileReserved 60 = .ok (.iconst 1, 1) := by decide +kernel
theorem dX14_isFileReserved_61 : decode cX14_isFileReserved 61 = .ok (.goto 4, 3) := by decide +kernel
theorem dX14_isFileReserved_65 : decode cX14_isFileReserved 65 = .ok (.ireturn, 1) := by decide +kernel
theorem dX14_isFileReserved_10 : decode cX14_isFileReserved 10 = .ok (.aload_n 0, 1) := by decide +kernel
theorem dX14_isFileReserved_11 : decode cX14_isFileReserved 11 = .ok (.ldc_w 317, 3) := by decide +kernel
theorem dX14_isFileReserved_14 : decode cX14_isFileReserved 14 = .ok (.invokevirtual 313, 3) := by decide +kernel
theorem dX14_isFileReserved_17 : decode cX14_isFileReserved 17 = .ok (.ifCond .ne 43, 3) := by decide +kernel
theorem dX14_isFileReserved_20 : decode cX14_isFileReserved 20 = .ok (.aload_n 0, 1) := by decide +kernel
theorem dX14_isFileReserved_21 : decode cX14_isFileReserved 21 = .ok (.ldc_w 319, 3) := by decide +kernel
theorem dX14_isFileReserved_24 : decode cX14_isFileReserved 24 = .ok (.invokevirtual 313, 3) := by decide +kernel
theorem dX14_isFileReserved_27 : decode cX14_isFileReserved 27 = .ok (.ifCond .ne 33, 3) := by decide +kernel
theorem dX14_isFileReserved_30 : decode cX14_isFileReserved 30 = .ok (.aload_n 0, 1) := by decide +kernel
theorem dX14_isFileReserved_31 : decode cX14_isFileReserved 31 = .ok (.ldc_w 321, 3) := by decide +kernel
theorem dX14_isFileReserved_34 : decode cX14_isFileReserved 34 = .ok (.invokevirtual 313, 3) := by decide +kernel
theorem dX14_isFileReserved_37 : decode cX14_isFileReserved 37 = .ok (.ifCond .ne 23, 3) := by decide +kernel
theorem dX14_isFileReserved_40 : decode cX14_isFileReserved 40 = .ok (.aload_n 0, 1) := by decide +kernel
theorem dX14_isFileReserved_41 : decode cX14_isFileReserved 41 = .ok (.ldc_w 323, 3) := by decide +kernel
theorem dX14_isFileReserved_44 : decode cX14_isFileReserved 44 = .ok (.invokevirtual 313, 3) := by decide +kernel
theorem dX14_isFileReserved_47 : decode cX14_isFileReserved 47 = .ok (.ifCond .ne 13, 3) := by decide +kernel
theorem dX14_isFileReserved_50 : decode cX14_isFileReserved 50 = .ok (.aload_n 0, 1) := by decide +kernel
theorem dX14_isFileReserved_51 : decode cX14_isFileReserved 51 = .ok (.ldc_w 325, 3) := by decide +kernel
theorem dX14_isFileReserved_54 : decode cX14_isFileReserved 54 = .ok (.invokevirtual 313, 3) := by decide +kernel
theorem dX14_isFileReserved_57 : decode cX14_isFileReserved 57 = .ok (.ifCond .eq 7, 3) := by decide +kernel
theorem dX14_isFileReserved_64 : decode cX14_isFileReserved 64 = .ok (.iconst 0, 1) := by decide +kernel
theorem dX14_function_0 : decode cX14_function 0 = .ok (.aload_n 0, 1) := by decide +kernel
theorem dX14_function_1 : decode cX14_function 1 = .ok (.ldc_w 574, 3) := by decide +kernel
theorem dX14_function_4 : decode cX14_function 4 = .ok (.invokevirtual 576, 3) := by decide +kernel
theorem dX14_function_7 : decode cX14_function 7 = .ok (.ifCond .eq 7, 3) := by decide +kernel
theorem dX14_function_14 : decode cX14_function 14 = .ok (.aload_n 0, 1) := by decide +kernel
theorem dX14_function_15 : decode cX14_function 15 = .ok (.ldc_w 579, 3) := by decide +kernel
theorem dX14_function_18 : decode cX14_function 18 = .ok (.invokevirtual 576, 3) := by decide +kernel
theorem dX14_function_21 : decode cX14_function 21 = .ok (.ifCond .eq 7, 3) := by decide +kernel
theorem dX14_function_28 : decode cX14_function 28 = .ok (.aload_n 0, 1) := by decide +kernel
theorem dX14_function_29 : decode cX14_function 29 = .ok (.ldc_w 581, 3) := by decide +kernel
theorem dX14_function_32 : decode cX14_function 32 = .ok (.invokevirtual 576, 3) := by decide +kernel
theorem dX14_function_35 : decode cX14_function 35 = .ok (.ifCond .eq 7, 3) := by decide +kernel
theorem dX14_function_42 : decode cX14_function 42 = .ok (.aload_n 0, 1) := by decide +kernel
theorem dX14_function_43 : decode cX14_function 43 = .ok (.ldc_w 583, 3) := by decide +kernel
theorem dX14_function_46 : decode cX14_function 46 = .ok (.invokevirtual 576, 3) := by decide +kernel
theorem dX14_function_49 : decode cX14_function 49 = .ok (.ifCond .eq 7, 3) := by decide +kernel
theorem dX14_function_56 : decode cX14_function 56 = .ok (.aload_n 0, 1) := by decide +kernel
theorem dX14_function_57 : decode cX14_function 57 = .ok (.ldc_w 585, 3) := by decide +kernel
theorem dX14_function_60 : decode cX14_function 60 = .ok (.invokevirtual 576, 3) := by decide +kernel
theorem dX14_function_63 : decode cX14_function 63 = .ok (.ifCond .eq 7, 3) := by decide +kernel
theorem dX14_function_70 : decode cX14_function 70 = .ok (.aload_n 0, 1) := by decide +kernel
theorem dX14_function_71 : decode cX14_function 71 = .ok (.ldc_w 587, 3) := by decide +kernel
theorem dX14_function_74 : decode cX14_function 74 = .ok (.invokevirtual 576, 3) := by decide +kernel
theorem dX14_function_77 : decode cX14_function 77 = .ok (.ifCond .eq 7, 3) := by decide +kernel
theorem dX14_function_84 : decode cX14_function 84 = .ok (.aload_n 0, 1) := by decide +kernel
theorem dX14_function_85 : decode cX14_function 85 = .ok (.ldc_w 589, 3) := by decide +kernel
theorem dX14_function_88 : decode cX14_function 88 = .ok (.invokevirtual 576, 3) := by decide +kernel
theorem dX14_function_91 : decode cX14_function 91 = .ok (.ifCond .eq 8, 3) := by decide +kernel
theorem dX14_function_99 : decode cX14_function 99 = .ok (.aload_n 0, 1) := by decide +kernel
theorem dX14_function_100 : decode cX14_function 100 = .ok (.ldc_w 590, 3) := by decide +kernel
theorem dX14_function_103 : decode cX14_function 103 = .ok (.invokevirtual 576, 3) := by decide +kernel
theorem dX14_function_106 : decode cX14_function 106 = .ok (.ifCond .eq 8, 3) := by decide +kernel
theorem dX14_function_114 : decode cX14_function 114 = .ok (.aload_n 0, 1) := by decide +kernel
theorem dX14_function_115 : decode cX14_function 115 = .ok (.ldc_w 592, 3) := by decide +kernel
theorem dX14_function_118 : decode cX14_function 118 = .ok (.invokevirtual 576, 3) := by decide +kernel
theorem dX14_function_121 : decode cX14_function 121 = .ok (.ifCond .eq 8, 3) := by decide +kernel
theorem dX14_function_129 : decode cX14_function 129 = .ok (.iconst (-1), 1) := by decide +kernel
theorem dX14_function_130 : decode cX14_function 130 = .ok (.ireturn, 1) := by decide +kernel
theorem dX14_function_124 : decode cX14_function 124 = .ok (.bipush 8, 2) := by decide +kernel
theorem dX14_function_126 : decode cX14_function 126 = .ok (.goto 4, 3) := by decide +kernel
theorem dX14_function_109 : decode cX14_function 109 = .ok (.bipush 7, 2) := by decide +kernel
theorem dX14_function_111 : decode cX14_function 111 = .ok (.goto 19, 3) := by decide +kernel
theorem dX14_function_94 : decode cX14_function 94 = .ok (.bipush 6, 2) := by decide +kernel
theorem dX14_function_96 : decode cX14_function 96 = .ok (.goto 34, 3) := by decide +kernel
theorem dX14_function_80 : decode cX14_function 80 = .ok (.iconst 5, 1) := by decide +kernel
theorem dX14_function_81 : decode cX14_function 81 = .ok (.goto 49, 3) := by decide +kernel
theorem dX14_function_66 : decode cX14_function 66 = .ok (.iconst 4, 1) := by decide +kernel
theorem dX14_function_67 : decode cX14_function 67 = .ok (.goto 63, 3) := by decide +kernel
theorem dX14_function_52 : decode cX14_function 52 = .ok (.iconst 3, 1) := by decide +kernel
theorem dX14_function_53 : decode cX14_function 53 = .ok (.goto 77, 3) := by decide +kernel
theorem dX14_function_38 : decode cX14_function 38 = .ok (.iconst 2, 1) := by decide +kernel
theorem dX14_function_39 : decode cX14_function 39 = .ok (.goto 91, 3) := by decide +kernel
theorem dX14_function_24 : decode cX14_function 24 = .ok (.iconst 1, 1) := by decide +kernel
theorem dX14_function_25 : decode cX14_function 25 = .ok (.goto 105, 3) := by decide +kernel
theorem dX14_function_10 : decode cX14_function 10 = .ok (.iconst 0, 1) := by decide +kernel
theorem dX14_function_11 : decode cX14_function 11 = .ok (.goto 119, 3) := by decide +kernel
theorem dX14_isSteering_0 : decode cX14_isSteering 0 = .ok (.aload_n 0, 1) := by decide +kernel
theorem dX14_isSteering_1 : decode cX14_isSteering 1 = .ok (.ldc_w 594, 3) := by decide +kernel
theorem dX14_isSteering_4 : decode cX14_isSteering 4 = .ok (.invokevirtual 576, 3) := by decide +kernel
theorem dX14_isSteering_7 : decode cX14_isSteering 7 = .ok (.ifCond .ne 33, 3) := by decide +kernel
theorem dX14_isSteering_40 : decode cX14_isSteering 40 = .ok (.iconst 1, 1) := by decide +kernel
theorem dX14_isSteering_41 : decode cX14_isSteering 41 = .ok (.goto 4, 3) := by decide +kernel
theorem dX14_isSteering_45 : decode cX14_isSteering 45 = .ok (.ireturn, 1) := by decide +kernel
theorem dX14_isSteering_10 : decode cX14_isSteering 10 = .ok (.aload_n 0, 1) := by decide +kernel
theorem dX14_isSteering_11 : decode cX14_isSteering 11 = .ok (.ldc_w 596, 3) := by decide +kernel
theorem dX14_isSteering_14 : decode cX14_isSteering 14 = .ok (.invokevirtual 576, 3) := by decide +kernel
theorem dX14_isSteering_17 : decode cX14_isSteering 17 = .ok (.ifCond .ne 23, 3) := by decide +kernel
theorem dX14_isSteering_20 : decode cX14_isSteering 20 = .ok (.aload_n 0, 1) := by decide +kernel
theorem dX14_isSteering_21 : decode cX14_isSteering 21 = .ok (.ldc_w 598, 3) := by decide +kernel
theorem dX14_isSteering_24 : decode cX14_isSteering 24 = .ok (.invokevirtual 576, 3) := by decide +kernel
theorem dX14_isSteering_27 : decode cX14_isSteering 27 = .ok (.ifCond .ne 13, 3) := by decide +kernel
theorem dX14_isSteering_30 : decode cX14_isSteering 30 = .ok (.aload_n 0, 1) := by decide +kernel
theorem dX14_isSteering_31 : decode cX14_isSteering 31 = .ok (.ldc_w 600, 3) := by decide +kernel
theorem dX14_isSteering_34 : decode cX14_isSteering 34 = .ok (.invokevirtual 576, 3) := by decide +kernel
theorem dX14_isSteering_37 : decode cX14_isSteering 37 = .ok (.ifCond .eq 7, 3) := by decide +kernel
theorem dX14_isSteering_44 : decode cX14_isSteering 44 = .ok (.iconst 0, 1) := by decide +kernel
theorem dX14_isReserved_0 : decode cX14_isReserved 0 = .ok (.aload_n 0, 1) := by decide +kernel
theorem dX14_isReserved_1 : decode cX14_isReserved 1 = .ok (.invokevirtual 602, 3) := by decide +kernel
theorem dX14_isReserved_4 : decode cX14_isReserved 4 = .ok (.ifCond .ge 40, 3) := by decide +kernel
theorem dX14_isReserved_44 : decode cX14_isReserved 44 = .ok (.iconst 1, 1) := by decide +kernel
theorem dX14_isReserved_45 : decode cX14_isReserved 45 = .ok (.goto 4, 3) := by decide +kernel
theorem dX14_isReserved_49 : decode cX14_isReserved 49 = .ok (.ireturn, 1) := by decide +kernel
theorem dX14_isReserved_7 : decode cX14_isReserved 7 = .ok (.aload_n 0, 1) := by decide +kernel
theorem dX14_isReserved_8 : decode cX14_isReserved 8 = .ok (.invokevirtual 605, 3) := by decide +kernel
theorem dX14_isReserved_11 : decode cX14_isReserved 11 = .ok (.ifCond .ne 33, 3) := by decide +kernel
theorem dX14_isReserved_14 : decode cX14_isReserved 14 = .ok (.aload_n 0, 1) := by decide +kernel
theorem dX14_isReserved_15 : decode cX14_isReserved 15 = .ok (.ldc_w 608, 3) := by decide +kernel
theorem dX14_isReserved_18 : decode cX14_isReserved 18 = .ok (.invokevirtual 576, 3) := by decide +kernel
theorem dX14_isReserved_21 : decode cX14_isReserved 21 = .ok (.ifCond .ne 23, 3) := by decide +kernel
theorem dX14_isReserved_24 : decode cX14_isReserved 24 = .ok (.aload_n 0, 1) := by decide +kernel
theorem dX14_isReserved_25 : decode cX14_isReserved 25 = .ok (.ldc_w 323, 3) := by decide +kernel
theorem dX14_isReserved_28 : decode cX14_isReserved 28 = .ok (.invokevirtual 576, 3) := by decide +kernel
theorem dX14_isReserved_31 : decode cX14_isReserved 31 = .ok (.ifCond .ne 13, 3) := by decide +kernel
theorem dX14_isReserved_34 : decode cX14_isReserved 34 = .ok (.aload_n 0, 1) := by decide +kernel
theorem dX14_isReserved_35 : decode cX14_isReserved 35 = .ok (.ldc_w 325, 3) := by decide +kernel
theorem dX14_isReserved_38 : decode cX14_isReserved 38 = .ok (.invokevirtual 576, 3) := by decide +kernel
theorem dX14_isReserved_41 : decode cX14_isReserved 41 = .ok (.ifCond .eq 7, 3) := by decide +kernel
theorem dX14_isReserved_48 : decode cX14_isReserved 48 = .ok (.iconst 0, 1) := by decide +kernel
theorem dX14_sign_0 : decode cX14_sign 0 = .ok (.aload_n 0, 1) := by decide +kernel
theorem dX14_sign_1 : decode cX14_sign 1 = .ok (.invokevirtual 308, 3) := by decide +kernel
theorem dX14_sign_4 : decode cX14_sign 4 = .ok (.aload_n 0, 1) := by decide +kernel
theorem dX14_sign_5 : decode cX14_sign 5 = .ok (.getfield 248, 3) := by decide +kernel
theorem dX14_sign_8 : decode cX14_sign 8 = .ok (.ifCond .eq 4, 3) := by decide +kernel
theorem dX14_sign_12 : decode cX14_sign 12 = .ok (.aload_n 0, 1) := by decide +kernel
theorem dX14_sign_13 : decode cX14_sign 13 = .ok (.getfield 274, 3) := by decide +kernel
theorem dX14_sign_16 : decode cX14_sign 16 = .ok (.aload_n 1, 1) := by decide +kernel
theorem dX14_sign_17 : decode cX14_sign 17 = .ok (.invokevirtual 290, 3) := by decide +kernel
theorem dX14_sign_20 : decode cX14_sign 20 = .ok (.iadd, 1) := by decide +kernel
theorem dX14_sign_21 : decode cX14_sign 21 = .ok (.aload_n 0, 1) := by decide +kernel
theorem dX14_sign_22 : decode cX14_sign 22 = .ok (.getfield 260, 3) := by decide +kernel
theorem dX14_sign_25 : decode cX14_sign 25 = .ok (.if_icmp .gt 7, 3) := by decide +kernel
theorem dX14_sign_32 : decode cX14_sign 32 = .ok (.iconst 0, 1) := by decide +kernel
theorem dX14_sign_33 : decode cX14_sign 33 = .ok (.istore_n 2, 1) := by decide +kernel
theorem dX14_sign_34 : decode cX14_sign 34 = .ok (.aload_n 1, 1) := by decide +kernel
theorem dX14_sign_35 : decode cX14_sign 35 = .ok (.invokevirtual 290, 3) := by decide +kernel
theorem dX14_sign_38 : decode cX14_sign 38 = .ok (.iconst 1, 1) := by decide +kernel
theorem dX14_sign_39 : decode cX14_sign 39 = .ok (.if_icmp .ne 45, 3) := by decide +kernel
theorem dX14_sign_84 : decode cX14_sign 84 = .ok (.iconst 0, 1) := by decide +kernel
theorem dX14_sign_85 : decode cX14_sign 85 = .ok (.istore_n 3, 1) := by decide +kernel
theorem dX14_sign_86 : decode cX14_sign 86 = .ok (.iload_n 3, 1) := by decide +kernel
theorem dX14_sign_87 : decode cX14_sign 87 = .ok (.aload_n 1, 1) := by decide +kernel
theorem dX14_sign_88 : decode cX14_sign 88 = .ok (.invokevirtual 290, 3) := by decide +kernel
theorem dX14_sign_91 : decode cX14_sign 91 = .ok (.if_icmp .ge 38, 3) := by decide +kernel
theorem dX14_sign_129 : decode cX14_sign 129 = .ok (.iload_n 2, 1) := by decide +kernel
theorem dX14_sign_130 : decode cX14_sign 130 = .ok (.ifCond .eq 19, 3) := by decide +kernel
theorem dX14_sign_149 : decode cX14_sign 149 = .ok (.aload_n 0, 1) := by decide +kernel
theorem dX14_sign_150 : decode cX14_sign 150 = .ok (.iconst 1, 1) := by decide +kernel
theorem dX14_sign_151 : decode cX14_sign 151 = .ok (.aload_n 0, 1) := by decide +kernel
theorem dX14_sign_152 : decode cX14_sign 152 = .ok (.getfield 274, 3) := by decide +kernel
theorem dX14_sign_155 : decode cX14_sign 155 = .ok (.invokevirtual 280, 3) := by decide +kernel
theorem dX14_sign_158 : decode cX14_sign 158 = .ok (.return_, 1) := by decide +kernel
theorem dX14_sign_133 : decode cX14_sign 133 = .ok (.aload_n 0, 1) := by decide +kernel
theorem dX14_sign_134 : decode cX14_sign 134 = .ok (.dup, 1) := by decide +kernel
theorem dX14_sign_135 : decode cX14_sign 135 = .ok (.getfield 274, 3) := by decide +kernel
theorem dX14_sign_138 : decode cX14_sign 138 = .ok (.aload_n 1, 1) := by decide +kernel
theorem dX14_sign_139 : decode cX14_sign 139 = .ok (.invokevirtual 290, 3) := by decide +kernel
theorem dX14_sign_142 : decode cX14_sign 142 = .ok (.iadd, 1) := by decide +kernel
theorem dX14_sign_143 : decode cX14_sign 143 = .ok (.putfield 274, 3) := by decide +kernel
theorem dX14_sign_146 : decode cX14_sign 146 = .ok (.goto 12, 3) := by decide +kernel
theorem dX14_sign_94 : decode cX14_sign 94 = .ok (.iload_n 2, 1) := by decide +kernel
theorem dX14_sign_95 : decode cX14_sign 95 = .ok (.ifCond .eq 34, 3) := by decide +kernel
theorem dX14_sign_98 : decode cX14_sign 98 = .ok (.aload_n 0, 1) := by decide +kernel
theorem dX14_sign_99 : decode cX14_sign 99 = .ok (.getfield 263, 3) := by decide +kernel
theorem dX14_sign_102 : decode cX14_sign 102 = .ok (.aload_n 0, 1) := by decide +kernel
theorem dX14_sign_103 : decode cX14_sign 103 = .ok (.getfield 274, 3) := by decide +kernel
theorem dX14_sign_106 : decode cX14_sign 106 = .ok (.iload_n 3, 1) := by decide +kernel
theorem dX14_sign_107 : decode cX14_sign 107 = .ok (.iadd, 1) := by decide +kernel
theorem dX14_sign_108 : decode cX14_sign 108 = .ok (.baload, 1) := by decide +kernel
theorem dX14_sign_109 : decode cX14_sign 109 = .ok (.aload_n 1, 1) := by decide +kernel
theorem dX14_sign_110 : decode cX14_sign 110 = .ok (.iload_n 3, 1) := by decide +kernel
theorem dX14_sign_111 : decode cX14_sign 111 = .ok (.invokevirtual 296, 3) := by decide +kernel
theorem dX14_sign_114 : decode cX14_sign 114 = .ok (.if_icmp .ne 7, 3) := by decide +kernel
theorem dX14_sign_121 : decode cX14_sign 121 = .ok (.iconst 0, 1) := by decide +kernel
theorem dX14_sign_122 : decode cX14_sign 122 = .ok (.istore_n 2, 1) := by decide +kernel
theorem dX14_sign_123 : decode cX14_sign 123 = .ok (.iinc 3 1, 3) := by decide +kernel
theorem dX14_sign_126 : decode cX14_sign 126 = .ok (.goto (-40), 3) := by decide +kernel
theorem dX14_sign_117 : decode cX14_sign 117 = .ok (.iconst 1, 1) := by decide +kernel
theorem dX14_sign_118 : decode cX14_sign 118 = .ok (.goto 4, 3) := by decide +kernel
theorem dX14_sign_42 : decode cX14_sign 42 = .ok (.aload_n 1, 1) := by decide +kernel
theorem dX14_sign_43 : decode cX14_sign 43 = .ok (.iconst 0, 1) := by decide +kernel
theorem dX14_sign_44 : decode cX14_sign 44 = .ok (.invokevirtual 296, 3) := by decide +kernel
theorem dX14_sign_47 : decode cX14_sign 47 = .ok (.bipush 58, 2) := by decide +kernel
theorem dX14_sign_49 : decode cX14_sign 49 = .ok (.if_icmp .ne 35, 3) := by decide +kernel
theorem dX14_sign_52 : decode cX14_sign 52 = .ok (.aload_n 0, 1) := by decide +kernel
theorem dX14_sign_53 : decode cX14_sign 53 = .ok (.aload_n 0, 1) := by decide +kernel
theorem dX14_sign_54 : decode cX14_sign 54 = .ok (.getfield 274, 3) := by decide +kernel
theorem dX14_sign_57 : decode cX14_sign 57 = .ok (.iconst 1, 1) := by decide +kernel
theorem dX14_sign_58 : decode cX14_sign 58 = .ok (.iadd, 1) := by decide +kernel
theorem dX14_sign_59 : decode cX14_sign 59 = .ok (.invokevirtual 266, 3) := by decide +kernel
theorem dX14_sign_62 : decode cX14_sign 62 = .ok (.bipush 58, 2) := by decide +kernel
theorem dX14_sign_64 : decode cX14_sign 64 = .ok (.if_icmp .ne 20, 3) := by decide +kernel
theorem dX14_sign_67 : decode cX14_sign 67 = .ok (.aload_n 0, 1) := by decide +kernel
theorem dX14_sign_68 : decode cX14_sign 68 = .ok (.aload_n 0, 1) := by decide +kernel
theorem dX14_sign_69 : decode cX14_sign 69 = .ok (.getfield 274, 3) := by decide +kernel
theorem dX14_sign_72 : decode cX14_sign 72 = .ok (.iconst 2, 1) := by decide +kernel
theorem dX14_sign_73 : decode cX14_sign 73 = .ok (.iadd, 1) := by decide +kernel
theorem dX14_sign_74 : decode cX14_sign 74 = .ok (.invokevirtual 266, 3) := by decide +kernel
theorem dX14_sign_77 : decode cX14_sign 77 = .ok (.bipush 61, 2) := by decide +kernel
theorem dX14_sign_79 : decode cX14_sign 79 = .ok (.if_icmp .ne 5, 3) := by decide +kernel
theorem dX14_sign_82 : decode cX14_sign 82 = .ok (.iconst 0, 1) := by decide +kernel
theorem dX14_sign_83 : decode cX14_sign 83 = .ok (.istore_n 2, 1) := by decide +kernel
theorem dX14_sign_28 : decode cX14_sign 28 = .ok (.iconst 1, 1) := by decide +kernel
theorem dX14_sign_29 : decode cX14_sign 29 = .ok (.goto 4, 3) := by decide +kernel
theorem dX14_sign_11 : decode cX14_sign 11 = .ok (.return_, 1) := by decide +kernel
def pre_X14_is (σ : rS) (p0 n0 : Nat) (x1 : Int) (x2 : Int) (n3 : Nat) : Prop := 0 ≤ x1 ∧ x1 ≤ x2 ∧ x2 ≤ n0 ∧ n0 ≤ 100000
def post_X14_is (σ : rS) (p0 n0 : Nat) (x1 : Int) (x2 : Int) (n3 : Nat) (r : Int) : Prop := (r = 0 ∨ r = 1) ∧ (r = 1 → x2 - x1 = (n3 : Int))
def inv_X14_is_20 (σ : rS) (p0 n0 : Nat) (x1 : Int) (x2 : Int) (n3 : Nat)  (s : rS) (b : Int) (kk : Int) : Prop := (b = 0 ∨ b = 1) ∧ (b = 1 → x2 - x1 = (n3 : Int)) ∧ 0 ≤ kk ∧ kk ≤ (n3 : Int)
def mu_X14_is_20 (σ : rS) (p0 n0 : Nat) (x1 : Int) (x2 : Int) (n3 : Nat) (s : rS) (b : Int) (kk : Int) : Nat := (1 + ((n3 : Int) - kk).toNat)
def VC_X14_is (σ : rS) (p0 n0 : Nat) (x1 : Int) (x2 : Int) (n3 : Nat) (Q : Int → Prop) : Prop := rng (x2 - x1) ∧ ((¬ (x2 - x1) = (n3 : Int) → (inv_X14_is_20 σ p0 n0 x1 x2 n3 σ 0 0)) ∧ ((x2 - x1) = (n3 : Int) → (inv_X14_is_20 σ p0 n0 x1 x2 n3 σ 1 0)))
def VC_X14_is_20 (σ : rS) (p0 n0 : Nat) (x1 : Int) (x2 : Int) (n3 : Nat) (Q : Int → Prop) : Prop := ∀ (y2 : Int) (y3 : Int), rng y2 → rng y3 → inv_X14_is_20 σ p0 n0 x1 x2 n3 σ y2 y3 → ((((n3 : Int) ≤ y3 → (y2 = 0 ∨ y2 = 1) ∧ Q y2) ∧ (¬ (n3 : Int) ≤ y3 → ((y2 = 0 → (y2 = 0 ∨ y2 = 1) ∧ Q y2) ∧ (¬ y2 = 0 → (0 ≤ (x1 + y3) ∧ (x1 + y3) < n0) ∧ (rng (rA σ p0 (x1 + y3)) → ((0 : Int) ≤ y3 ∧ y3 < (n3 : Int)) ∧ (∀ (x8 : Int), (0 ≤ x8 ∧ x8 ≤ 255) → ((¬ (rA σ p0 (x1 + y3)) = x8 → rng (y3 + 1) ∧ (inv_X14_is_20 σ p0 n0 x1 x2 n3 σ 0 (y3 + 1) ∧ (mu_X14_is_20 σ p0 n0 x1 x2 n3 σ 0 (y3 + 1)) < (mu_X14_is_20 σ p0 n0 x1 x2 n3 σ y2 y3))) ∧ ((rA σ p0 (x1 + y3)) = x8 → rng (y3 + 1) ∧ (inv_X14_is_20 σ p0 n0 x1 x2 n3 σ 1 (y3 + 1) ∧ (mu_X14_is_20 σ p0 n0 x1 x2 n3 σ 1 (y3 + 1)) < (mu_X14_is_20 σ p0 n0 x1 x2 n3 σ y2 y3)))))))))))
def VC_X14_is_20m (σ : rS) (p0 n0 : Nat) (x1 : Int) (x2 : Int) (n3 : Nat) : Prop := ∀ (y2 : Int) (y3 : Int), rng y2 → rng y3 → inv_X14_is_20 σ p0 n0 x1 x2 n3 σ y2 y3 → 0 < (mu_X14_is_20 σ p0 n0 x1 x2 n3 σ y2 y3)
theorem vX14_is (σ : rS) (p0 n0 : Nat) (x1 : Int) (x2 : Int) (n3 : Nat) (hwf : rWF σ) (ha0 : rAr 3 n0 p0) (hx1 : rng x1) (hx2 : rng x2) (hs3 : n3 < 1000) (hp : pre_X14_is σ p0 n0 x1 x2 n3) : VC_X14_is σ p0 n0 x1 x2 n3 (post_X14_is σ p0 n0 x1 x2 n3) := by
  simp only [VC_X14_is, pre_X14_is, post_X14_is, inv_X14_is_20, mu_X14_is_20, rng, rfk, rNM, rF_sF, rF_sA, rF_sL, rF_sR, rA_sA, rA_sF, rA_sL, rA_sR, rR_sF, rR_sA, rR_sL, rR_sR, reduceIte, and_true, true_and, and_false, false_and, and_self] at *
  (repeat' (first | intro _ | apply And.intro))
  all_goals (first | omega | grind (splits := 20))
theorem vX14_is_20 (σ : rS) (p0 n0 : Nat) (x1 : Int) (x2 : Int) (n3 : Nat) (hwf : rWF σ) (ha0 : rAr 3 n0 p0) (hx1 : rng x1) (hx2 : rng x2) (hs3 : n3 < 1000) (hp : pre_X14_is σ p0 n0 x1 x2 n3) : VC_X14_is_20 σ p0 n0 x1 x2 n3 (post_X14_is σ p0 n0 x1 x2 n3) := by
  simp only [VC_X14_is_20, pre_X14_is, post_X14_is, inv_X14_is_20, mu_X14_is_20, rng, rfk, rNM, rF_sF, rF_sA, rF_sL, rF_sR, rA_sA, rA_sF, rA_sL, rA_sR, rR_sF, rR_sA, rR_sL, rR_sR, reduceIte, and_true, true_and, and_false, false_and, and_self] at *
  (repeat' (first | intro _ | apply And.intro))
  all_goals (first | omega | grind (splits := 20))
theorem vX14_is_20m (σ : rS) (p0 n0 : Nat) (x1 : Int) (x2 : Int) (n3 : Nat) (hwf : rWF σ) (ha0 : rAr 3 n0 p0) (hx1 : rng x1) (hx2 : rng x2) (hs3 : n3 < 1000) (hp : pre_X14_is σ p0 n0 x1 x2 n3) : VC_X14_is_20m σ p0 n0 x1 x2 n3 := by
  simp only [VC_X14_is_20m, pre_X14_is, post_X14_is, inv_X14_is_20, mu_X14_is_20, rng, rfk, rNM, rF_sF, rF_sA, rF_sL, rF_sR, rA_sA, rA_sF, rA_sL, rA_sR, rR_sF, rR_sA, rR_sL, rR_sR, reduceIte, and_true, true_and, and_false, false_and, and_self] at *
  (repeat' (first | intro _ | apply And.intro))
  all_goals (first | omega | grind (splits := 20))
theorem wX14_is (l : Launch) (G : zG) (κ : Nat → Nat) (σ : rS) (p0 n0 : Nat) (x1 : Int) (x2 : Int) (t3 n3 : Nat) (hwf : rWF σ) (ha0 : rAr 3 n0 p0) (hx1 : rng x1) (hx2 : rng x2) (hs3 : rSt G t3 n3) (Q : Int → Prop) (h : VC_X14_is σ p0 n0 x1 x2 n3 Q) (h_20 : VC_X14_is_20 σ p0 n0 x1 x2 n3 Q) (h_20m : VC_X14_is_20m σ p0 n0 x1 x2 n3) : rMi l G κ yX14_is cX14_is 6 .boolean 4 121 [.ref (κ p0), iv x1, iv x2, .ref t3] σ (fun x s => s = σ ∧ Q x) := by
  refine zMi.intro (by decide +kernel) (Nat.le_of_ble_eq_true rfl) (fun X hC hR => ?_)
  refine z_iload_n hC (pc := 0) 2 dX14_is_0 rfl rfl ?_
  refine z_iload_n hC (pc := 1) 1 dX14_is_1 rfl rfl ?_
  refine y_isub hC (pc := 2) (v := (x2 - x1)) dX14_is_2 rfl ?_
  refine z_aload_n hC (pc := 3) 3 dX14_is_3 rfl rfl ?_
  refine y_slen hC (pc := 4) hs3 dX14_is_4 zw3021 (Nat.le_of_ble_eq_true rfl) (Nat.le_of_ble_eq_true rfl) (Nat.le_of_ble_eq_true rfl) (Nat.le_of_ble_eq_true rfl) (Nat.le_of_ble_eq_true rfl) ?_
  obtain ⟨r1, h⟩ := h
  obtain ⟨hT, hF⟩ := h
  refine y_icmp_ne hC (pc := 7) 14 r1 (rSt.rng hs3) dX14_is_7 (by decide) (fun c => ?_) (fun c => ?_)
  · have h := hT c
    refine z_iconst hC (pc := 14) (v := Int32.ofInt 0) dX14_is_14 (by decide) ?_
    refine z_istore hC (pc := 15) (lv' := [(4, iv 0), (0, .ref (κ p0)), (1, iv x1), (2, iv x2), (3, .ref t3)]) dX14_is_15 (by decide) rfl ?_
    refine z_iconst hC (pc := 17) (v := Int32.ofInt 0) dX14_is_17 (by decide) ?_
    refine z_istore hC (pc := 18) (lv' := [(5, iv 0), (4, iv 0), (0, .ref (κ p0)), (1, iv x1), (2, iv x2), (3, .ref t3)]) dX14_is_18 (by decide) rfl ?_
    have j20 : ∀ (d20 : Nat), ∀ (y2 : Int) (y3 : Int), rng y2 → rng y3 → inv_X14_is_20 σ p0 n0 x1 x2 n3 σ y2 y3 → (mu_X14_is_20 σ p0 n0 x1 x2 n3 σ y2 y3) ≤ d20 → zS X G 6 (rW G κ σ) [(0, .ref (κ p0)), (1, iv x1), (3, .ref t3), (4, iv y2), (5, iv y3)] 0 0 20 [] := by
      intro d20
      induction d20 with
      | zero =>
        intro y2 y3 hy2 hy3 hI hmu
        exact absurd hmu (by have := h_20m   y2 y3  hy2 hy3  hI; omega)
      | succ d20 ih20 =>
        intro y2 y3 hy2 hy3 hI hmu20
        have h := h_20   y2 y3  hy2 hy3  hI
        refine z_iload hC (pc := 20) 4 dX14_is_20 rfl ?_
        refine z_aload_n hC (pc := 22) 2 dX14_is_22 rfl rfl ?_
        refine y_slen hC (pc := 23) hs3 dX14_is_23 zw3021 (Nat.le_of_ble_eq_true rfl) (Nat.le_of_ble_eq_true rfl) (Nat.le_of_ble_eq_true rfl) (Nat.le_of_ble_eq_true rfl) (Nat.le_of_ble_eq_true rfl) ?_
        obtain ⟨hT, hF⟩ := h
        refine y_icmp_ge hC (pc := 26) 62 hy3 (rSt.rng hs3) dX14_is_26 (by decide) (fun c => ?_) (fun c => ?_)
        · have h := hT c
          refine z_iload hC (pc := 62) 3 dX14_is_62 rfl ?_
          obtain ⟨z4, h⟩ := h
          exact y_reti hR dX14_is_64 (r_nZ z4) hy2 hwf (Nat.le_of_ble_eq_true rfl) (Nat.le_of_ble_eq_true rfl) ⟨rfl, h⟩
        · have h := hF c
          refine z_iload hC (pc := 29) 3 dX14_is_29 rfl ?_
          obtain ⟨hT, hF⟩ := h
          refine y_if_eq hC (pc := 31) 62 hy2 dX14_is_31 (by decide) (fun c => ?_) (fun c => ?_)
          · have h := hT c
            refine z_iload hC (pc := 62) 3 dX14_is_62 rfl ?_
            obtain ⟨z5, h⟩ := h
            exact y_reti hR dX14_is_64 (r_nZ z5) hy2 hwf (Nat.le_of_ble_eq_true rfl) (Nat.le_of_ble_eq_true rfl) ⟨rfl, h⟩
          · have h := hF c
            refine z_aload_n hC (pc := 34) 0 dX14_is_34 rfl rfl ?_
            refine z_iload_n hC (pc := 35) 1 dX14_is_35 rfl rfl ?_
            refine z_iload hC (pc := 36) 4 dX14_is_36 rfl ?_
            refine y_iadd hC (pc := 38) (v := (x1 + y3)) dX14_is_38 rfl ?_
            obtain ⟨b6, h⟩ := h
            refine y_bald hC (pc := 39) ha0 dX14_is_39 b6 (v := (rA σ p0 (x1 + y3))) rfl (kk := ?_)
            have h := h (hwf.a _ _)
            refine z_aload_n hC (pc := 40) 2 dX14_is_40 rfl rfl ?_
            refine z_iload hC (pc := 41) 4 dX14_is_41 rfl ?_
            obtain ⟨b7, h⟩ := h
            refine y_char hC (pc := 43) (i := y3) hs3 b7 dX14_is_43 zw3022 (Nat.le_of_ble_eq_true rfl) (Nat.le_of_ble_eq_true rfl) (Nat.le_of_ble_eq_true rfl) (Nat.le_of_ble_eq_true rfl) (Nat.le_of_ble_eq_true rfl) (fun x8 hx8 => ?_)
            have h := h x8 hx8
            obtain ⟨hT, hF⟩ := h
            refine y_icmp_ne hC (pc := 46) 53 (hwf.a _ _) (r_255 hx8) dX14_is_46 (by decide) (fun c => ?_) (fun c => ?_)
            · have h := hT c
              refine z_iconst hC (pc := 53) (v := Int32.ofInt 0) dX14_is_53 (by decide) ?_
              refine z_istore hC (pc := 54) (lv' := [(4, iv 0), (0, .ref (κ p0)), (1, iv x1), (3, .ref t3), (5, iv y3)]) dX14_is_54 (by decide) rfl ?_
              refine y_iinc hC (pc := 56) (v := (y3 + 1)) (lv' := [(5, iv (y3 + 1)), (4, iv 0), (0, .ref (κ p0)), (1, iv x1), (3, .ref t3)]) 4 dX14_is_56 rfl rfl (by decide) rfl ?_
              refine z_goto hC (pc := 59) 20 dX14_is_59 (by decide) ?_
              refine z_lvs [2, 3, 4, 1, 0] rfl ?_
              obtain ⟨r9, h⟩ := h
              obtain ⟨hI, hm⟩ := h
              exact ih20  0 (y3 + 1)  (r_lit rfl) r9  hI (by omega)
            · have h := hF c
              refine z_iconst hC (pc := 49) (v := Int32.ofInt 1) dX14_is_49 (by decide) ?_
              refine z_goto hC (pc := 50) 54 dX14_is_50 (by decide) ?_
              refine z_istore hC (pc := 54) (lv' := [(4, iv 1), (0, .ref (κ p0)), (1, iv x1), (3, .ref t3), (5, iv y3)]) dX14_is_54 (by decide) rfl ?_
              refine y_iinc hC (pc := 56) (v := (y3 + 1)) (lv' := [(5, iv (y3 + 1)), (4, iv 1), (0, .ref (κ p0)), (1, iv x1), (3, .ref t3)]) 4 dX14_is_56 rfl rfl (by decide) rfl ?_
              refine z_goto hC (pc := 59) 20 dX14_is_59 (by decide) ?_
              refine z_lvs [2, 3, 4, 1, 0] rfl ?_
              obtain ⟨r10, h⟩ := h
              obtain ⟨hI, hm⟩ := h
              exact ih20  1 (y3 + 1)  (r_lit rfl) r10  hI (by omega)
    refine z_lvs [2, 3, 5, 1, 0] rfl ?_
    exact j20 _  0 0  (r_lit rfl) (r_lit rfl)  h (Nat.le_refl _)
  · have h := hF c
    refine z_iconst hC (pc := 10) (v := Int32.ofInt 1) dX14_is_10 (by decide) ?_
    refine z_goto hC (pc := 11) 15 dX14_is_11 (by decide) ?_
    refine z_istore hC (pc := 15) (lv' := [(4, iv 1), (0, .ref (κ p0)), (1, iv x1), (2, iv x2), (3, .ref t3)]) dX14_is_15 (by decide) rfl ?_
    refine z_iconst hC (pc := 17) (v := Int32.ofInt 0) dX14_is_17 (by decide) ?_
    refine z_istore hC (pc := 18) (lv' := [(5, iv 0), (4, iv 1), (0, .ref (κ p0)), (1, iv x1), (2, iv x2), (3, .ref t3)]) dX14_is_18 (by decide) rfl ?_
    have j20 : ∀ (d20 : Nat), ∀ (y11 : Int) (y12 : Int), rng y11 → rng y12 → inv_X14_is_20 σ p0 n0 x1 x2 n3 σ y11 y12 → (mu_X14_is_20 σ p0 n0 x1 x2 n3 σ y11 y12) ≤ d20 → zS X G 6 (rW G κ σ) [(0, .ref (κ p0)), (1, iv x1), (3, .ref t3), (4, iv y11), (5, iv y12)] 0 0 20 [] := by
      intro d20
      induction d20 with
      | zero =>
        intro y11 y12 hy11 hy12 hI hmu
        exact absurd hmu (by have := h_20m   y11 y12  hy11 hy12  hI; omega)
      | succ d20 ih20 =>
        intro y11 y12 hy11 hy12 hI hmu20
        have h := h_20   y11 y12  hy11 hy12  hI
        refine z_iload hC (pc := 20) 4 dX14_is_20 rfl ?_
        refine z_aload_n hC (pc := 22) 2 dX14_is_22 rfl rfl ?_
        refine y_slen hC (pc := 23) hs3 dX14_is_23 zw3021 (Nat.le_of_ble_eq_true rfl) (Nat.le_of_ble_eq_true rfl) (Nat.le_of_ble_eq_true rfl) (Nat.le_of_ble_eq_true rfl) (Nat.le_of_ble_eq_true rfl) ?_
        obtain ⟨hT, hF⟩ := h
        refine y_icmp_ge hC (pc := 26) 62 hy12 (rSt.rng hs3) dX14_is_26 (by decide) (fun c => ?_) (fun c => ?_)
        · have h := hT c
          refine z_iload hC (pc := 62) 3 dX14_is_62 rfl ?_
          obtain ⟨z13, h⟩ := h
          exact y_reti hR dX14_is_64 (r_nZ z13) hy11 hwf (Nat.le_of_ble_eq_true rfl) (Nat.le_of_ble_eq_true rfl) ⟨rfl, h⟩
        · have h := hF c
          refine z_iload hC (pc := 29) 3 dX14_is_29 rfl ?_
          obtain ⟨hT, hF⟩ := h
          refine y_if_eq hC (pc := 31) 62 hy11 dX14_is_31 (by decide) (fun c => ?_) (fun c => ?_)
          · have h := hT c
            refine z_iload hC (pc := 62) 3 dX14_is_62 rfl ?_
            obtain ⟨z14, h⟩ := h
            exact y_reti hR dX14_is_64 (r_nZ z14) hy11 hwf (Nat.le_of_ble_eq_true rfl) (Nat.le_of_ble_eq_true rfl) ⟨rfl, h⟩
          · have h := hF c
            refine z_aload_n hC (pc := 34) 0 dX14_is_34 rfl rfl ?_
            refine z_iload_n hC (pc := 35) 1 dX14_is_35 rfl rfl ?_
            refine z_iload hC (pc := 36) 4 dX14_is_36 rfl ?_
            refine y_iadd hC (pc := 38) (v := (x1 + y12)) dX14_is_38 rfl ?_
            obtain ⟨b15, h⟩ := h
            refine y_bald hC (pc := 39) ha0 dX14_is_39 b15 (v := (rA σ p0 (x1 + y12))) rfl (kk := ?_)
            have h := h (hwf.a _ _)
            refine z_aload_n hC (pc := 40) 2 dX14_is_40 rfl rfl ?_
            refine z_iload hC (pc := 41) 4 dX14_is_41 rfl ?_
            obtain ⟨b16, h⟩ := h
            refine y_char hC (pc := 43) (i := y12) hs3 b16 dX14_is_43 zw3022 (Nat.le_of_ble_eq_true rfl) (Nat.le_of_ble_eq_true rfl) (Nat.le_of_ble_eq_true rfl) (Nat.le_of_ble_eq_true rfl) (Nat.le_of_ble_eq_true rfl) (fun x17 hx17 => ?_)
            have h := h x17 hx17
            obtain ⟨hT, hF⟩ := h
            refine y_icmp_ne hC (pc := 46) 53 (hwf.a _ _) (r_255 hx17) dX14_is_46 (by decide) (fun c => ?_) (fun c => ?_)
            · have h := hT c
              refine z_iconst hC (pc := 53) (v := Int32.ofInt 0) dX14_is_53 (by decide) ?_
              refine z_istore hC (pc := 54) (lv' := [(4, iv 0), (0, .ref (κ p0)), (1, iv x1), (3, .ref t3), (5, iv y12)]) dX14_is_54 (by decide) rfl ?_
              refine y_iinc hC (pc := 56) (v := (y12 + 1)) (lv' := [(5, iv (y12 + 1)), (4, iv 0), (0, .ref (κ p0)), (1, iv x1), (3, .ref t3)]) 4 dX14_is_56 rfl rfl (by decide) rfl ?_
              refine z_goto hC (pc := 59) 20 dX14_is_59 (by decide) ?_
              refine z_lvs [2, 3, 4, 1, 0] rfl ?_
              obtain ⟨r18, h⟩ := h
              obtain ⟨hI, hm⟩ := h
              exact ih20  0 (y12 + 1)  (r_lit rfl) r18  hI (by omega)
            · have h := hF c
              refine z_iconst hC (pc := 49) (v := Int32.ofInt 1) dX14_is_49 (by decide) ?_
              refine z_goto hC (pc := 50) 54 dX14_is_50 (by decide) ?_
              refine z_istore hC (pc := 54) (lv' := [(4, iv 1), (0, .ref (κ p0)), (1, iv x1), (3, .ref t3), (5, iv y12)]) dX14_is_54 (by decide) rfl ?_
              refine y_iinc hC (pc := 56) (v := (y12 + 1)) (lv' := [(5, iv (y12 + 1)), (4, iv 1), (0, .ref (κ p0)), (1, iv x1), (3, .ref t3)]) 4 dX14_is_56 rfl rfl (by decide) rfl ?_
              refine z_goto hC (pc := 59) 20 dX14_is_59 (by decide) ?_
              refine z_lvs [2, 3, 4, 1, 0] rfl ?_
              obtain ⟨r19, h⟩ := h
              obtain ⟨hI, hm⟩ := h
              exact ih20  1 (y12 + 1)  (r_lit rfl) r19  hI (by omega)
    refine z_lvs [2, 3, 5, 1, 0] rfl ?_
    exact j20 _  1 0  (r_lit rfl) (r_lit rfl)  h (Nat.le_refl _)
theorem kX14_is (l : Launch) (G : zG) (κ : Nat → Nat) (σ : rS) (p0 n0 : Nat) (x1 : Int) (x2 : Int) (t3 n3 : Nat) (hwf : rWF σ) (ha0 : rAr 3 n0 p0) (hx1 : rng x1) (hx2 : rng x2) (hs3 : rSt G t3 n3) (hp : pre_X14_is σ p0 n0 x1 x2 n3) : rMi l G κ yX14_is cX14_is 6 .boolean 4 121 [.ref (κ p0), iv x1, iv x2, .ref t3] σ (fun x s => s = σ ∧ post_X14_is σ p0 n0 x1 x2 n3 x) := wX14_is l G κ σ p0 n0 x1 x2 t3 n3 hwf ha0 hx1 hx2 hs3 (post_X14_is σ p0 n0 x1 x2 n3) (vX14_is σ p0 n0 x1 x2 n3 hwf ha0 hx1 hx2 hs3.1 hp) (vX14_is_20 σ p0 n0 x1 x2 n3 hwf ha0 hx1 hx2 hs3.1 hp) (vX14_is_20m σ p0 n0 x1 x2 n3 hwf ha0 hx1 hx2 hs3.1 hp)
def pre_X14_isFileWord (σ : rS) (n1 : Nat) : Prop := 0 ≤ (rF σ 0 17) ∧ 0 ≤ (rF σ 0 16) ∧ (rF σ 0 16) ≤ 4000 ∧ rfk (rR σ 15) ∧ (rF σ 0 17) ≤ (rF σ 0 16)
def post_X14_isFileWord (σ : rS) (n1 : Nat) (r : Int) : Prop := (r = 0 ∨ r = 1) ∧ (r = 1 → (rF σ 0 17) + (n1 : Int) ≤ (rF σ 0 16) ∨ n1 = 0)
def VC_X14_isFileWord (σ : rS) (n1 : Nat) (Q : Int → Prop) : Prop := rfk (rR σ 15) ∧ (rng (rF σ 0 17) → (rng (rF σ 0 16) → pre_X14_wordEnd σ (rR σ 15) 4000 (rF σ 0 16) (rF σ 0 17) ∧ (∀ (x4 : Int), rng x4 → post_X14_wordEnd σ (rR σ 15) 4000 (rF σ 0 16) (rF σ 0 17) x4 → pre_X14_is σ (rR σ 15) 4000 (rF σ 0 17) x4 n1 ∧ (∀ (x7 : Int), rng x7 → post_X14_is σ (rR σ 15) 4000 (rF σ 0 17) x4 n1 x7 → (x7 = 0 ∨ x7 = 1) ∧ Q x7))))
theorem vX14_isFileWord (σ : rS) (n1 : Nat) (hwf : rWF σ) (hs1 : n1 < 1000) (hp : pre_X14_isFileWord σ n1) : VC_X14_isFileWord σ n1 (post_X14_isFileWord σ n1) := by
  simp only [VC_X14_isFileWord, pre_X14_isFileWord, post_X14_isFileWord, pre_X14_wordEnd, pre_X14_is, post_X14_wordEnd, post_X14_is, rng, rfk, rNM, rF_sF, rF_sA, rF_sL, rF_sR, rA_sA, rA_sF, rA_sL, rA_sR, rR_sF, rR_sA, rR_sL, rR_sR, reduceIte, and_true, true_and, and_false, false_and, and_self] at *
  (repeat' (first | intro _ | apply And.intro))
  all_goals (first | omega | grind (splits := 20))
theorem wX14_isFileWord (l : Launch) (G : zG) (κ : Nat → Nat) (σ : rS) (t1 n1 : Nat) (hwf : rWF σ) (hs1 : rSt G t1 n1) (Q : Int → Prop) (h : VC_X14_isFileWord σ n1 Q) : rMi l G κ yX14_isFileWord cX14_isFileWord 2 .boolean 5 146 [.ref (κ 0), .ref t1] σ (fun x s => s = σ ∧ Q x) := by
  refine zMi.intro (by decide +kernel) (Nat.le_of_ble_eq_true rfl) (fun X hC hR => ?_)
  refine z_aload_n hC (pc := 0) 0 dX14_isFileWord_0 rfl rfl ?_
  obtain ⟨g1, h⟩ := h
  refine y_get hC (pc := 1) zf14 rOb_0 15 (v := .ref (κ (rR σ 15))) dX14_isFileWord_1 zw2482 (rv_b rfl rfl g1) (kk := ?_)
  refine z_aload_n hC (pc := 4) 0 dX14_isFileWord_4 rfl rfl ?_
  refine y_get hC (pc := 5) zf14 rOb_0 17 (v := iv (rF σ 0 17)) dX14_isFileWord_5 zw2484 (rv_i (Or.inl rfl) rfl) (kk := ?_)
  have h := h (hwf.f _ _)
  refine z_aload_n hC (pc := 8) 0 dX14_isFileWord_8 rfl rfl ?_
  refine y_get hC (pc := 9) zf14 rOb_0 15 (v := .ref (κ (rR σ 15))) dX14_isFileWord_9 zw2482 (rv_b rfl rfl g1) (kk := ?_)
  refine z_aload_n hC (pc := 12) 0 dX14_isFileWord_12 rfl rfl ?_
  refine y_get hC (pc := 13) zf14 rOb_0 16 (v := iv (rF σ 0 16)) dX14_isFileWord_13 zw2483 (rv_i (Or.inl rfl) rfl) (kk := ?_)
  have h := h (hwf.f _ _)
  refine z_aload_n hC (pc := 16) 0 dX14_isFileWord_16 rfl rfl ?_
  refine y_get hC (pc := 17) zf14 rOb_0 17 (v := iv (rF σ 0 17)) dX14_isFileWord_17 zw2484 (rv_i (Or.inl rfl) rfl) (kk := ?_)
  obtain ⟨p2, h⟩ := h
  refine y_callSi hC (pc := 20) (As := [.ref (κ (rR σ 15)), iv (rF σ 0 16), iv (rF σ 0 17)]) (kX14_wordEnd l G κ σ (rR σ 15) 4000 (rF σ 0 16) (rF σ 0 17) hwf (rAr_f g1) (hwf.f _ _) (hwf.f _ _) p2) dmX14_wordEnd dX14_isFileWord_20 zw3009 rfl rfl (Nat.le_of_ble_eq_true rfl) (Nat.le_of_ble_eq_true rfl) (Nat.le_of_ble_eq_true rfl) (Nat.le_of_ble_eq_true rfl) (Nat.le_of_ble_eq_true rfl) (kk := fun x4 s3 hx4 Ws3 qs3 => ?_)
  obtain ⟨es3, qs3⟩ := qs3
  have es3 := es3.symm
  subst es3
  have h := h x4 hx4 qs3
  refine z_aload_n hC (pc := 23) 1 dX14_isFileWord_23 rfl rfl ?_
  obtain ⟨p5, h⟩ := h
  refine y_callSi hC (pc := 24) (As := [.ref (κ (rR σ 15)), iv (rF σ 0 17), iv x4, .ref t1]) (kX14_is l G κ σ (rR σ 15) 4000 (rF σ 0 17) x4 t1 n1 hwf (rAr_f g1) (hwf.f _ _) hx4 hs1 p5) dmX14_is dX14_isFileWord_24 zw3018 rfl rfl (Nat.le_of_ble_eq_true rfl) (Nat.le_of_ble_eq_true rfl) (Nat.le_of_ble_eq_true rfl) (Nat.le_of_ble_eq_true rfl) (Nat.le_of_ble_eq_true rfl) (kk := fun x7 s6 hx7 Ws6 qs6 => ?_)
  obtain ⟨es6, qs6⟩ := qs6
  have es6 := es6.symm
  subst es6
  have h := h x7 hx7 qs6
  obtain ⟨z8, h⟩ := h
  exact y_reti hR dX14_isFileWord_27 (r_nZ z8) hx7 hwf (Nat.le_of_ble_eq_true rfl) (Nat.le_of_ble_eq_true rfl) ⟨rfl, h⟩
theorem kX14_isFileWord (l : Launch) (G : zG) (κ : Nat → Nat) (σ : rS) (t1 n1 : Nat) (hwf : rWF σ) (hs1 : rSt G t1 n1) (hp : pre_X14_isFileWord σ n1) : rMi l G κ yX14_isFileWord cX14_isFileWord 2 .boolean 5 146 [.ref (κ 0), .ref t1] σ (fun x s => s = σ ∧ post_X14_isFileWord σ n1 x) := wX14_isFileWord l G κ σ t1 n1 hwf hs1 (post_X14_isFileWord σ n1) (vX14_isFileWord σ n1 hwf hs1.1 hp) 
def pre_X14_isWord (σ : rS) (n1 : Nat) : Prop := 0 ≤ (rF σ 0 29) ∧ (rF σ 0 29) ≤ (rF σ 0 28) ∧ (rF σ 0 28) ≤ 4001
def post_X14_isWord (σ : rS) (n1 : Nat) (r : Int) : Prop := (r = 0 ∨ r = 1) ∧ (r = 1 → (rF σ 0 29) + (n1 : Int) ≤ (rF σ 0 28) ∨ n1 = 0)
def VC_X14_isWord (σ : rS) (n1 : Nat) (Q : Int → Prop) : Prop := (rng (rF σ 0 29) → (rng (rF σ 0 28) → pre_X14_wordEnd σ 1026 4001 (rF σ 0 28) (rF σ 0 29) ∧ (∀ (x3 : Int), rng x3 → post_X14_wordEnd σ 1026 4001 (rF σ 0 28) (rF σ 0 29) x3 → pre_X14_is σ 1026 4001 (rF σ 0 29) x3 n1 ∧ (∀ (x6 : Int), rng x6 → post_X14_is σ 1026 4001 (rF σ 0 29) x3 n1 x6 → (x6 = 0 ∨ x6 = 1) ∧ Q x6))))
theorem vX14_isWord (σ : rS) (n1 : Nat) (hwf : rWF σ) (hs1 : n1 < 1000) (hp : pre_X14_isWord σ n1) : VC_X14_isWord σ n1 (post_X14_isWord σ n1) := by
  simp only [VC_X14_isWord, pre_X14_isWord, post_X14_isWord, pre_X14_wordEnd, pre_X14_is, post_X14_wordEnd, post_X14_is, rng, rfk, rNM, rF_sF, rF_sA, rF_sL, rF_sR, rA_sA, rA_sF, rA_sL, rA_sR, rR_sF, rR_sA, rR_sL, rR_sR, reduceIte, and_true, true_and, and_false, false_and, and_self] at *
  (repeat' (first | intro _ | apply And.intro))
  all_goals (first | omega | grind (splits := 20))
theorem wX14_isWord (l : Launch) (G : zG) (κ : Nat → Nat) (σ : rS) (t1 n1 : Nat) (hwf : rWF σ) (hs1 : rSt G t1 n1) (Q : Int → Prop) (h : VC_X14_isWord σ n1 Q) : rMi l G κ yX14_isWord cX14_isWord 2 .boolean 5 146 [.ref (κ 0), .ref t1] σ (fun x s => s = σ ∧ Q x) := by
  refine zMi.intro (by decide +kernel) (Nat.le_of_ble_eq_true rfl) (fun X hC hR => ?_)
  refine z_aload_n hC (pc := 0) 0 dX14_isWord_0 rfl rfl ?_
  refine y_get hC (pc := 1) zf14 rOb_0 26 (v := .ref (κ 1026)) dX14_isWord_1 zw2493 (rv_c rfl) (kk := ?_)
  refine z_aload_n hC (pc := 4) 0 dX14_isWord_4 rfl rfl ?_
  refine y_get hC (pc := 5) zf14 rOb_0 29 (v := iv (rF σ 0 29)) dX14_isWord_5 zw2496 (rv_i (Or.inl rfl) rfl) (kk := ?_)
  have h := h (hwf.f _ _)
  refine z_aload_n hC (pc := 8) 0 dX14_isWord_8 rfl rfl ?_
  refine y_get hC (pc := 9) zf14 rOb_0 26 (v := .ref (κ 1026)) dX14_isWord_9 zw2493 (rv_c rfl) (kk := ?_)
  refine z_aload_n hC (pc := 12) 0 dX14_isWord_12 rfl rfl ?_
  refine y_get hC (pc := 13) zf14 rOb_0 28 (v := iv (rF σ 0 28)) dX14_isWord_13 zw2495 (rv_i (Or.inl rfl) rfl) (kk := ?_)
  have h := h (hwf.f _ _)
  refine z_aload_n hC (pc := 16) 0 dX14_isWord_16 rfl rfl ?_
  refine y_get hC (pc := 17) zf14 rOb_0 29 (v := iv (rF σ 0 29)) dX14_isWord_17 zw2496 (rv_i (Or.inl rfl) rfl) (kk := ?_)
  obtain ⟨p1, h⟩ := h
  refine y_callSi hC (pc := 20) (As := [.ref (κ 1026), iv (rF σ 0 28), iv (rF σ 0 29)]) (kX14_wordEnd l G κ σ 1026 4001 (rF σ 0 28) (rF σ 0 29) hwf (rAr_m rfl) (hwf.f _ _) (hwf.f _ _) p1) dmX14_wordEnd dX14_isWord_20 zw3009 rfl rfl (Nat.le_of_ble_eq_true rfl) (Nat.le_of_ble_eq_true rfl) (Nat.le_of_ble_eq_true rfl) (Nat.le_of_ble_eq_true rfl) (Nat.le_of_ble_eq_true rfl) (kk := fun x3 s2 hx3 Ws2 qs2 => ?_)
  obtain ⟨es2, qs2⟩ := qs2
  have es2 := es2.symm
  subst es2
  have h := h x3 hx3 qs2
  refine z_aload_n hC (pc := 23) 1 dX14_isWord_23 rfl rfl ?_
  obtain ⟨p4, h⟩ := h
  refine y_callSi hC (pc := 24) (As := [.ref (κ 1026), iv (rF σ 0 29), iv x3, .ref t1]) (kX14_is l G κ σ 1026 4001 (rF σ 0 29) x3 t1 n1 hwf (rAr_m rfl) (hwf.f _ _) hx3 hs1 p4) dmX14_is dX14_isWord_24 zw3018 rfl rfl (Nat.le_of_ble_eq_true rfl) (Nat.le_of_ble_eq_true rfl) (Nat.le_of_ble_eq_true rfl) (Nat.le_of_ble_eq_true rfl) (Nat.le_of_ble_eq_true rfl) (kk := fun x6 s5 hx6 Ws5 qs5 => ?_)
  obtain ⟨es5, qs5⟩ := qs5
  have es5 := es5.symm
  subst es5
  have h := h x6 hx6 qs5
  obtain ⟨z7, h⟩ := h
  exact y_reti hR dX14_isWord_27 (r_nZ z7) hx6 hwf (Nat.le_of_ble_eq_true rfl) (Nat.le_of_ble_eq_true rfl) ⟨rfl, h⟩
theorem kX14_isWord (l : Launch) (G : zG) (κ : Nat → Nat) (σ : rS) (t1 n1 : Nat) (hwf : rWF σ) (hs1 : rSt G t1 n1) (hp : pre_X14_isWord σ n1) : rMi l G κ yX14_isWord cX14_isWord 2 .boolean 5 146 [.ref (κ 0), .ref t1] σ (fun x s => s = σ ∧ post_X14_isWord σ n1 x) := wX14_isWord l G κ σ t1 n1 hwf hs1 (post_X14_isWord σ n1) (vX14_isWord σ n1 hwf hs1.1 hp) 
def pre_X14_isFileReserved (σ : rS)  : Prop := 0 ≤ (rF σ 0 17) ∧ 0 ≤ (rF σ 0 16) ∧ (rF σ 0 16) ≤ 4000 ∧ rfk (rR σ 15) ∧ (rF σ 0 17) ≤ (rF σ 0 16)
def post_X14_isFileReserved (σ : rS)  (r : Int) : Prop := r = 0 ∨ r = 1
def VC_X14_isFileReserved (σ : rS) (Q : Int → Prop) : Prop := pre_X14_isFileWord σ 10 ∧ (∀ (x3 : Int), rng x3 → post_X14_isFileWord σ 10 x3 → ((¬ x3 = 0 → Q 1) ∧ (x3 = 0 → pre_X14_isFileWord σ 6 ∧ (∀ (x6 : Int), rng x6 → post_X14_isFileWord σ 6 x6 → ((¬ x6 = 0 → Q 1) ∧ (x6 = 0 → pre_X14_isFileWord σ 7 ∧ (∀ (x9 : Int), rng x9 → post_X14_isFileWord σ 7 x9 → ((¬ x9 = 0 → Q 1) ∧ (x9 = 0 → pre_X14_isFileWord σ 3 ∧ (∀ (x12 : Int), rng x12 → post_X14_isFileWord σ 3 x12 → ((¬ x12 = 0 → Q 1) ∧ (x12 = 0 → pre_X14_isFileWord σ 4 ∧ (∀ (x15 : Int), rng x15 → post_X14_isFileWord σ 4 x15 → ((¬ x15 = 0 → Q 1) ∧ (x15 = 0 → pre_X14_isFileWord σ 5 ∧ (∀ (x18 : Int), rng x18 → post_X14_isFileWord σ 5 x18 → ((x18 = 0 → Q 0) ∧ (¬ x18 = 0 → Q 1))))))))))))))))))
theorem vX14_isFileReserved (σ : rS) (hwf : rWF σ) (hp : pre_X14_isFileReserved σ ) : VC_X14_isFileReserved σ (post_X14_isFileReserved σ ) := by
  simp only [VC_X14_isFileReserved, pre_X14_isFileReserved, post_X14_isFileReserved, pre_X14_isFileWord, post_X14_isFileWord, rng, rfk, rNM, rF_sF, rF_sA, rF_sL, rF_sR, rA_sA, rA_sF, rA_sL, rA_sR, rR_sF, rR_sA, rR_sL, rR_sR, reduceIte, and_true, true_and, and_false, false_and, and_self] at *
  (repeat' (first | intro _ | apply And.intro))
  all_goals (first | omega | grind (splits := 20))
theorem wX14_isFileReserved (l : Launch) (G : zG) (κ : Nat → Nat) (σ : rS) (hwf : rWF σ) (Q : Int → Prop) (h : VC_X14_isFileReserved σ Q) : rMi l G κ yX14_isFileReserved cX14_isFileReserved 1 .boolean 6 167 [.ref (κ 0)] σ (fun x s => s = σ ∧ Q x) := by
  refine zMi.intro (by decide +kernel) (Nat.le_of_ble_eq_true rfl) (fun X hC hR => ?_)
  refine z_aload_n hC (pc := 0) 0 dX14_isFileReserved_0 rfl rfl ?_
  refine z_ldcSw hC (pc := 1) dX14_isFileReserved_1 zS_22 ?_
  obtain ⟨p1, h⟩ := h
  refine y_callVi hC (pc := 4) (As := [.ref (G.2.2 45)]) (kX14_isFileWord l G κ σ (G.2.2 45) 10 hwf (rSt_22 G) p1) dmX14_isFileWord zf14 rOb_0 dX14_isFileReserved_4 zw3005 rfl rfl (Nat.le_of_ble_eq_true rfl) (Nat.le_of_ble_eq_true rfl) (Nat.le_of_ble_eq_true rfl) (Nat.le_of_ble_eq_true rfl) (Nat.le_of_ble_eq_true rfl) (kk := fun x3 s2 hx3 Ws2 qs2 => ?_)
  obtain ⟨es2, qs2⟩ := qs2
  have es2 := es2.symm
  subst es2
  have h := h x3 hx3 qs2
  obtain ⟨hT, hF⟩ := h
  refine y_if_ne hC (pc := 7) 60 hx3 dX14_isFileReserved_7 (by decide) (fun c => ?_) (fun c => ?_)
  · have h := hT c
    refine z_iconst hC (pc := 60) (v := Int32.ofInt 1) dX14_isFileReserved_60 (by decide) ?_
    refine z_goto hC (pc := 61) 65 dX14_isFileReserved_61 (by decide) ?_
    exact y_reti hR dX14_isFileReserved_65 rfl (r_lit rfl) hwf (Nat.le_of_ble_eq_true rfl) (Nat.le_of_ble_eq_true rfl) ⟨rfl, h⟩
  · have h := hF c
    refine z_aload_n hC (pc := 10) 0 dX14_isFileReserved_10 rfl rfl ?_
    refine z_ldcSw hC (pc := 11) dX14_isFileReserved_11 zS_23 ?_
    obtain ⟨p4, h⟩ := h
    refine y_callVi hC (pc := 14) (As := [.ref (G.2.2 47)]) (kX14_isFileWord l G κ σ (G.2.2 47) 6 hwf (rSt_23 G) p4) dmX14_isFileWord zf14 rOb_0 dX14_isFileReserved_14 zw3005 rfl rfl (Nat.le_of_ble_eq_true rfl) (Nat.le_of_ble_eq_true rfl) (Nat.le_of_ble_eq_true rfl) (Nat.le_of_ble_eq_true rfl) (Nat.le_of_ble_eq_true rfl) (kk := fun x6 s5 hx6 Ws5 qs5 => ?_)
    obtain ⟨es5, qs5⟩ := qs5
    have es5 := es5.symm
    subst es5
    have h := h x6 hx6 qs5
    obtain ⟨hT, hF⟩ := h
    refine y_if_ne hC (pc := 17) 60 hx6 dX14_isFileReserved_17 (by decide) (fun c => ?_) (fun c => ?_)
    · have h := hT c
      refine z_iconst hC (pc := 60) (v := Int32.ofInt 1) dX14_isFileReserved_60 (by decide) ?_
      refine z_goto hC (pc := 61) 65 dX14_isFileReserved_61 (by decide) ?_
      exact y_reti hR dX14_isFileReserved_65 rfl (r_lit rfl) hwf (Nat.le_of_ble_eq_true rfl) (Nat.le_of_ble_eq_true rfl) ⟨rfl, h⟩
    · have h := hF c
      refine z_aload_n hC (pc := 20) 0 dX14_isFileReserved_20 rfl rfl ?_
      refine z_ldcSw hC (pc := 21) dX14_isFileReserved_21 zS_24 ?_
      obtain ⟨p7, h⟩ := h
      refine y_callVi hC (pc := 24) (As := [.ref (G.2.2 49)]) (kX14_isFileWord l G κ σ (G.2.2 49) 7 hwf (rSt_24 G) p7) dmX14_isFileWord zf14 rOb_0 dX14_isFileReserved_24 zw3005 rfl rfl (Nat.le_of_ble_eq_true rfl) (Nat.le_of_ble_eq_true rfl) (Nat.le_of_ble_eq_true rfl) (Nat.le_of_ble_eq_true rfl) (Nat.le_of_ble_eq_true rfl) (kk := fun x9 s8 hx9 Ws8 qs8 => ?_)
      obtain ⟨es8, qs8⟩ := qs8
      have es8 := es8.symm
      subst es8
      have h := h x9 hx9 qs8
      obtain ⟨hT, hF⟩ := h
      refine y_if_ne hC (pc := 27) 60 hx9 dX14_isFileReserved_27 (by decide) (fun c => ?_) (fun c => ?_)
      · have h := hT c
        refine z_iconst hC (pc := 60) (v := Int32.ofInt 1) dX14_isFileReserved_60 (by decide) ?_
        refine z_goto hC (pc := 61) 65 dX14_isFileReserved_61 (by decide) ?_
        exact y_reti hR dX14_isFileReserved_65 rfl (r_lit rfl) hwf (Nat.le_of_ble_eq_true rfl) (Nat.le_of_ble_eq_true rfl) ⟨rfl, h⟩
      · have h := hF c
        refine z_aload_n hC (pc := 30) 0 dX14_isFileReserved_30 rfl rfl ?_
        refine z_ldcSw hC (pc := 31) dX14_isFileReserved_31 zS_25 ?_
        obtain ⟨p10, h⟩ := h
        refine y_callVi hC (pc := 34) (As := [.ref (G.2.2 51)]) (kX14_isFileWord l G κ σ (G.2.2 51) 3 hwf (rSt_25 G) p10) dmX14_isFileWord zf14 rOb_0 dX14_isFileReserved_34 zw3005 rfl rfl (Nat.le_of_ble_eq_true rfl) (Nat.le_of_ble_eq_true rfl) (Nat.le_of_ble_eq_true rfl) (Nat.le_of_ble_eq_true rfl) (Nat.le_of_ble_eq_true rfl) (kk := fun x12 s11 hx12 Ws11 qs11 => ?_)
        obtain ⟨es11, qs11⟩ := qs11
        have es11 := es11.symm
        subst es11
        have h := h x12 hx12 qs11
        obtain ⟨hT, hF⟩ := h
        refine y_if_ne hC (pc := 37) 60 hx12 dX14_isFileReserved_37 (by decide) (fun c => ?_) (fun c => ?_)
        · have h := hT c
          refine z_iconst hC (pc := 60) (v := Int32.ofInt 1) dX14_isFileReserved_60 (by decide) ?_
          refine z_goto hC (pc := 61) 65 dX14_isFileReserved_61 (by decide) ?_
          exact y_reti hR dX14_isFileReserved_65 rfl (r_lit rfl) hwf (Nat.le_of_ble_eq_true rfl) (Nat.le_of_ble_eq_true rfl) ⟨rfl, h⟩
        · have h := hF c
          refine z_aload_n hC (pc := 40) 0 dX14_isFileReserved_40 rfl rfl ?_
          refine z_ldcSw hC (pc := 41) dX14_isFileReserved_41 zS_26 ?_
          obtain ⟨p13, h⟩ := h
          refine y_callVi hC (pc := 44) (As := [.ref (G.2.2 53)]) (kX14_isFileWord l G κ σ (G.2.2 53) 4 hwf (rSt_26 G) p13) dmX14_isFileWord zf14 rOb_0 dX14_isFileReserved_44 zw3005 rfl rfl (Nat.le_of_ble_eq_true rfl) (Nat.le_of_ble_eq_true rfl) (Nat.le_of_ble_eq_true rfl) (Nat.le_of_ble_eq_true rfl) (Nat.le_of_ble_eq_true rfl) (kk := fun x15 s14 hx15 Ws14 qs14 => ?_)
          obtain ⟨es14, qs14⟩ := qs14
          have es14 := es14.symm
          subst es14
          have h := h x15 hx15 qs14
          obtain ⟨hT, hF⟩ := h
          refine y_if_ne hC (pc := 47) 60 hx15 dX14_isFileReserved_47 (by decide) (fun c => ?_) (fun c => ?_)
          · have h := hT c
            refine z_iconst hC (pc := 60) (v := Int32.ofInt 1) dX14_isFileReserved_60 (by decide) ?_
            refine z_goto hC (pc := 61) 65 dX14_isFileReserved_61 (by decide) ?_
            exact y_reti hR dX14_isFileReserved_65 rfl (r_lit rfl) hwf (Nat.le_of_ble_eq_true rfl) (Nat.le_of_ble_eq_true rfl) ⟨rfl, h⟩
          · have h := hF c
            refine z_aload_n hC (pc := 50) 0 dX14_isFileReserved_50 rfl rfl ?_
            refine z_ldcSw hC (pc := 51) dX14_isFileReserved_51 zS_27 ?_
            obtain ⟨p16, h⟩ := h
            refine y_callVi hC (pc := 54) (As := [.ref (G.2.2 55)]) (kX14_isFileWord l G κ σ (G.2.2 55) 5 hwf (rSt_27 G) p16) dmX14_isFileWord zf14 rOb_0 dX14_isFileReserved_54 zw3005 rfl rfl (Nat.le_of_ble_eq_true rfl) (Nat.le_of_ble_eq_true rfl) (Nat.le_of_ble_eq_true rfl) (Nat.le_of_ble_eq_true rfl) (Nat.le_of_ble_eq_true rfl) (kk := fun x18 s17 hx18 Ws17 qs17 => ?_)
            obtain ⟨es17, qs17⟩ := qs17
            have es17 := es17.symm
            subst es17
            have h := h x18 hx18 qs17
            obtain ⟨hT, hF⟩ := h
            refine y_if_eq hC (pc := 57) 64 hx18 dX14_isFileReserved_57 (by decide) (fun c => ?_) (fun c => ?_)
            · have h := hT c
              refine z_iconst hC (pc := 64) (v := Int32.ofInt 0) dX14_isFileReserved_64 (by decide) ?_
              exact y_reti hR dX14_isFileReserved_65 rfl (r_lit rfl) hwf (Nat.le_of_ble_eq_true rfl) (Nat.le_of_ble_eq_true rfl) ⟨rfl, h⟩
            · have h := hF c
              refine z_iconst hC (pc := 60) (v := Int32.ofInt 1) dX14_isFileReserved_60 (by decide) ?_
              refine z_goto hC (pc := 61) 65 dX14_isFileReserved_61 (by decide) ?_
              exact y_reti hR dX14_isFileReserved_65 rfl (r_lit rfl) hwf (Nat.le_of_ble_eq_true rfl) (Nat.le_of_ble_eq_true rfl) ⟨rfl, h⟩
theorem kX14_isFileReserved (l : Launch) (G : zG) (κ : Nat → Nat) (σ : rS) (hwf : rWF σ) (hp : pre_X14_isFileReserved σ ) : rMi l G κ yX14_isFileReserved cX14_isFileReserved 1 .boolean 6 167 [.ref (κ 0)] σ (fun x s => s = σ ∧ post_X14_isFileReserved σ x) := wX14_isFileReserved l G κ σ hwf (post_X14_isFileReserved σ ) (vX14_isFileReserved σ hwf hp) 
def pre_X14_function (σ : rS)  : Prop := 0 ≤ (rF σ 0 29) ∧ (rF σ 0 29) ≤ (rF σ 0 28) ∧ (rF σ 0 28) ≤ 4001
def post_X14_function (σ : rS)  (r : Int) : Prop := -1 ≤ r ∧ r ≤ 8 ∧ (0 ≤ r → (rF σ 0 29) < (rF σ 0 28))
def VC_X14_function (σ : rS) (Q : Int → Prop) : Prop := pre_X14_isWord σ 5 ∧ (∀ (x3 : Int), rng x3 → post_X14_isWord σ 5 x3 → ((x3 = 0 → pre_X14_isWord σ 4 ∧ (∀ (x6 : Int), rng x6 → post_X14_isWord σ 4 x6 → ((x6 = 0 → pre_X14_isWord σ 4 ∧ (∀ (x9 : Int), rng x9 → post_X14_isWord σ 4 x9 → ((x9 = 0 → pre_X14_isWord σ 5 ∧ (∀ (x12 : Int), rng x12 → post_X14_isWord σ 5 x12 → ((x12 = 0 → pre_X14_isWord σ 5 ∧ (∀ (x15 : Int), rng x15 → post_X14_isWord σ 5 x15 → ((x15 = 0 → pre_X14_isWord σ 7 ∧ (∀ (x18 : Int), rng x18 → post_X14_isWord σ 7 x18 → ((x18 = 0 → pre_X14_isWord σ 6 ∧ (∀ (x21 : Int), rng x21 → post_X14_isWord σ 6 x21 → ((x21 = 0 → pre_X14_isWord σ 6 ∧ (∀ (x24 : Int), rng x24 → post_X14_isWord σ 6 x24 → ((x24 = 0 → pre_X14_isWord σ 4 ∧ (∀ (x27 : Int), rng x27 → post_X14_isWord σ 4 x27 → ((x27 = 0 → Q (-1)) ∧ (¬ x27 = 0 → Q 8)))) ∧ (¬ x24 = 0 → Q 7)))) ∧ (¬ x21 = 0 → Q 6)))) ∧ (¬ x18 = 0 → Q 5)))) ∧ (¬ x15 = 0 → Q 4)))) ∧ (¬ x12 = 0 → Q 3)))) ∧ (¬ x9 = 0 → Q 2)))) ∧ (¬ x6 = 0 → Q 1)))) ∧ (¬ x3 = 0 → Q 0)))
theorem vX14_function (σ : rS) (hwf : rWF σ) (hp : pre_X14_function σ ) : VC_X14_function σ (post_X14_function σ ) := by
  simp only [VC_X14_function, pre_X14_function, post_X14_function, pre_X14_isWord, post_X14_isWord, rng, rfk, rNM, rF_sF, rF_sA, rF_sL, rF_sR, rA_sA, rA_sF, rA_sL, rA_sR, rR_sF, rR_sA, rR_sL, rR_sR, reduceIte, and_true, true_and, and_false, false_and, and_self] at *
  (repeat' (first | intro _ | apply And.intro))
  all_goals (first | omega | grind (splits := 20))
theorem wX14_function (l : Launch) (G : zG) (κ : Nat → Nat) (σ : rS) (hwf : rWF σ) (Q : Int → Prop) (h : VC_X14_function σ Q) : rMi l G κ yX14_function cX14_function 1 .int 6 167 [.ref (κ 0)] σ (fun x s => s = σ ∧ Q x) := by
  refine zMi.intro (by decide +kernel) (Nat.le_of_ble_eq_true rfl) (fun X hC hR => ?_)
  refine z_aload_n hC (pc := 0) 0 dX14_function_0 rfl rfl ?_
  refine z_ldcSw hC (pc := 1) dX14_function_1 zS_37 ?_
  obtain ⟨p1, h⟩ := h
  refine y_callVi hC (pc := 4) (As := [.ref (G.2.2 75)]) (kX14_isWord l G κ σ (G.2.2 75) 5 hwf (rSt_37 G) p1) dmX14_isWord zf14 rOb_0 dX14_function_4 zw3128 rfl rfl (Nat.le_of_ble_eq_true rfl) (Nat.le_of_ble_eq_true rfl) (Nat.le_of_ble_eq_true rfl) (Nat.le_of_ble_eq_true rfl) (Nat.le_of_ble_eq_true rfl) (kk := fun x3 s2 hx3 Ws2 qs2 => ?_)
  obtain ⟨es2, qs2⟩ := qs2
  have es2 := es2.symm
  subst es2
  have h := h x3 hx3 qs2
  obtain ⟨hT, hF⟩ := h
  refine y_if_eq hC (pc := 7) 14 hx3 dX14_function_7 (by decide) (fun c => ?_) (fun c => ?_)
  · have h := hT c
    refine z_aload_n hC (pc := 14) 0 dX14_function_14 rfl rfl ?_
    refine z_ldcSw hC (pc := 15) dX14_function_15 zS_38 ?_
    obtain ⟨p4, h⟩ := h
    refine y_callVi hC (pc := 18) (As := [.ref (G.2.2 77)]) (kX14_isWord l G κ σ (G.2.2 77) 4 hwf (rSt_38 G) p4) dmX14_isWord zf14 rOb_0 dX14_function_18 zw3128 rfl rfl (Nat.le_of_ble_eq_true rfl) (Nat.le_of_ble_eq_true rfl) (Nat.le_of_ble_eq_true rfl) (Nat.le_of_ble_eq_true rfl) (Nat.le_of_ble_eq_true rfl) (kk := fun x6 s5 hx6 Ws5 qs5 => ?_)
    obtain ⟨es5, qs5⟩ := qs5
    have es5 := es5.symm
    subst es5
    have h := h x6 hx6 qs5
    obtain ⟨hT, hF⟩ := h
    refine y_if_eq hC (pc := 21) 28 hx6 dX14_function_21 (by decide) (fun c => ?_) (fun c => ?_)
    · have h := hT c
      refine z_aload_n hC (pc := 28) 0 dX14_function_28 rfl rfl ?_
      refine z_ldcSw hC (pc := 29) dX14_function_29 zS_39 ?_
      obtain ⟨p7, h⟩ := h
      refine y_callVi hC (pc := 32) (As := [.ref (G.2.2 79)]) (kX14_isWord l G κ σ (G.2.2 79) 4 hwf (rSt_39 G) p7) dmX14_isWord zf14 rOb_0 dX14_function_32 zw3128 rfl rfl (Nat.le_of_ble_eq_true rfl) (Nat.le_of_ble_eq_true rfl) (Nat.le_of_ble_eq_true rfl) (Nat.le_of_ble_eq_true rfl) (Nat.le_of_ble_eq_true rfl) (kk := fun x9 s8 hx9 Ws8 qs8 => ?_)
      obtain ⟨es8, qs8⟩ := qs8
      have es8 := es8.symm
      subst es8
      have h := h x9 hx9 qs8
      obtain ⟨hT, hF⟩ := h
      refine y_if_eq hC (pc := 35) 42 hx9 dX14_function_35 (by decide) (fun c => ?_) (fun c => ?_)
      · have h := hT c
        refine z_aload_n hC (pc := 42) 0 dX14_function_42 rfl rfl ?_
        refine z_ldcSw hC (pc := 43) dX14_function_43 zS_40 ?_
        obtain ⟨p10, h⟩ := h
        refine y_callVi hC (pc := 46) (As := [.ref (G.2.2 81)]) (kX14_isWord l G κ σ (G.2.2 81) 5 hwf (rSt_40 G) p10) dmX14_isWord zf14 rOb_0 dX14_function_46 zw3128 rfl rfl (Nat.le_of_ble_eq_true rfl) (Nat.le_of_ble_eq_true rfl) (Nat.le_of_ble_eq_true rfl) (Nat.le_of_ble_eq_true rfl) (Nat.le_of_ble_eq_true rfl) (kk := fun x12 s11 hx12 Ws11 qs11 => ?_)
        obtain ⟨es11, qs11⟩ := qs11
        have es11 := es11.symm
        subst es11
        have h := h x12 hx12 qs11
        obtain ⟨hT, hF⟩ := h
        refine y_if_eq hC (pc := 49) 56 hx12 dX14_function_49 (by decide) (fun c => ?_) (fun c => ?_)
        · have h := hT c
          refine z_aload_n hC (pc := 56) 0 dX14_function_56 rfl rfl ?_
          refine z_ldcSw hC (pc := 57) dX14_function_57 zS_41 ?_
          obtain ⟨p13, h⟩ := h
          refine y_callVi hC (pc := 60) (As := [.ref (G.2.2 83)]) (kX14_isWord l G κ σ (G.2.2 83) 5 hwf (rSt_41 G) p13) dmX14_isWord zf14 rOb_0 dX14_function_60 zw3128 rfl rfl (Nat.le_of_ble_eq_true rfl) (Nat.le_of_ble_eq_true rfl) (Nat.le_of_ble_eq_true rfl) (Nat.le_of_ble_eq_true rfl) (Nat.le_of_ble_eq_true rfl) (kk := fun x15 s14 hx15 Ws14 qs14 => ?_)
          obtain ⟨es14, qs14⟩ := qs14
          have es14 := es14.symm
          subst es14
          have h := h x15 hx15 qs14
          obtain ⟨hT, hF⟩ := h
          refine y_if_eq hC (pc := 63) 70 hx15 dX14_function_63 (by decide) (fun c => ?_) (fun c => ?_)
          · have h := hT c
            refine z_aload_n hC (pc := 70) 0 dX14_function_70 rfl rfl ?_
            refine z_ldcSw hC (pc := 71) dX14_function_71 zS_42 ?_
            obtain ⟨p16, h⟩ := h
            refine y_callVi hC (pc := 74) (As := [.ref (G.2.2 85)]) (kX14_isWord l G κ σ (G.2.2 85) 7 hwf (rSt_42 G) p16) dmX14_isWord zf14 rOb_0 dX14_function_74 zw3128 rfl rfl (Nat.le_of_ble_eq_true rfl) (Nat.le_of_ble_eq_true rfl) (Nat.le_of_ble_eq_true rfl) (Nat.le_of_ble_eq_true rfl) (Nat.le_of_ble_eq_true rfl) (kk := fun x18 s17 hx18 Ws17 qs17 => ?_)
            obtain ⟨es17, qs17⟩ := qs17
            have es17 := es17.symm
            subst es17
            have h := h x18 hx18 qs17
            obtain ⟨hT, hF⟩ := h
            refine y_if_eq hC (pc := 77) 84 hx18 dX14_function_77 (by decide) (fun c => ?_) (fun c => ?_)
            · have h := hT c
              refine z_aload_n hC (pc := 84) 0 dX14_function_84 rfl rfl ?_
              refine z_ldcSw hC (pc := 85) dX14_function_85 zS_43 ?_
              obtain ⟨p19, h⟩ := h
              refine y_callVi hC (pc := 88) (As := [.ref (G.2.2 87)]) (kX14_isWord l G κ σ (G.2.2 87) 6 hwf (rSt_43 G) p19) dmX14_isWord zf14 rOb_0 dX14_function_88 zw3128 rfl rfl (Nat.le_of_ble_eq_true rfl) (Nat.le_of_ble_eq_true rfl) (Nat.le_of_ble_eq_true rfl) (Nat.le_of_ble_eq_true rfl) (Nat.le_of_ble_eq_true rfl) (kk := fun x21 s20 hx21 Ws20 qs20 => ?_)
              obtain ⟨es20, qs20⟩ := qs20
              have es20 := es20.symm
              subst es20
              have h := h x21 hx21 qs20
              obtain ⟨hT, hF⟩ := h
              refine y_if_eq hC (pc := 91) 99 hx21 dX14_function_91 (by decide) (fun c => ?_) (fun c => ?_)
              · have h := hT c
                refine z_aload_n hC (pc := 99) 0 dX14_function_99 rfl rfl ?_
                refine z_ldcSw hC (pc := 100) dX14_function_100 zS_44 ?_
                obtain ⟨p22, h⟩ := h
                refine y_callVi hC (pc := 103) (As := [.ref (G.2.2 89)]) (kX14_isWord l G κ σ (G.2.2 89) 6 hwf (rSt_44 G) p22) dmX14_isWord zf14 rOb_0 dX14_function_103 zw3128 rfl rfl (Nat.le_of_ble_eq_true rfl) (Nat.le_of_ble_eq_true rfl) (Nat.le_of_ble_eq_true rfl) (Nat.le_of_ble_eq_true rfl) (Nat.le_of_ble_eq_true rfl) (kk := fun x24 s23 hx24 Ws23 qs23 => ?_)
                obtain ⟨es23, qs23⟩ := qs23
                have es23 := es23.symm
                subst es23
                have h := h x24 hx24 qs23
                obtain ⟨hT, hF⟩ := h
                refine y_if_eq hC (pc := 106) 114 hx24 dX14_function_106 (by decide) (fun c => ?_) (fun c => ?_)
                · have h := hT c
                  refine z_aload_n hC (pc := 114) 0 dX14_function_114 rfl rfl ?_
                  refine z_ldcSw hC (pc := 115) dX14_function_115 zS_45 ?_
                  obtain ⟨p25, h⟩ := h
                  refine y_callVi hC (pc := 118) (As := [.ref (G.2.2 91)]) (kX14_isWord l G κ σ (G.2.2 91) 4 hwf (rSt_45 G) p25) dmX14_isWord zf14 rOb_0 dX14_function_118 zw3128 rfl rfl (Nat.le_of_ble_eq_true rfl) (Nat.le_of_ble_eq_true rfl) (Nat.le_of_ble_eq_true rfl) (Nat.le_of_ble_eq_true rfl) (Nat.le_of_ble_eq_true rfl) (kk := fun x27 s26 hx27 Ws26 qs26 => ?_)
                  obtain ⟨es26, qs26⟩ := qs26
                  have es26 := es26.symm
                  subst es26
                  have h := h x27 hx27 qs26
                  obtain ⟨hT, hF⟩ := h
                  refine y_if_eq hC (pc := 121) 129 hx27 dX14_function_121 (by decide) (fun c => ?_) (fun c => ?_)
                  · have h := hT c
                    refine z_iconst hC (pc := 129) (v := Int32.ofInt (-1)) dX14_function_129 (by decide) ?_
                    exact y_reti hR dX14_function_130 rfl (r_lit rfl) hwf (Nat.le_of_ble_eq_true rfl) (Nat.le_of_ble_eq_true rfl) ⟨rfl, h⟩
                  · have h := hF c
                    refine z_bipush hC (pc := 124) (v := Int32.ofInt 8) dX14_function_124 (by decide) ?_
                    refine z_goto hC (pc := 126) 130 dX14_function_126 (by decide) ?_
                    exact y_reti hR dX14_function_130 rfl (r_lit rfl) hwf (Nat.le_of_ble_eq_true rfl) (Nat.le_of_ble_eq_true rfl) ⟨rfl, h⟩
                · have h := hF c
                  refine z_bipush hC (pc := 109) (v := Int32.ofInt 7) dX14_function_109 (by decide) ?_
                  refine z_goto hC (pc := 111) 130 dX14_function_111 (by decide) ?_
                  exact y_reti hR dX14_function_130 rfl (r_lit rfl) hwf (Nat.le_of_ble_eq_true rfl) (Nat.le_of_ble_eq_true rfl) ⟨rfl, h⟩
              · have h := hF c
                refine z_bipush hC (pc := 94) (v := Int32.ofInt 6) dX14_function_94 (by decide) ?_
                refine z_goto hC (pc := 96) 130 dX14_function_96 (by decide) ?_
                exact y_reti hR dX14_function_130 rfl (r_lit rfl) hwf (Nat.le_of_ble_eq_true rfl) (Nat.le_of_ble_eq_true rfl) ⟨rfl, h⟩
            · have h := hF c
              refine z_iconst hC (pc := 80) (v := Int32.ofInt 5) dX14_function_80 (by decide) ?_
              refine z_goto hC (pc := 81) 130 dX14_function_81 (by decide) ?_
              exact y_reti hR dX14_function_130 rfl (r_lit rfl) hwf (Nat.le_of_ble_eq_true rfl) (Nat.le_of_ble_eq_true rfl) ⟨rfl, h⟩
          · have h := hF c
            refine z_iconst hC (pc := 66) (v := Int32.ofInt 4) dX14_function_66 (by decide) ?_
            refine z_goto hC (pc := 67) 130 dX14_function_67 (by decide) ?_
            exact y_reti hR dX14_function_130 rfl (r_lit rfl) hwf (Nat.le_of_ble_eq_true rfl) (Nat.le_of_ble_eq_true rfl) ⟨rfl, h⟩
        · have h := hF c
          refine z_iconst hC (pc := 52) (v := Int32.ofInt 3) dX14_function_52 (by decide) ?_
          refine z_goto hC (pc := 53) 130 dX14_function_53 (by decide) ?_
          exact y_reti hR dX14_function_130 rfl (r_lit rfl) hwf (Nat.le_of_ble_eq_true rfl) (Nat.le_of_ble_eq_true rfl) ⟨rfl, h⟩
      · have h := hF c
        refine z_iconst hC (pc := 38) (v := Int32.ofInt 2) dX14_function_38 (by decide) ?_
        refine z_goto hC (pc := 39) 130 dX14_function_39 (by decide) ?_
        exact y_reti hR dX14_function_130 rfl (r_lit rfl) hwf (Nat.le_of_ble_eq_true rfl) (Nat.le_of_ble_eq_true rfl) ⟨rfl, h⟩
    · have h := hF c
      refine z_iconst hC (pc := 24) (v := Int32.ofInt 1) dX14_function_24 (by decide) ?_
      refine z_goto hC (pc := 25) 130 dX14_function_25 (by decide) ?_
      exact y_reti hR dX14_function_130 rfl (r_lit rfl) hwf (Nat.le_of_ble_eq_true rfl) (Nat.le_of_ble_eq_true rfl) ⟨rfl, h⟩
  · have h := hF c
    refine z_iconst hC (pc := 10) (v := Int32.ofInt 0) dX14_function_10 (by decide) ?_
    refine z_goto hC (pc := 11) 130 dX14_function_11 (by decide) ?_
    exact y_reti hR dX14_function_130 rfl (r_lit rfl) hwf (Nat.le_of_ble_eq_true rfl) (Nat.le_of_ble_eq_true rfl) ⟨rfl, h⟩
theorem kX14_function (l : Launch) (G : zG) (κ : Nat → Nat) (σ : rS) (hwf : rWF σ) (hp : pre_X14_function σ ) : rMi l G κ yX14_function cX14_function 1 .int 6 167 [.ref (κ 0)] σ (fun x s => s = σ ∧ post_X14_function σ x) := wX14_function l G κ σ hwf (post_X14_function σ ) (vX14_function σ hwf hp) 
def pre_X14_isSteering (σ : rS)  : Prop := 0 ≤ (rF σ 0 29) ∧ (rF σ 0 29) ≤ (rF σ 0 28) ∧ (rF σ 0 28) ≤ 4001
def post_X14_isSteering (σ : rS)  (r : Int) : Prop := (r = 0 ∨ r = 1)
def VC_X14_isSteering (σ : rS) (Q : Int → Prop) : Prop := pre_X14_isWord σ 2 ∧ (∀ (x3 : Int), rng x3 → post_X14_isWord σ 2 x3 → ((¬ x3 = 0 → Q 1) ∧ (x3 = 0 → pre_X14_isWord σ 6 ∧ (∀ (x6 : Int), rng x6 → post_X14_isWord σ 6 x6 → ((¬ x6 = 0 → Q 1) ∧ (x6 = 0 → pre_X14_isWord σ 4 ∧ (∀ (x9 : Int), rng x9 → post_X14_isWord σ 4 x9 → ((¬ x9 = 0 → Q 1) ∧ (x9 = 0 → pre_X14_isWord σ 5 ∧ (∀ (x12 : Int), rng x12 → post_X14_isWord σ 5 x12 → ((x12 = 0 → Q 0) ∧ (¬ x12 = 0 → Q 1))))))))))))
theorem vX14_isSteering (σ : rS) (hwf : rWF σ) (hp : pre_X14_isSteering σ ) : VC_X14_isSteering σ (post_X14_isSteering σ ) := by
  simp only [VC_X14_isSteering, pre_X14_isSteering, post_X14_isSteering, pre_X14_isWord, post_X14_isWord, rng, rfk, rNM, rF_sF, rF_sA, rF_sL, rF_sR, rA_sA, rA_sF, rA_sL, rA_sR, rR_sF, rR_sA, rR_sL, rR_sR, reduceIte, and_true, true_and, and_false, false_and, and_self] at *
  (repeat' (first | intro _ | apply And.intro))
  all_goals (first | omega | grind (splits := 20))
theorem wX14_isSteering (l : Launch) (G : zG) (κ : Nat → Nat) (σ : rS) (hwf : rWF σ) (Q : Int → Prop) (h : VC_X14_isSteering σ Q) : rMi l G κ yX14_isSteering cX14_isSteering 1 .boolean 6 167 [.ref (κ 0)] σ (fun x s => s = σ ∧ Q x) := by
  refine zMi.intro (by decide +kernel) (Nat.le_of_ble_eq_true rfl) (fun X hC hR => ?_)
  refine z_aload_n hC (pc := 0) 0 dX14_isSteering_0 rfl rfl ?_
  refine z_ldcSw hC (pc := 1) dX14_isSteering_1 zS_46 ?_
  obtain ⟨p1, h⟩ := h
  refine y_callVi hC (pc := 4) (As := [.ref (G.2.2 93)]) (kX14_isWord l G κ σ (G.2.2 93) 2 hwf (rSt_46 G) p1) dmX14_isWord zf14 rOb_0 dX14_isSteering_4 zw3128 rfl rfl (Nat.le_of_ble_eq_true rfl) (Nat.le_of_ble_eq_true rfl) (Nat.le_of_ble_eq_true rfl) (Nat.le_of_ble_eq_true rfl) (Nat.le_of_ble_eq_true rfl) (kk := fun x3 s2 hx3 Ws2 qs2 => ?_)
  obtain ⟨es2, qs2⟩ := qs2
  have es2 := es2.symm
  subst es2
  have h := h x3 hx3 qs2
  obtain ⟨hT, hF⟩ := h
  refine y_if_ne hC (pc := 7) 40 hx3 dX14_isSteering_7 (by decide) (fun c => ?_) (fun c => ?_)
  · have h := hT c
    refine z_iconst hC (pc := 40) (v := Int32.ofInt 1) dX14_isSteering_40 (by decide) ?_
    refine z_goto hC (pc := 41) 45 dX14_isSteering_41 (by decide) ?_
    exact y_reti hR dX14_isSteering_45 rfl (r_lit rfl) hwf (Nat.le_of_ble_eq_true rfl) (Nat.le_of_ble_eq_true rfl) ⟨rfl, h⟩
  · have h := hF c
    refine z_aload_n hC (pc := 10) 0 dX14_isSteering_10 rfl rfl ?_
    refine z_ldcSw hC (pc := 11) dX14_isSteering_11 zS_47 ?_
    obtain ⟨p4, h⟩ := h
    refine y_callVi hC (pc := 14) (As := [.ref (G.2.2 95)]) (kX14_isWord l G κ σ (G.2.2 95) 6 hwf (rSt_47 G) p4) dmX14_isWord zf14 rOb_0 dX14_isSteering_14 zw3128 rfl rfl (Nat.le_of_ble_eq_true rfl) (Nat.le_of_ble_eq_true rfl) (Nat.le_of_ble_eq_true rfl) (Nat.le_of_ble_eq_true rfl) (Nat.le_of_ble_eq_true rfl) (kk := fun x6 s5 hx6 Ws5 qs5 => ?_)
    obtain ⟨es5, qs5⟩ := qs5
    have es5 := es5.symm
    subst es5
    have h := h x6 hx6 qs5
    obtain ⟨hT, hF⟩ := h
    refine y_if_ne hC (pc := 17) 40 hx6 dX14_isSteering_17 (by decide) (fun c => ?_) (fun c => ?_)
    · have h := hT c
      refine z_iconst hC (pc := 40) (v := Int32.ofInt 1) dX14_isSteering_40 (by decide) ?_
      refine z_goto hC (pc := 41) 45 dX14_isSteering_41 (by decide) ?_
      exact y_reti hR dX14_isSteering_45 rfl (r_lit rfl) hwf (Nat.le_of_ble_eq_true rfl) (Nat.le_of_ble_eq_true rfl) ⟨rfl, h⟩
    · have h := hF c
      refine z_aload_n hC (pc := 20) 0 dX14_isSteering_20 rfl rfl ?_
      refine z_ldcSw hC (pc := 21) dX14_isSteering_21 zS_48 ?_
      obtain ⟨p7, h⟩ := h
      refine y_callVi hC (pc := 24) (As := [.ref (G.2.2 97)]) (kX14_isWord l G κ σ (G.2.2 97) 4 hwf (rSt_48 G) p7) dmX14_isWord zf14 rOb_0 dX14_isSteering_24 zw3128 rfl rfl (Nat.le_of_ble_eq_true rfl) (Nat.le_of_ble_eq_true rfl) (Nat.le_of_ble_eq_true rfl) (Nat.le_of_ble_eq_true rfl) (Nat.le_of_ble_eq_true rfl) (kk := fun x9 s8 hx9 Ws8 qs8 => ?_)
      obtain ⟨es8, qs8⟩ := qs8
      have es8 := es8.symm
      subst es8
      have h := h x9 hx9 qs8
      obtain ⟨hT, hF⟩ := h
      refine y_if_ne hC (pc := 27) 40 hx9 dX14_isSteering_27 (by decide) (fun c => ?_) (fun c => ?_)
      · have h := hT c
        refine z_iconst hC (pc := 40) (v := Int32.ofInt 1) dX14_isSteering_40 (by decide) ?_
        refine z_goto hC (pc := 41) 45 dX14_isSteering_41 (by decide) ?_
        exact y_reti hR dX14_isSteering_45 rfl (r_lit rfl) hwf (Nat.le_of_ble_eq_true rfl) (Nat.le_of_ble_eq_true rfl) ⟨rfl, h⟩
      · have h := hF c
        refine z_aload_n hC (pc := 30) 0 dX14_isSteering_30 rfl rfl ?_
        refine z_ldcSw hC (pc := 31) dX14_isSteering_31 zS_49 ?_
        obtain ⟨p10, h⟩ := h
        refine y_callVi hC (pc := 34) (As := [.ref (G.2.2 99)]) (kX14_isWord l G κ σ (G.2.2 99) 5 hwf (rSt_49 G) p10) dmX14_isWord zf14 rOb_0 dX14_isSteering_34 zw3128 rfl rfl (Nat.le_of_ble_eq_true rfl) (Nat.le_of_ble_eq_true rfl) (Nat.le_of_ble_eq_true rfl) (Nat.le_of_ble_eq_true rfl) (Nat.le_of_ble_eq_true rfl) (kk := fun x12 s11 hx12 Ws11 qs11 => ?_)
        obtain ⟨es11, qs11⟩ := qs11
        have es11 := es11.symm
        subst es11
        have h := h x12 hx12 qs11
        obtain ⟨hT, hF⟩ := h
        refine y_if_eq hC (pc := 37) 44 hx12 dX14_isSteering_37 (by decide) (fun c => ?_) (fun c => ?_)
        · have h := hT c
          refine z_iconst hC (pc := 44) (v := Int32.ofInt 0) dX14_isSteering_44 (by decide) ?_
          exact y_reti hR dX14_isSteering_45 rfl (r_lit rfl) hwf (Nat.le_of_ble_eq_true rfl) (Nat.le_of_ble_eq_true rfl) ⟨rfl, h⟩
        · have h := hF c
          refine z_iconst hC (pc := 40) (v := Int32.ofInt 1) dX14_isSteering_40 (by decide) ?_
          refine z_goto hC (pc := 41) 45 dX14_isSteering_41 (by decide) ?_
          exact y_reti hR dX14_isSteering_45 rfl (r_lit rfl) hwf (Nat.le_of_ble_eq_true rfl) (Nat.le_of_ble_eq_true rfl) ⟨rfl, h⟩
theorem kX14_isSteering (l : Launch) (G : zG) (κ : Nat → Nat) (σ : rS) (hwf : rWF σ) (hp : pre_X14_isSteering σ ) : rMi l G κ yX14_isSteering cX14_isSteering 1 .boolean 6 167 [.ref (κ 0)] σ (fun x s => s = σ ∧ post_X14_isSteering σ x) := wX14_isSteering l G κ σ hwf (post_X14_isSteering σ ) (vX14_isSteering σ hwf hp) 
def pre_X14_isReserved (σ : rS)  : Prop := 0 ≤ (rF σ 0 29) ∧ (rF σ 0 29) ≤ (rF σ 0 28) ∧ (rF σ 0 28) ≤ 4001
def post_X14_isReserved (σ : rS)  (r : Int) : Prop := (r = 0 ∨ r = 1)
def VC_X14_isReserved (σ : rS) (Q : Int → Prop) : Prop := pre_X14_function σ ∧ (∀ (x3 : Int), rng x3 → post_X14_function σ x3 → ((0 ≤ x3 → Q 1) ∧ (¬ 0 ≤ x3 → pre_X14_isSteering σ ∧ (∀ (x6 : Int), rng x6 → post_X14_isSteering σ x6 → ((¬ x6 = 0 → Q 1) ∧ (x6 = 0 → pre_X14_isWord σ 5 ∧ (∀ (x9 : Int), rng x9 → post_X14_isWord σ 5 x9 → ((¬ x9 = 0 → Q 1) ∧ (x9 = 0 → pre_X14_isWord σ 4 ∧ (∀ (x12 : Int), rng x12 → post_X14_isWord σ 4 x12 → ((¬ x12 = 0 → Q 1) ∧ (x12 = 0 → pre_X14_isWord σ 5 ∧ (∀ (x15 : Int), rng x15 → post_X14_isWord σ 5 x15 → ((x15 = 0 → Q 0) ∧ (¬ x15 = 0 → Q 1)))))))))))))))
theorem vX14_isReserved (σ : rS) (hwf : rWF σ) (hp : pre_X14_isReserved σ ) : VC_X14_isReserved σ (post_X14_isReserved σ ) := by
  simp only [VC_X14_isReserved, pre_X14_isReserved, post_X14_isReserved, pre_X14_isSteering, pre_X14_function, pre_X14_isWord, post_X14_isSteering, post_X14_function, post_X14_isWord, rng, rfk, rNM, rF_sF, rF_sA, rF_sL, rF_sR, rA_sA, rA_sF, rA_sL, rA_sR, rR_sF, rR_sA, rR_sL, rR_sR, reduceIte, and_true, true_and, and_false, false_and, and_self] at *
  (repeat' (first | intro _ | apply And.intro))
  all_goals (first | omega | grind (splits := 20))
theorem wX14_isReserved (l : Launch) (G : zG) (κ : Nat → Nat) (σ : rS) (hwf : rWF σ) (Q : Int → Prop) (h : VC_X14_isReserved σ Q) : rMi l G κ yX14_isReserved cX14_isReserved 1 .boolean 7 187 [.ref (κ 0)] σ (fun x s => s = σ ∧ Q x) := by
  refine zMi.intro (by decide +kernel) (Nat.le_of_ble_eq_true rfl) (fun X hC hR => ?_)
  refine z_aload_n hC (pc := 0) 0 dX14_isReserved_0 rfl rfl ?_
  obtain ⟨p1, h⟩ := h
  refine y_callVi hC (pc := 1) (As := []) (kX14_function l G κ σ  hwf  p1) dmX14_function zf14 rOb_0 dX14_isReserved_1 zw3145 rfl rfl (Nat.le_of_ble_eq_true rfl) (Nat.le_of_ble_eq_true rfl) (Nat.le_of_ble_eq_true rfl) (Nat.le_of_ble_eq_true rfl) (Nat.le_of_ble_eq_true rfl) (kk := fun x3 s2 hx3 Ws2 qs2 => ?_)
  obtain ⟨es2, qs2⟩ := qs2
  have es2 := es2.symm
  subst es2
  have h := h x3 hx3 qs2
  obtain ⟨hT, hF⟩ := h
  refine y_if_ge hC (pc := 4) 44 hx3 dX14_isReserved_4 (by decide) (fun c => ?_) (fun c => ?_)
  · have h := hT c
    refine z_iconst hC (pc := 44) (v := Int32.ofInt 1) dX14_isReserved_44 (by decide) ?_
    refine z_goto hC (pc := 45) 49 dX14_isReserved_45 (by decide) ?_
    exact y_reti hR dX14_isReserved_49 rfl (r_lit rfl) hwf (Nat.le_of_ble_eq_true rfl) (Nat.le_of_ble_eq_true rfl) ⟨rfl, h⟩
  · have h := hF c
    refine z_aload_n hC (pc := 7) 0 dX14_isReserved_7 rfl rfl ?_
    obtain ⟨p4, h⟩ := h
    refine y_callVi hC (pc := 8) (As := []) (kX14_isSteering l G κ σ  hwf  p4) dmX14_isSteering zf14 rOb_0 dX14_isReserved_8 zw3158 rfl rfl (Nat.le_of_ble_eq_true rfl) (Nat.le_of_ble_eq_true rfl) (Nat.le_of_ble_eq_true rfl) (Nat.le_of_ble_eq_true rfl) (Nat.le_of_ble_eq_true rfl) (kk := fun x6 s5 hx6 Ws5 qs5 => ?_)
    obtain ⟨es5, qs5⟩ := qs5
    have es5 := es5.symm
    subst es5
    have h := h x6 hx6 qs5
    obtain ⟨hT, hF⟩ := h
    refine y_if_ne hC (pc := 11) 44 hx6 dX14_isReserved_11 (by decide) (fun c => ?_) (fun c => ?_)
    · have h := hT c
      refine z_iconst hC (pc := 44) (v := Int32.ofInt 1) dX14_isReserved_44 (by decide) ?_
      refine z_goto hC (pc := 45) 49 dX14_isReserved_45 (by decide) ?_
      exact y_reti hR dX14_isReserved_49 rfl (r_lit rfl) hwf (Nat.le_of_ble_eq_true rfl) (Nat.le_of_ble_eq_true rfl) ⟨rfl, h⟩
    · have h := hF c
      refine z_aload_n hC (pc := 14) 0 dX14_isReserved_14 rfl rfl ?_
      refine z_ldcSw hC (pc := 15) dX14_isReserved_15 zS_50 ?_
      obtain ⟨p7, h⟩ := h
      refine y_callVi hC (pc := 18) (As := [.ref (G.2.2 101)]) (kX14_isWord l G κ σ (G.2.2 101) 5 hwf (rSt_50 G) p7) dmX14_isWord zf14 rOb_0 dX14_isReserved_18 zw3128 rfl rfl (Nat.le_of_ble_eq_true rfl) (Nat.le_of_ble_eq_true rfl) (Nat.le_of_ble_eq_true rfl) (Nat.le_of_ble_eq_true rfl) (Nat.le_of_ble_eq_true rfl) (kk := fun x9 s8 hx9 Ws8 qs8 => ?_)
      obtain ⟨es8, qs8⟩ := qs8
      have es8 := es8.symm
      subst es8
      have h := h x9 hx9 qs8
      obtain ⟨hT, hF⟩ := h
      refine y_if_ne hC (pc := 21) 44 hx9 dX14_isReserved_21 (by decide) (fun c => ?_) (fun c => ?_)
      · have h := hT c
        refine z_iconst hC (pc := 44) (v := Int32.ofInt 1) dX14_isReserved_44 (by decide) ?_
        refine z_goto hC (pc := 45) 49 dX14_isReserved_45 (by decide) ?_
        exact y_reti hR dX14_isReserved_49 rfl (r_lit rfl) hwf (Nat.le_of_ble_eq_true rfl) (Nat.le_of_ble_eq_true rfl) ⟨rfl, h⟩
      · have h := hF c
        refine z_aload_n hC (pc := 24) 0 dX14_isReserved_24 rfl rfl ?_
        refine z_ldcSw hC (pc := 25) dX14_isReserved_25 zS_26 ?_
        obtain ⟨p10, h⟩ := h
        refine y_callVi hC (pc := 28) (As := [.ref (G.2.2 53)]) (kX14_isWord l G κ σ (G.2.2 53) 4 hwf (rSt_26 G) p10) dmX14_isWord zf14 rOb_0 dX14_isReserved_28 zw3128 rfl rfl (Nat.le_of_ble_eq_true rfl) (Nat.le_of_ble_eq_true rfl) (Nat.le_of_ble_eq_true rfl) (Nat.le_of_ble_eq_true rfl) (Nat.le_of_ble_eq_true rfl) (kk := fun x12 s11 hx12 Ws11 qs11 => ?_)
        obtain ⟨es11, qs11⟩ := qs11
        have es11 := es11.symm
        subst es11
        have h := h x12 hx12 qs11
        obtain ⟨hT, hF⟩ := h
        refine y_if_ne hC (pc := 31) 44 hx12 dX14_isReserved_31 (by decide) (fun c => ?_) (fun c => ?_)
        · have h := hT c
          refine z_iconst hC (pc := 44) (v := Int32.ofInt 1) dX14_isReserved_44 (by decide) ?_
          refine z_goto hC (pc := 45) 49 dX14_isReserved_45 (by decide) ?_
          exact y_reti hR dX14_isReserved_49 rfl (r_lit rfl) hwf (Nat.le_of_ble_eq_true rfl) (Nat.le_of_ble_eq_true rfl) ⟨rfl, h⟩
        · have h := hF c
          refine z_aload_n hC (pc := 34) 0 dX14_isReserved_34 rfl rfl ?_
          refine z_ldcSw hC (pc := 35) dX14_isReserved_35 zS_27 ?_
          obtain ⟨p13, h⟩ := h
          refine y_callVi hC (pc := 38) (As := [.ref (G.2.2 55)]) (kX14_isWord l G κ σ (G.2.2 55) 5 hwf (rSt_27 G) p13) dmX14_isWord zf14 rOb_0 dX14_isReserved_38 zw3128 rfl rfl (Nat.le_of_ble_eq_true rfl) (Nat.le_of_ble_eq_true rfl) (Nat.le_of_ble_eq_true rfl) (Nat.le_of_ble_eq_true rfl) (Nat.le_of_ble_eq_true rfl) (kk := fun x15 s14 hx15 Ws14 qs14 => ?_)
          obtain ⟨es14, qs14⟩ := qs14
          have es14 := es14.symm
          subst es14
          have h := h x15 hx15 qs14
          obtain ⟨hT, hF⟩ := h
          refine y_if_eq hC (pc := 41) 48 hx15 dX14_isReserved_41 (by decide) (fun c => ?_) (fun c => ?_)
          · have h := hT c
            refine z_iconst hC (pc := 48) (v := Int32.ofInt 0) dX14_isReserved_48 (by decide) ?_
            exact y_reti hR dX14_isReserved_49 rfl (r_lit rfl) hwf (Nat.le_of_ble_eq_true rfl) (Nat.le_of_ble_eq_true rfl) ⟨rfl, h⟩
          · have h := hF c
            refine z_iconst hC (pc := 44) (v := Int32.ofInt 1) dX14_isReserved_44 (by decide) ?_
            refine z_goto hC (pc := 45) 49 dX14_isReserved_45 (by decide) ?_
            exact y_reti hR dX14_isReserved_49 rfl (r_lit rfl) hwf (Nat.le_of_ble_eq_true rfl) (Nat.le_of_ble_eq_true rfl) ⟨rfl, h⟩
theorem kX14_isReserved (l : Launch) (G : zG) (κ : Nat → Nat) (σ : rS) (hwf : rWF σ) (hp : pre_X14_isReserved σ ) : rMi l G κ yX14_isReserved cX14_isReserved 1 .boolean 7 187 [.ref (κ 0)] σ (fun x s => s = σ ∧ post_X14_isReserved σ x) := wX14_isReserved l G κ σ hwf (post_X14_isReserved σ ) (vX14_isReserved σ hwf hp) 
def pre_X14_sign (σ : rS) (n1 : Nat) : Prop := 0 ≤ (rF σ 0 17) ∧ 0 ≤ (rF σ 0 16) ∧ (rF σ 0 16) ≤ 4000 ∧ rfk (rR σ 15) ∧ (rF σ 0 17) ≤ (rF σ 0 16) ∧ 0 < n1
def post_X14_sign (σ : rS) (n1 : Nat) (σ' : rS) : Prop := (rF σ 0 17) ≤ (rF σ' 0 17) ∧ (rF σ' 0 17) ≤ (rF σ 0 16) ∧ ((rF σ 0 10) ≠ 0 → (rF σ' 0 10) = (rF σ 0 10)) ∧ ((rF σ' 0 10) = 0 → (rF σ 0 17) < (rF σ' 0 17))
def inv_X14_sign_86 (σ : rS) (n1 : Nat)  (s : rS) (b : Int) (kk : Int) : Prop := rF s 0 10 = 0 ∧ (rF σ 0 10) = 0 ∧ (rF σ 0 17) ≤ (rF s 0 17) ∧ (rF s 0 17) ≤ (rF σ 0 16) ∧ (b = 0 ∨ b = 1) ∧ (b = 1 → (rF s 0 17) + (n1 : Int) ≤ (rF σ 0 16)) ∧ 0 ≤ kk ∧ kk ≤ (n1 : Int)
def mu_X14_sign_86 (σ : rS) (n1 : Nat) (s : rS) (b : Int) (kk : Int) : Nat := (1 + ((n1 : Int) - kk).toNat)
def VC_X14_sign (σ : rS) (n1 : Nat) (Q : rS → Prop) : Prop := pre_X14_skip σ ∧ (∀ (s2 : rS), rWF s2 → rR s2 15 = rR σ 15 → rF s2 0 16 = rF σ 0 16 → post_X14_skip σ s2 → (rng (rF s2 0 10) → (((rF s2 0 10) = 0 → (rng (rF s2 0 17) → (rng (rF s2 0 16) → rng ((rF s2 0 17) + (n1 : Int)) ∧ (((rF s2 0 16) < ((rF s2 0 17) + (n1 : Int)) → ((¬ (n1 : Int) = 1 → (inv_X14_sign_86 σ n1 s2 0 0)) ∧ ((n1 : Int) = 1 → ((0 : Int) ≤ 0 ∧ 0 < (n1 : Int)) ∧ (∀ (x25 : Int), (0 ≤ x25 ∧ x25 ≤ 255) → ((¬ x25 = 58 → (inv_X14_sign_86 σ n1 s2 0 0)) ∧ (x25 = 58 → rng ((rF s2 0 17) + 1) ∧ pre_X14_fc s2 ((rF s2 0 17) + 1) ∧ (∀ (x48 : Int), rng x48 → post_X14_fc s2 ((rF s2 0 17) + 1) x48 → ((¬ x48 = 58 → (inv_X14_sign_86 σ n1 s2 0 0)) ∧ (x48 = 58 → rng ((rF s2 0 17) + 2) ∧ pre_X14_fc s2 ((rF s2 0 17) + 2) ∧ (∀ (x71 : Int), rng x71 → post_X14_fc s2 ((rF s2 0 17) + 2) x71 → ((¬ x71 = 61 → (inv_X14_sign_86 σ n1 s2 0 0)) ∧ (x71 = 61 → (inv_X14_sign_86 σ n1 s2 0 0))))))))))))) ∧ (¬ (rF s2 0 16) < ((rF s2 0 17) + (n1 : Int)) → ((¬ (n1 : Int) = 1 → (inv_X14_sign_86 σ n1 s2 1 0)) ∧ ((n1 : Int) = 1 → ((0 : Int) ≤ 0 ∧ 0 < (n1 : Int)) ∧ (∀ (x130 : Int), (0 ≤ x130 ∧ x130 ≤ 255) → ((¬ x130 = 58 → (inv_X14_sign_86 σ n1 s2 1 0)) ∧ (x130 = 58 → rng ((rF s2 0 17) + 1) ∧ pre_X14_fc s2 ((rF s2 0 17) + 1) ∧ (∀ (x153 : Int), rng x153 → post_X14_fc s2 ((rF s2 0 17) + 1) x153 → ((¬ x153 = 58 → (inv_X14_sign_86 σ n1 s2 1 0)) ∧ (x153 = 58 → rng ((rF s2 0 17) + 2) ∧ pre_X14_fc s2 ((rF s2 0 17) + 2) ∧ (∀ (x176 : Int), rng x176 → post_X14_fc s2 ((rF s2 0 17) + 2) x176 → ((¬ x176 = 61 → (inv_X14_sign_86 σ n1 s2 1 0)) ∧ (x176 = 61 → (inv_X14_sign_86 σ n1 s2 0 0))))))))))))))))) ∧ (¬ (rF s2 0 10) = 0 → Q s2))))
def VC_X14_sign_86 (σ : rS) (n1 : Nat) (Q : rS → Prop) : Prop := ∀ (s5 : rS) (y6 : Int) (y7 : Int), rWF s5 → rng y6 → rng y7 → rR s5 15 = rR σ 15 → rF s5 0 16 = rF σ 0 16 → inv_X14_sign_86 σ n1 s5 y6 y7 → ((((n1 : Int) ≤ y7 → ((y6 = 0 → (rng (rF s5 0 17) → pre_X14_bad s5 1 (rF s5 0 17) ∧ (∀ (s9 : rS), rWF s9 → rR s9 15 = rR s5 15 → rF s9 0 16 = rF s5 0 16 → rF s9 0 17 = rF s5 0 17 → post_X14_bad s5 1 (rF s5 0 17) s9 → Q s9))) ∧ (¬ y6 = 0 → (rng (rF s5 0 17) → rng ((rF s5 0 17) + (n1 : Int)) ∧ Q (sF s5 0 17 ((rF s5 0 17) + (n1 : Int))))))) ∧ (¬ (n1 : Int) ≤ y7 → ((y6 = 0 → ((y6 = 0 → (rng (rF s5 0 17) → pre_X14_bad s5 1 (rF s5 0 17) ∧ (∀ (s14 : rS), rWF s14 → rR s14 15 = rR s5 15 → rF s14 0 16 = rF s5 0 16 → rF s14 0 17 = rF s5 0 17 → post_X14_bad s5 1 (rF s5 0 17) s14 → Q s14))) ∧ (¬ y6 = 0 → (rng (rF s5 0 17) → rng ((rF s5 0 17) + (n1 : Int)) ∧ Q (sF s5 0 17 ((rF s5 0 17) + (n1 : Int))))))) ∧ (¬ y6 = 0 → rfk (rR s5 15) ∧ (rng (rF s5 0 17) → (0 ≤ ((rF s5 0 17) + y7) ∧ ((rF s5 0 17) + y7) < 4000) ∧ (rng (rA s5 (rR s5 15) ((rF s5 0 17) + y7)) → ((0 : Int) ≤ y7 ∧ y7 < (n1 : Int)) ∧ (∀ (x21 : Int), (0 ≤ x21 ∧ x21 ≤ 255) → ((¬ (rA s5 (rR s5 15) ((rF s5 0 17) + y7)) = x21 → rng (y7 + 1) ∧ (inv_X14_sign_86 σ n1 s5 0 (y7 + 1) ∧ (mu_X14_sign_86 σ n1 s5 0 (y7 + 1)) < (mu_X14_sign_86 σ n1 s5 y6 y7))) ∧ ((rA s5 (rR s5 15) ((rF s5 0 17) + y7)) = x21 → rng (y7 + 1) ∧ (inv_X14_sign_86 σ n1 s5 1 (y7 + 1) ∧ (mu_X14_sign_86 σ n1 s5 1 (y7 + 1)) < (mu_X14_sign_86 σ n1 s5 y6 y7))))))))))))
def VC_X14_sign_86m (σ : rS) (n1 : Nat) : Prop := ∀ (s5 : rS) (y6 : Int) (y7 : Int), rWF s5 → rng y6 → rng y7 → rR s5 15 = rR σ 15 → rF s5 0 16 = rF σ 0 16 → inv_X14_sign_86 σ n1 s5 y6 y7 → 0 < (mu_X14_sign_86 σ n1 s5 y6 y7)
theorem vX14_sign (σ : rS) (n1 : Nat) (hwf : rWF σ) (hs1 : n1 < 1000) (hp : pre_X14_sign σ n1) : VC_X14_sign σ n1 (post_X14_sign σ n1) := by
  simp only [VC_X14_sign, pre_X14_sign, post_X14_sign, inv_X14_sign_86, mu_X14_sign_86, pre_X14_skip, pre_X14_fc, pre_X14_bad, post_X14_skip, post_X14_fc, post_X14_bad, rng, rfk, rNM, rF_sF, rF_sA, rF_sL, rF_sR, rA_sA, rA_sF, rA_sL, rA_sR, rR_sF, rR_sA, rR_sL, rR_sR, reduceIte, and_true, true_and, and_false, false_and, and_self] at *
  (repeat' (first | intro _ | apply And.intro))
  all_goals (first | omega | grind (splits := 20))
theorem vX14_sign_86 (σ : rS) (n1 : Nat) (hwf : rWF σ) (hs1 : n1 < 1000) (hp : pre_X14_sign σ n1) : VC_X14_sign_86 σ n1 (post_X14_sign σ n1) := by
  simp only [VC_X14_sign_86, pre_X14_sign, post_X14_sign, inv_X14_sign_86, mu_X14_sign_86, pre_X14_skip, pre_X14_fc, pre_X14_bad, post_X14_skip, post_X14_fc, post_X14_bad, rng, rfk, rNM, rF_sF, rF_sA, rF_sL, rF_sR, rA_sA, rA_sF, rA_sL, rA_sR, rR_sF, rR_sA, rR_sL, rR_sR, reduceIte, and_true, true_and, and_false, false_and, and_self] at *
  (repeat' (first | intro _ | apply And.intro))
  all_goals (first | omega | grind (splits := 20))
theorem vX14_sign_86m (σ : rS) (n1 : Nat) (hwf : rWF σ) (hs1 : n1 < 1000) (hp : pre_X14_sign σ n1) : VC_X14_sign_86m σ n1 := by
  simp only [VC_X14_sign_86m, pre_X14_sign, post_X14_sign, inv_X14_sign_86, mu_X14_sign_86, pre_X14_skip, pre_X14_fc, pre_X14_bad, post_X14_skip, post_X14_fc, post_X14_bad, rng, rfk, rNM, rF_sF, rF_sA, rF_sL, rF_sR, rA_sA, rA_sF, rA_sL, rA_sR, rR_sF, rR_sA, rR_sL, rR_sR, reduceIte, and_true, true_and, and_false, false_and, and_self] at *
  (repeat' (first | intro _ | apply And.intro))
  all_goals (first | omega | grind (splits := 20))
theorem wX14_sign (l : Launch) (G : zG) (κ : Nat → Nat) (σ : rS) (t1 n1 : Nat) (hwf : rWF σ) (hs1 : rSt G t1 n1) (Q : rS → Prop) (h : VC_X14_sign σ n1 Q) (h_86 : VC_X14_sign_86 σ n1 Q) (h_86m : VC_X14_sign_86m σ n1) : rMv l G κ yX14_sign cX14_sign 4 4 121 [.ref (κ 0), .ref t1] σ (fun s => rKeep 0x21c00 0 0 0 0 σ s ∧ Q s) := by
  refine zMv.intro (by decide +kernel) (Nat.le_of_ble_eq_true rfl) (fun X hC hR => ?_)
  refine z_aload_n hC (pc := 0) 0 dX14_sign_0 rfl rfl ?_
  obtain ⟨p1, h⟩ := h
  refine y_callVv hC (pc := 1) (As := []) (kX14_skip l G κ σ  hwf  p1) dmX14_skip zf14 rOb_0 dX14_sign_1 zw2985 rfl rfl (Nat.le_of_ble_eq_true rfl) (Nat.le_of_ble_eq_true rfl) (Nat.le_of_ble_eq_true rfl) (Nat.le_of_ble_eq_true rfl) (Nat.le_of_ble_eq_true rfl) (kk := fun s2 Ws2 qs2 => ?_)
  have h := h s2 Ws2 (qs2.1.R rfl) (qs2.1.F rfl) qs2.2
  refine z_aload_n hC (pc := 4) 0 dX14_sign_4 rfl rfl ?_
  refine y_get hC (pc := 5) zf14 rOb_0 10 (v := iv (rF s2 0 10)) dX14_sign_5 zw2478 (rv_i (Or.inl rfl) rfl) (kk := ?_)
  have h := h (Ws2.f _ _)
  obtain ⟨hT, hF⟩ := h
  refine y_if_eq hC (pc := 8) 12 (Ws2.f _ _) dX14_sign_8 (by decide) (fun c => ?_) (fun c => ?_)
  · have h := hT c
    refine z_aload_n hC (pc := 12) 0 dX14_sign_12 rfl rfl ?_
    refine y_get hC (pc := 13) zf14 rOb_0 17 (v := iv (rF s2 0 17)) dX14_sign_13 zw2484 (rv_i (Or.inl rfl) rfl) (kk := ?_)
    have h := h (Ws2.f _ _)
    refine z_aload_n hC (pc := 16) 1 dX14_sign_16 rfl rfl ?_
    refine y_slen hC (pc := 17) hs1 dX14_sign_17 zw3021 (Nat.le_of_ble_eq_true rfl) (Nat.le_of_ble_eq_true rfl) (Nat.le_of_ble_eq_true rfl) (Nat.le_of_ble_eq_true rfl) (Nat.le_of_ble_eq_true rfl) ?_
    refine y_iadd hC (pc := 20) (v := ((rF s2 0 17) + (n1 : Int))) dX14_sign_20 rfl ?_
    refine z_aload_n hC (pc := 21) 0 dX14_sign_21 rfl rfl ?_
    refine y_get hC (pc := 22) zf14 rOb_0 16 (v := iv (rF s2 0 16)) dX14_sign_22 zw2483 (rv_i (Or.inl rfl) rfl) (kk := ?_)
    have h := h (Ws2.f _ _)
    obtain ⟨r4, h⟩ := h
    obtain ⟨hT, hF⟩ := h
    refine y_icmp_gt hC (pc := 25) 32 r4 (Ws2.f _ _) dX14_sign_25 (by decide) (fun c => ?_) (fun c => ?_)
    · have h := hT c
      refine z_iconst hC (pc := 32) (v := Int32.ofInt 0) dX14_sign_32 (by decide) ?_
      refine z_istore_n hC (pc := 33) (lv' := [(2, iv 0), (0, .ref (κ 0)), (1, .ref t1)]) dX14_sign_33 rfl (by decide) rfl ?_
      refine z_aload_n hC (pc := 34) 2 dX14_sign_34 rfl rfl ?_
      refine y_slen hC (pc := 35) hs1 dX14_sign_35 zw3021 (Nat.le_of_ble_eq_true rfl) (Nat.le_of_ble_eq_true rfl) (Nat.le_of_ble_eq_true rfl) (Nat.le_of_ble_eq_true rfl) (Nat.le_of_ble_eq_true rfl) ?_
      refine z_iconst hC (pc := 38) (v := Int32.ofInt 1) dX14_sign_38 (by decide) ?_
      obtain ⟨hT, hF⟩ := h
      refine y_icmp_ne hC (pc := 39) 84 (rSt.rng hs1) (r_lit rfl) dX14_sign_39 (by decide) (fun c => ?_) (fun c => ?_)
      · have h := hT c
        refine z_iconst hC (pc := 84) (v := Int32.ofInt 0) dX14_sign_84 (by decide) ?_
        refine z_istore_n hC (pc := 85) (lv' := [(3, iv 0), (2, iv 0), (0, .ref (κ 0)), (1, .ref t1)]) dX14_sign_85 rfl (by decide) rfl ?_
        have j86 : ∀ (d86 : Nat), ∀ (s5 : rS) (y6 : Int) (y7 : Int), rWF s5 → rng y6 → rng y7 → rKeep 0x21c00 0 0 0 0 σ s5 → inv_X14_sign_86 σ n1 s5 y6 y7 → (mu_X14_sign_86 σ n1 s5 y6 y7) ≤ d86 → zS X G 4 (rW G κ s5) [(0, .ref (κ 0)), (1, .ref t1), (2, iv y6), (3, iv y7)] 0 0 86 [] := by
          intro d86
          induction d86 with
          | zero =>
            intro s5 y6 y7 Ws5 hy6 hy7 kJ hI hmu
            exact absurd hmu (by have := h_86m  s5 y6 y7 Ws5 hy6 hy7 (kJ.R rfl) (kJ.F rfl) hI; omega)
          | succ d86 ih86 =>
            intro s5 y6 y7 Ws5 hy6 hy7 kJ hI hmu86
            have h := h_86  s5 y6 y7 Ws5 hy6 hy7 (kJ.R rfl) (kJ.F rfl) hI
            refine z_iload_n hC (pc := 86) 3 dX14_sign_86 rfl rfl ?_
            refine z_aload_n hC (pc := 87) 1 dX14_sign_87 rfl rfl ?_
            refine y_slen hC (pc := 88) hs1 dX14_sign_88 zw3021 (Nat.le_of_ble_eq_true rfl) (Nat.le_of_ble_eq_true rfl) (Nat.le_of_ble_eq_true rfl) (Nat.le_of_ble_eq_true rfl) (Nat.le_of_ble_eq_true rfl) ?_
            obtain ⟨hT, hF⟩ := h
            refine y_icmp_ge hC (pc := 91) 129 hy7 (rSt.rng hs1) dX14_sign_91 (by decide) (fun c => ?_) (fun c => ?_)
            · have h := hT c
              refine z_iload_n hC (pc := 129) 2 dX14_sign_129 rfl rfl ?_
              obtain ⟨hT, hF⟩ := h
              refine y_if_eq hC (pc := 130) 149 hy6 dX14_sign_130 (by decide) (fun c => ?_) (fun c => ?_)
              · have h := hT c
                refine z_aload_n hC (pc := 149) 0 dX14_sign_149 rfl rfl ?_
                refine z_iconst hC (pc := 150) (v := Int32.ofInt 1) dX14_sign_150 (by decide) ?_
                refine z_aload_n hC (pc := 151) 0 dX14_sign_151 rfl rfl ?_
                refine y_get hC (pc := 152) zf14 rOb_0 17 (v := iv (rF s5 0 17)) dX14_sign_152 zw2484 (rv_i (Or.inl rfl) rfl) (kk := ?_)
                have h := h (Ws5.f _ _)
                obtain ⟨p8, h⟩ := h
                refine y_callVv hC (pc := 155) (As := [iv 1, iv (rF s5 0 17)]) (kX14_bad l G κ s5 1 (rF s5 0 17) Ws5 (r_lit rfl) (Ws5.f _ _) p8) dmX14_bad zf14 rOb_0 dX14_sign_155 zw3000 rfl rfl (Nat.le_of_ble_eq_true rfl) (Nat.le_of_ble_eq_true rfl) (Nat.le_of_ble_eq_true rfl) (Nat.le_of_ble_eq_true rfl) (Nat.le_of_ble_eq_true rfl) (kk := fun s9 Ws9 qs9 => ?_)
                have h := h s9 Ws9 (qs9.1.R rfl) (qs9.1.F rfl) (qs9.1.F rfl) qs9.2
                exact y_retv hR dX14_sign_158 Ws9 (Nat.le_of_ble_eq_true rfl) (Nat.le_of_ble_eq_true rfl) ⟨(rKeep.tr (rKeep.tr rKeep.rf kJ rfl rfl rfl rfl rfl) qs9.1 rfl rfl rfl rfl rfl), h⟩
              · have h := hF c
                refine z_aload_n hC (pc := 133) 0 dX14_sign_133 rfl rfl ?_
                refine z_dup hC (pc := 134) dX14_sign_134 rfl ?_
                refine y_get hC (pc := 135) zf14 rOb_0 17 (v := iv (rF s5 0 17)) dX14_sign_135 zw2484 (rv_i (Or.inl rfl) rfl) (kk := ?_)
                have h := h (Ws5.f _ _)
                refine z_aload_n hC (pc := 138) 1 dX14_sign_138 rfl rfl ?_
                refine y_slen hC (pc := 139) hs1 dX14_sign_139 zw3021 (Nat.le_of_ble_eq_true rfl) (Nat.le_of_ble_eq_true rfl) (Nat.le_of_ble_eq_true rfl) (Nat.le_of_ble_eq_true rfl) (Nat.le_of_ble_eq_true rfl) ?_
                refine y_iadd hC (pc := 142) (v := ((rF s5 0 17) + (n1 : Int))) dX14_sign_142 rfl ?_
                obtain ⟨r11, h⟩ := h
                refine y_putI hC (pc := 143) zf14 rOb_0 17 (x := ((rF s5 0 17) + (n1 : Int))) dX14_sign_143 zw2484 (Or.inl rfl) rfl rfl (kk := ?_)
                have W12 := Ws5.sF (q := 0) (f := 17) (x := ((rF s5 0 17) + (n1 : Int))) r11
                refine z_goto hC (pc := 146) 158 dX14_sign_146 (by decide) ?_
                exact y_retv hR dX14_sign_158 W12 (Nat.le_of_ble_eq_true rfl) (Nat.le_of_ble_eq_true rfl) ⟨(rKeep.tr (rKeep.tr rKeep.rf kJ rfl rfl rfl rfl rfl) (rKeep.sF0 (f := 17)) rfl rfl rfl rfl rfl), h⟩
            · have h := hF c
              refine z_iload_n hC (pc := 94) 2 dX14_sign_94 rfl rfl ?_
              obtain ⟨hT, hF⟩ := h
              refine y_if_eq hC (pc := 95) 129 hy6 dX14_sign_95 (by decide) (fun c => ?_) (fun c => ?_)
              · have h := hT c
                refine z_iload_n hC (pc := 129) 2 dX14_sign_129 rfl rfl ?_
                obtain ⟨hT, hF⟩ := h
                refine y_if_eq hC (pc := 130) 149 hy6 dX14_sign_130 (by decide) (fun c => ?_) (fun c => ?_)
                · have h := hT c
                  refine z_aload_n hC (pc := 149) 0 dX14_sign_149 rfl rfl ?_
                  refine z_iconst hC (pc := 150) (v := Int32.ofInt 1) dX14_sign_150 (by decide) ?_
                  refine z_aload_n hC (pc := 151) 0 dX14_sign_151 rfl rfl ?_
                  refine y_get hC (pc := 152) zf14 rOb_0 17 (v := iv (rF s5 0 17)) dX14_sign_152 zw2484 (rv_i (Or.inl rfl) rfl) (kk := ?_)
                  have h := h (Ws5.f _ _)
                  obtain ⟨p13, h⟩ := h
                  refine y_callVv hC (pc := 155) (As := [iv 1, iv (rF s5 0 17)]) (kX14_bad l G κ s5 1 (rF s5 0 17) Ws5 (r_lit rfl) (Ws5.f _ _) p13) dmX14_bad zf14 rOb_0 dX14_sign_155 zw3000 rfl rfl (Nat.le_of_ble_eq_true rfl) (Nat.le_of_ble_eq_true rfl) (Nat.le_of_ble_eq_true rfl) (Nat.le_of_ble_eq_true rfl) (Nat.le_of_ble_eq_true rfl) (kk := fun s14 Ws14 qs14 => ?_)
                  have h := h s14 Ws14 (qs14.1.R rfl) (qs14.1.F rfl) (qs14.1.F rfl) qs14.2
                  exact y_retv hR dX14_sign_158 Ws14 (Nat.le_of_ble_eq_true rfl) (Nat.le_of_ble_eq_true rfl) ⟨(rKeep.tr (rKeep.tr rKeep.rf kJ rfl rfl rfl rfl rfl) qs14.1 rfl rfl rfl rfl rfl), h⟩
                · have h := hF c
                  refine z_aload_n hC (pc := 133) 0 dX14_sign_133 rfl rfl ?_
                  refine z_dup hC (pc := 134) dX14_sign_134 rfl ?_
                  refine y_get hC (pc := 135) zf14 rOb_0 17 (v := iv (rF s5 0 17)) dX14_sign_135 zw2484 (rv_i (Or.inl rfl) rfl) (kk := ?_)
                  have h := h (Ws5.f _ _)
                  refine z_aload_n hC (pc := 138) 1 dX14_sign_138 rfl rfl ?_
                  refine y_slen hC (pc := 139) hs1 dX14_sign_139 zw3021 (Nat.le_of_ble_eq_true rfl) (Nat.le_of_ble_eq_true rfl) (Nat.le_of_ble_eq_true rfl) (Nat.le_of_ble_eq_true rfl) (Nat.le_of_ble_eq_true rfl) ?_
                  refine y_iadd hC (pc := 142) (v := ((rF s5 0 17) + (n1 : Int))) dX14_sign_142 rfl ?_
                  obtain ⟨r16, h⟩ := h
                  refine y_putI hC (pc := 143) zf14 rOb_0 17 (x := ((rF s5 0 17) + (n1 : Int))) dX14_sign_143 zw2484 (Or.inl rfl) rfl rfl (kk := ?_)
                  have W17 := Ws5.sF (q := 0) (f := 17) (x := ((rF s5 0 17) + (n1 : Int))) r16
                  refine z_goto hC (pc := 146) 158 dX14_sign_146 (by decide) ?_
                  exact y_retv hR dX14_sign_158 W17 (Nat.le_of_ble_eq_true rfl) (Nat.le_of_ble_eq_true rfl) ⟨(rKeep.tr (rKeep.tr rKeep.rf kJ rfl rfl rfl rfl rfl) (rKeep.sF0 (f := 17)) rfl rfl rfl rfl rfl), h⟩
              · have h := hF c
                refine z_aload_n hC (pc := 98) 0 dX14_sign_98 rfl rfl ?_
                obtain ⟨g18, h⟩ := h
                refine y_get hC (pc := 99) zf14 rOb_0 15 (v := .ref (κ (rR s5 15))) dX14_sign_99 zw2482 (rv_b rfl rfl g18) (kk := ?_)
                refine z_aload_n hC (pc := 102) 0 dX14_sign_102 rfl rfl ?_
                refine y_get hC (pc := 103) zf14 rOb_0 17 (v := iv (rF s5 0 17)) dX14_sign_103 zw2484 (rv_i (Or.inl rfl) rfl) (kk := ?_)
                have h := h (Ws5.f _ _)
                refine z_iload_n hC (pc := 106) 3 dX14_sign_106 rfl rfl ?_
                refine y_iadd hC (pc := 107) (v := ((rF s5 0 17) + y7)) dX14_sign_107 rfl ?_
                obtain ⟨b19, h⟩ := h
                refine y_bald hC (pc := 108) (rAr_f g18) dX14_sign_108 b19 (v := (rA s5 (rR s5 15) ((rF s5 0 17) + y7))) rfl (kk := ?_)
                have h := h (Ws5.a _ _)
                refine z_aload_n hC (pc := 109) 1 dX14_sign_109 rfl rfl ?_
                refine z_iload_n hC (pc := 110) 3 dX14_sign_110 rfl rfl ?_
                obtain ⟨b20, h⟩ := h
                refine y_char hC (pc := 111) (i := y7) hs1 b20 dX14_sign_111 zw3022 (Nat.le_of_ble_eq_true rfl) (Nat.le_of_ble_eq_true rfl) (Nat.le_of_ble_eq_true rfl) (Nat.le_of_ble_eq_true rfl) (Nat.le_of_ble_eq_true rfl) (fun x21 hx21 => ?_)
                have h := h x21 hx21
                obtain ⟨hT, hF⟩ := h
                refine y_icmp_ne hC (pc := 114) 121 (Ws5.a _ _) (r_255 hx21) dX14_sign_114 (by decide) (fun c => ?_) (fun c => ?_)
                · have h := hT c
                  refine z_iconst hC (pc := 121) (v := Int32.ofInt 0) dX14_sign_121 (by decide) ?_
                  refine z_istore_n hC (pc := 122) (lv' := [(2, iv 0), (0, .ref (κ 0)), (1, .ref t1), (3, iv y7)]) dX14_sign_122 rfl (by decide) rfl ?_
                  refine y_iinc hC (pc := 123) (v := (y7 + 1)) (lv' := [(3, iv (y7 + 1)), (2, iv 0), (0, .ref (κ 0)), (1, .ref t1)]) 3 dX14_sign_123 rfl rfl (by decide) rfl ?_
                  refine z_goto hC (pc := 126) 86 dX14_sign_126 (by decide) ?_
                  refine z_lvs [2, 3, 1, 0] rfl ?_
                  obtain ⟨r22, h⟩ := h
                  obtain ⟨hI, hm⟩ := h
                  exact ih86 s5 0 (y7 + 1) Ws5 (r_lit rfl) r22 (rKeep.tr rKeep.rf kJ rfl rfl rfl rfl rfl) hI (by omega)
                · have h := hF c
                  refine z_iconst hC (pc := 117) (v := Int32.ofInt 1) dX14_sign_117 (by decide) ?_
                  refine z_goto hC (pc := 118) 122 dX14_sign_118 (by decide) ?_
                  refine z_istore_n hC (pc := 122) (lv' := [(2, iv 1), (0, .ref (κ 0)), (1, .ref t1), (3, iv y7)]) dX14_sign_122 rfl (by decide) rfl ?_
                  refine y_iinc hC (pc := 123) (v := (y7 + 1)) (lv' := [(3, iv (y7 + 1)), (2, iv 1), (0, .ref (κ 0)), (1, .ref t1)]) 3 dX14_sign_123 rfl rfl (by decide) rfl ?_
                  refine z_goto hC (pc := 126) 86 dX14_sign_126 (by decide) ?_
                  refine z_lvs [2, 3, 1, 0] rfl ?_
                  obtain ⟨r23, h⟩ := h
                  obtain ⟨hI, hm⟩ := h
                  exact ih86 s5 1 (y7 + 1) Ws5 (r_lit rfl) r23 (rKeep.tr rKeep.rf kJ rfl rfl rfl rfl rfl) hI (by omega)
        refine z_lvs [2, 3, 1, 0] rfl ?_
        exact j86 _ s2 0 0 Ws2 (r_lit rfl) (r_lit rfl) (rKeep.tr rKeep.rf qs2.1 rfl rfl rfl rfl rfl) h (Nat.le_refl _)
      · have h := hF c
        refine z_aload_n hC (pc := 42) 2 dX14_sign_42 rfl rfl ?_
        refine z_iconst hC (pc := 43) (v := Int32.ofInt 0) dX14_sign_43 (by decide) ?_
        obtain ⟨b24, h⟩ := h
        refine y_char hC (pc := 44) (i := 0) hs1 b24 dX14_sign_44 zw3022 (Nat.le_of_ble_eq_true rfl) (Nat.le_of_ble_eq_true rfl) (Nat.le_of_ble_eq_true rfl) (Nat.le_of_ble_eq_true rfl) (Nat.le_of_ble_eq_true rfl) (fun x25 hx25 => ?_)
        have h := h x25 hx25
        refine z_bipush hC (pc := 47) (v := Int32.ofInt 58) dX14_sign_47 (by decide) ?_
        obtain ⟨hT, hF⟩ := h
        refine y_icmp_ne hC (pc := 49) 84 (r_255 hx25) (r_lit rfl) dX14_sign_49 (by decide) (fun c => ?_) (fun c => ?_)
        · have h := hT c
          refine z_iconst hC (pc := 84) (v := Int32.ofInt 0) dX14_sign_84 (by decide) ?_
          refine z_istore_n hC (pc := 85) (lv' := [(3, iv 0), (2, iv 0), (0, .ref (κ 0)), (1, .ref t1)]) dX14_sign_85 rfl (by decide) rfl ?_
          have j86 : ∀ (d86 : Nat), ∀ (s26 : rS) (y27 : Int) (y28 : Int), rWF s26 → rng y27 → rng y28 → rKeep 0x21c00 0 0 0 0 σ s26 → inv_X14_sign_86 σ n1 s26 y27 y28 → (mu_X14_sign_86 σ n1 s26 y27 y28) ≤ d86 → zS X G 4 (rW G κ s26) [(0, .ref (κ 0)), (1, .ref t1), (2, iv y27), (3, iv y28)] 0 0 86 [] := by
            intro d86
            induction d86 with
            | zero =>
              intro s26 y27 y28 Ws26 hy27 hy28 kJ hI hmu
              exact absurd hmu (by have := h_86m  s26 y27 y28 Ws26 hy27 hy28 (kJ.R rfl) (kJ.F rfl) hI; omega)
            | succ d86 ih86 =>
              intro s26 y27 y28 Ws26 hy27 hy28 kJ hI hmu86
              have h := h_86  s26 y27 y28 Ws26 hy27 hy28 (kJ.R rfl) (kJ.F rfl) hI
              refine z_iload_n hC (pc := 86) 3 dX14_sign_86 rfl rfl ?_
              refine z_aload_n hC (pc := 87) 1 dX14_sign_87 rfl rfl ?_
              refine y_slen hC (pc := 88) hs1 dX14_sign_88 zw3021 (Nat.le_of_ble_eq_true rfl) (Nat.le_of_ble_eq_true rfl) (Nat.le_of_ble_eq_true rfl) (Nat.le_of_ble_eq_true rfl) (Nat.le_of_ble_eq_true rfl) ?_
              obtain ⟨hT, hF⟩ := h
              refine y_icmp_ge hC (pc := 91) 129 hy28 (rSt.rng hs1) dX14_sign_91 (by decide) (fun c => ?_) (fun c => ?_)
              · have h := hT c
                refine z_iload_n hC (pc := 129) 2 dX14_sign_129 rfl rfl ?_
                obtain ⟨hT, hF⟩ := h
                refine y_if_eq hC (pc := 130) 149 hy27 dX14_sign_130 (by decide) (fun c => ?_) (fun c => ?_)
                · have h := hT c
                  refine z_aload_n hC (pc := 149) 0 dX14_sign_149 rfl rfl ?_
                  refine z_iconst hC (pc := 150) (v := Int32.ofInt 1) dX14_sign_150 (by decide) ?_
                  refine z_aload_n hC (pc := 151) 0 dX14_sign_151 rfl rfl ?_
                  refine y_get hC (pc := 152) zf14 rOb_0 17 (v := iv (rF s26 0 17)) dX14_sign_152 zw2484 (rv_i (Or.inl rfl) rfl) (kk := ?_)
                  have h := h (Ws26.f _ _)
                  obtain ⟨p29, h⟩ := h
                  refine y_callVv hC (pc := 155) (As := [iv 1, iv (rF s26 0 17)]) (kX14_bad l G κ s26 1 (rF s26 0 17) Ws26 (r_lit rfl) (Ws26.f _ _) p29) dmX14_bad zf14 rOb_0 dX14_sign_155 zw3000 rfl rfl (Nat.le_of_ble_eq_true rfl) (Nat.le_of_ble_eq_true rfl) (Nat.le_of_ble_eq_true rfl) (Nat.le_of_ble_eq_true rfl) (Nat.le_of_ble_eq_true rfl) (kk := fun s30 Ws30 qs30 => ?_)
                  have h := h s30 Ws30 (qs30.1.R rfl) (qs30.1.F rfl) (qs30.1.F rfl) qs30.2
                  exact y_retv hR dX14_sign_158 Ws30 (Nat.le_of_ble_eq_true rfl) (Nat.le_of_ble_eq_true rfl) ⟨(rKeep.tr (rKeep.tr rKeep.rf kJ rfl rfl rfl rfl rfl) qs30.1 rfl rfl rfl rfl rfl), h⟩
                · have h := hF c
                  refine z_aload_n hC (pc := 133) 0 dX14_sign_133 rfl rfl ?_
                  refine z_dup hC (pc := 134) dX14_sign_134 rfl ?_
                  refine y_get hC (pc := 135) zf14 rOb_0 17 (v := iv (rF s26 0 17)) dX14_sign_135 zw2484 (rv_i (Or.inl rfl) rfl) (kk := ?_)
                  have h := h (Ws26.f _ _)
                  refine z_aload_n hC (pc := 138) 1 dX14_sign_138 rfl rfl ?_
                  refine y_slen hC (pc := 139) hs1 dX14_sign_139 zw3021 (Nat.le_of_ble_eq_true rfl) (Nat.le_of_ble_eq_true rfl) (Nat.le_of_ble_eq_true rfl) (Nat.le_of_ble_eq_true rfl) (Nat.le_of_ble_eq_true rfl) ?_
                  refine y_iadd hC (pc := 142) (v := ((rF s26 0 17) + (n1 : Int))) dX14_sign_142 rfl ?_
                  obtain ⟨r32, h⟩ := h
                  refine y_putI hC (pc := 143) zf14 rOb_0 17 (x := ((rF s26 0 17) + (n1 : Int))) dX14_sign_143 zw2484 (Or.inl rfl) rfl rfl (kk := ?_)
                  have W33 := Ws26.sF (q := 0) (f := 17) (x := ((rF s26 0 17) + (n1 : Int))) r32
                  refine z_goto hC (pc := 146) 158 dX14_sign_146 (by decide) ?_
                  exact y_retv hR dX14_sign_158 W33 (Nat.le_of_ble_eq_true rfl) (Nat.le_of_ble_eq_true rfl) ⟨(rKeep.tr (rKeep.tr rKeep.rf kJ rfl rfl rfl rfl rfl) (rKeep.sF0 (f := 17)) rfl rfl rfl rfl rfl), h⟩
              · have h := hF c
                refine z_iload_n hC (pc := 94) 2 dX14_sign_94 rfl rfl ?_
                obtain ⟨hT, hF⟩ := h
                refine y_if_eq hC (pc := 95) 129 hy27 dX14_sign_95 (by decide) (fun c => ?_) (fun c => ?_)
                · have h := hT c
                  refine z_iload_n hC (pc := 129) 2 dX14_sign_129 rfl rfl ?_
                  obtain ⟨hT, hF⟩ := h
                  refine y_if_eq hC (pc := 130) 149 hy27 dX14_sign_130 (by decide) (fun c => ?_) (fun c => ?_)
                  · have h := hT c
                    refine z_aload_n hC (pc := 149) 0 dX14_sign_149 rfl rfl ?_
                    refine z_iconst hC (pc := 150) (v := Int32.ofInt 1) dX14_sign_150 (by decide) ?_
                    refine z_aload_n hC (pc := 151) 0 dX14_sign_151 rfl rfl ?_
                    refine y_get hC (pc := 152) zf14 rOb_0 17 (v := iv (rF s26 0 17)) dX14_sign_152 zw2484 (rv_i (Or.inl rfl) rfl) (kk := ?_)
                    have h := h (Ws26.f _ _)
                    obtain ⟨p34, h⟩ := h
                    refine y_callVv hC (pc := 155) (As := [iv 1, iv (rF s26 0 17)]) (kX14_bad l G κ s26 1 (rF s26 0 17) Ws26 (r_lit rfl) (Ws26.f _ _) p34) dmX14_bad zf14 rOb_0 dX14_sign_155 zw3000 rfl rfl (Nat.le_of_ble_eq_true rfl) (Nat.le_of_ble_eq_true rfl) (Nat.le_of_ble_eq_true rfl) (Nat.le_of_ble_eq_true rfl) (Nat.le_of_ble_eq_true rfl) (kk := fun s35 Ws35 qs35 => ?_)
                    have h := h s35 Ws35 (qs35.1.R rfl) (qs35.1.F rfl) (qs35.1.F rfl) qs35.2
                    exact y_retv hR dX14_sign_158 Ws35 (Nat.le_of_ble_eq_true rfl) (Nat.le_of_ble_eq_true rfl) ⟨(rKeep.tr (rKeep.tr rKeep.rf kJ rfl rfl rfl rfl rfl) qs35.1 rfl rfl rfl rfl rfl), h⟩
                  · have h := hF c
                    refine z_aload_n hC (pc := 133) 0 dX14_sign_133 rfl rfl ?_
                    refine z_dup hC (pc := 134) dX14_sign_134 rfl ?_
                    refine y_get hC (pc := 135) zf14 rOb_0 17 (v := iv (rF s26 0 17)) dX14_sign_135 zw2484 (rv_i (Or.inl rfl) rfl) (kk := ?_)
                    have h := h (Ws26.f _ _)
                    refine z_aload_n hC (pc := 138) 1 dX14_sign_138 rfl rfl ?_
                    refine y_slen hC (pc := 139) hs1 dX14_sign_139 zw3021 (Nat.le_of_ble_eq_true rfl) (Nat.le_of_ble_eq_true rfl) (Nat.le_of_ble_eq_true rfl) (Nat.le_of_ble_eq_true rfl) (Nat.le_of_ble_eq_true rfl) ?_
                    refine y_iadd hC (pc := 142) (v := ((rF s26 0 17) + (n1 : Int))) dX14_sign_142 rfl ?_
                    obtain ⟨r37, h⟩ := h
                    refine y_putI hC (pc := 143) zf14 rOb_0 17 (x := ((rF s26 0 17) + (n1 : Int))) dX14_sign_143 zw2484 (Or.inl rfl) rfl rfl (kk := ?_)
                    have W38 := Ws26.sF (q := 0) (f := 17) (x := ((rF s26 0 17) + (n1 : Int))) r37
                    refine z_goto hC (pc := 146) 158 dX14_sign_146 (by decide) ?_
                    exact y_retv hR dX14_sign_158 W38 (Nat.le_of_ble_eq_true rfl) (Nat.le_of_ble_eq_true rfl) ⟨(rKeep.tr (rKeep.tr rKeep.rf kJ rfl rfl rfl rfl rfl) (rKeep.sF0 (f := 17)) rfl rfl rfl rfl rfl), h⟩
                · have h := hF c
                  refine z_aload_n hC (pc := 98) 0 dX14_sign_98 rfl rfl ?_
                  obtain ⟨g39, h⟩ := h
                  refine y_get hC (pc := 99) zf14 rOb_0 15 (v := .ref (κ (rR s26 15))) dX14_sign_99 zw2482 (rv_b rfl rfl g39) (kk := ?_)
                  refine z_aload_n hC (pc := 102) 0 dX14_sign_102 rfl rfl ?_
                  refine y_get hC (pc := 103) zf14 rOb_0 17 (v := iv (rF s26 0 17)) dX14_sign_103 zw2484 (rv_i (Or.inl rfl) rfl) (kk := ?_)
                  have h := h (Ws26.f _ _)
                  refine z_iload_n hC (pc := 106) 3 dX14_sign_106 rfl rfl ?_
                  refine y_iadd hC (pc := 107) (v := ((rF s26 0 17) + y28)) dX14_sign_107 rfl ?_
                  obtain ⟨b40, h⟩ := h
                  refine y_bald hC (pc := 108) (rAr_f g39) dX14_sign_108 b40 (v := (rA s26 (rR s26 15) ((rF s26 0 17) + y28))) rfl (kk := ?_)
                  have h := h (Ws26.a _ _)
                  refine z_aload_n hC (pc := 109) 1 dX14_sign_109 rfl rfl ?_
                  refine z_iload_n hC (pc := 110) 3 dX14_sign_110 rfl rfl ?_
                  obtain ⟨b41, h⟩ := h
                  refine y_char hC (pc := 111) (i := y28) hs1 b41 dX14_sign_111 zw3022 (Nat.le_of_ble_eq_true rfl) (Nat.le_of_ble_eq_true rfl) (Nat.le_of_ble_eq_true rfl) (Nat.le_of_ble_eq_true rfl) (Nat.le_of_ble_eq_true rfl) (fun x42 hx42 => ?_)
                  have h := h x42 hx42
                  obtain ⟨hT, hF⟩ := h
                  refine y_icmp_ne hC (pc := 114) 121 (Ws26.a _ _) (r_255 hx42) dX14_sign_114 (by decide) (fun c => ?_) (fun c => ?_)
                  · have h := hT c
                    refine z_iconst hC (pc := 121) (v := Int32.ofInt 0) dX14_sign_121 (by decide) ?_
                    refine z_istore_n hC (pc := 122) (lv' := [(2, iv 0), (0, .ref (κ 0)), (1, .ref t1), (3, iv y28)]) dX14_sign_122 rfl (by decide) rfl ?_
                    refine y_iinc hC (pc := 123) (v := (y28 + 1)) (lv' := [(3, iv (y28 + 1)), (2, iv 0), (0, .ref (κ 0)), (1, .ref t1)]) 3 dX14_sign_123 rfl rfl (by decide) rfl ?_
                    refine z_goto hC (pc := 126) 86 dX14_sign_126 (by decide) ?_
                    refine z_lvs [2, 3, 1, 0] rfl ?_
                    obtain ⟨r43, h⟩ := h
                    obtain ⟨hI, hm⟩ := h
                    exact ih86 s26 0 (y28 + 1) Ws26 (r_lit rfl) r43 (rKeep.tr rKeep.rf kJ rfl rfl rfl rfl rfl) hI (by omega)
                  · have h := hF c
                    refine z_iconst hC (pc := 117) (v := Int32.ofInt 1) dX14_sign_117 (by decide) ?_
                    refine z_goto hC (pc := 118) 122 dX14_sign_118 (by decide) ?_
                    refine z_istore_n hC (pc := 122) (lv' := [(2, iv 1), (0, .ref (κ 0)), (1, .ref t1), (3, iv y28)]) dX14_sign_122 rfl (by decide) rfl ?_
                    refine y_iinc hC (pc := 123) (v := (y28 + 1)) (lv' := [(3, iv (y28 + 1)), (2, iv 1), (0, .ref (κ 0)), (1, .ref t1)]) 3 dX14_sign_123 rfl rfl (by decide) rfl ?_
                    refine z_goto hC (pc := 126) 86 dX14_sign_126 (by decide) ?_
                    refine z_lvs [2, 3, 1, 0] rfl ?_
                    obtain ⟨r44, h⟩ := h
                    obtain ⟨hI, hm⟩ := h
                    exact ih86 s26 1 (y28 + 1) Ws26 (r_lit rfl) r44 (rKeep.tr rKeep.rf kJ rfl rfl rfl rfl rfl) hI (by omega)
          refine z_lvs [2, 3, 1, 0] rfl ?_
          exact j86 _ s2 0 0 Ws2 (r_lit rfl) (r_lit rfl) (rKeep.tr rKeep.rf qs2.1 rfl rfl rfl rfl rfl) h (Nat.le_refl _)
        · have h := hF c
          refine z_aload_n hC (pc := 52) 1 dX14_sign_52 rfl rfl ?_
          refine z_aload_n hC (pc := 53) 1 dX14_sign_53 rfl rfl ?_
          refine y_get hC (pc := 54) zf14 rOb_0 17 (v := iv (rF s2 0 17)) dX14_sign_54 zw2484 (rv_i (Or.inl rfl) rfl) (kk := ?_)
          refine z_iconst hC (pc := 57) (v := Int32.ofInt 1) dX14_sign_57 (by decide) ?_
          refine y_iadd hC (pc := 58) (v := ((rF s2 0 17) + 1)) dX14_sign_58 rfl ?_
          obtain ⟨r45, h⟩ := h
          obtain ⟨p46, h⟩ := h
          refine y_callVi hC (pc := 59) (As := [iv ((rF s2 0 17) + 1)]) (kX14_fc l G κ s2 ((rF s2 0 17) + 1) Ws2 r45 p46) dmX14_fc zf14 rOb_0 dX14_sign_59 zw2993 rfl rfl (Nat.le_of_ble_eq_true rfl) (Nat.le_of_ble_eq_true rfl) (Nat.le_of_ble_eq_true rfl) (Nat.le_of_ble_eq_true rfl) (Nat.le_of_ble_eq_true rfl) (kk := fun x48 s47 hx48 Ws47 qs47 => ?_)
          obtain ⟨es47, qs47⟩ := qs47
          have es47 := es47.symm
          subst es47
          have h := h x48 hx48 qs47
          refine z_bipush hC (pc := 62) (v := Int32.ofInt 58) dX14_sign_62 (by decide) ?_
          obtain ⟨hT, hF⟩ := h
          refine y_icmp_ne hC (pc := 64) 84 hx48 (r_lit rfl) dX14_sign_64 (by decide) (fun c => ?_) (fun c => ?_)
          · have h := hT c
            refine z_iconst hC (pc := 84) (v := Int32.ofInt 0) dX14_sign_84 (by decide) ?_
            refine z_istore_n hC (pc := 85) (lv' := [(3, iv 0), (2, iv 0), (0, .ref (κ 0)), (1, .ref t1)]) dX14_sign_85 rfl (by decide) rfl ?_
            have j86 : ∀ (d86 : Nat), ∀ (s49 : rS) (y50 : Int) (y51 : Int), rWF s49 → rng y50 → rng y51 → rKeep 0x21c00 0 0 0 0 σ s49 → inv_X14_sign_86 σ n1 s49 y50 y51 → (mu_X14_sign_86 σ n1 s49 y50 y51) ≤ d86 → zS X G 4 (rW G κ s49) [(0, .ref (κ 0)), (1, .ref t1), (2, iv y50), (3, iv y51)] 0 0 86 [] := by
              intro d86
              induction d86 with
              | zero =>
                intro s49 y50 y51 Ws49 hy50 hy51 kJ hI hmu
                exact absurd hmu (by have := h_86m  s49 y50 y51 Ws49 hy50 hy51 (kJ.R rfl) (kJ.F rfl) hI; omega)
              | succ d86 ih86 =>
                intro s49 y50 y51 Ws49 hy50 hy51 kJ hI hmu86
                have h := h_86  s49 y50 y51 Ws49 hy50 hy51 (kJ.R rfl) (kJ.F rfl) hI
                refine z_iload_n hC (pc := 86) 3 dX14_sign_86 rfl rfl ?_
                refine z_aload_n hC (pc := 87) 1 dX14_sign_87 rfl rfl ?_
                refine y_slen hC (pc := 88) hs1 dX14_sign_88 zw3021 (Nat.le_of_ble_eq_true rfl) (Nat.le_of_ble_eq_true rfl) (Nat.le_of_ble_eq_true rfl) (Nat.le_of_ble_eq_true rfl) (Nat.le_of_ble_eq_true rfl) ?_
                obtain ⟨hT, hF⟩ := h
                refine y_icmp_ge hC (pc := 91) 129 hy51 (rSt.rng hs1) dX14_sign_91 (by decide) (fun c => ?_) (fun c => ?_)
                · have h := hT c
                  refine z_iload_n hC (pc := 129) 2 dX14_sign_129 rfl rfl ?_
                  obtain ⟨hT, hF⟩ := h
                  refine y_if_eq hC (pc := 130) 149 hy50 dX14_sign_130 (by decide) (fun c => ?_) (fun c => ?_)
                  · have h := hT c
                    refine z_aload_n hC (pc := 149) 0 dX14_sign_149 rfl rfl ?_
                    refine z_iconst hC (pc := 150) (v := Int32.ofInt 1) dX14_sign_150 (by decide) ?_
                    refine z_aload_n hC (pc := 151) 0 dX14_sign_151 rfl rfl ?_
                    refine y_get hC (pc := 152) zf14 rOb_0 17 (v := iv (rF s49 0 17)) dX14_sign_152 zw2484 (rv_i (Or.inl rfl) rfl) (kk := ?_)
                    have h := h (Ws49.f _ _)
                    obtain ⟨p52, h⟩ := h
                    refine y_callVv hC (pc := 155) (As := [iv 1, iv (rF s49 0 17)]) (kX14_bad l G κ s49 1 (rF s49 0 17) Ws49 (r_lit rfl) (Ws49.f _ _) p52) dmX14_bad zf14 rOb_0 dX14_sign_155 zw3000 rfl rfl (Nat.le_of_ble_eq_true rfl) (Nat.le_of_ble_eq_true rfl) (Nat.le_of_ble_eq_true rfl) (Nat.le_of_ble_eq_true rfl) (Nat.le_of_ble_eq_true rfl) (kk := fun s53 Ws53 qs53 => ?_)
                    have h := h s53 Ws53 (qs53.1.R rfl) (qs53.1.F rfl) (qs53.1.F rfl) qs53.2
                    exact y_retv hR dX14_sign_158 Ws53 (Nat.le_of_ble_eq_true rfl) (Nat.le_of_ble_eq_true rfl) ⟨(rKeep.tr (rKeep.tr rKeep.rf kJ rfl rfl rfl rfl rfl) qs53.1 rfl rfl rfl rfl rfl), h⟩
                  · have h := hF c
                    refine z_aload_n hC (pc := 133) 0 dX14_sign_133 rfl rfl ?_
                    refine z_dup hC (pc := 134) dX14_sign_134 rfl ?_
                    refine y_get hC (pc := 135) zf14 rOb_0 17 (v := iv (rF s49 0 17)) dX14_sign_135 zw2484 (rv_i (Or.inl rfl) rfl) (kk := ?_)
                    have h := h (Ws49.f _ _)
                    refine z_aload_n hC (pc := 138) 1 dX14_sign_138 rfl rfl ?_
                    refine y_slen hC (pc := 139) hs1 dX14_sign_139 zw3021 (Nat.le_of_ble_eq_true rfl) (Nat.le_of_ble_eq_true rfl) (Nat.le_of_ble_eq_true rfl) (Nat.le_of_ble_eq_true rfl) (Nat.le_of_ble_eq_true rfl) ?_
                    refine y_iadd hC (pc := 142) (v := ((rF s49 0 17) + (n1 : Int))) dX14_sign_142 rfl ?_
                    obtain ⟨r55, h⟩ := h
                    refine y_putI hC (pc := 143) zf14 rOb_0 17 (x := ((rF s49 0 17) + (n1 : Int))) dX14_sign_143 zw2484 (Or.inl rfl) rfl rfl (kk := ?_)
                    have W56 := Ws49.sF (q := 0) (f := 17) (x := ((rF s49 0 17) + (n1 : Int))) r55
                    refine z_goto hC (pc := 146) 158 dX14_sign_146 (by decide) ?_
                    exact y_retv hR dX14_sign_158 W56 (Nat.le_of_ble_eq_true rfl) (Nat.le_of_ble_eq_true rfl) ⟨(rKeep.tr (rKeep.tr rKeep.rf kJ rfl rfl rfl rfl rfl) (rKeep.sF0 (f := 17)) rfl rfl rfl rfl rfl), h⟩
                · have h := hF c
                  refine z_iload_n hC (pc := 94) 2 dX14_sign_94 rfl rfl ?_
                  obtain ⟨hT, hF⟩ := h
                  refine y_if_eq hC (pc := 95) 129 hy50 dX14_sign_95 (by decide) (fun c => ?_) (fun c => ?_)
                  · have h := hT c
                    refine z_iload_n hC (pc := 129) 2 dX14_sign_129 rfl rfl ?_
                    obtain ⟨hT, hF⟩ := h
                    refine y_if_eq hC (pc := 130) 149 hy50 dX14_sign_130 (by decide) (fun c => ?_) (fun c => ?_)
                    · have h := hT c
                      refine z_aload_n hC (pc := 149) 0 dX14_sign_149 rfl rfl ?_
                      refine z_iconst hC (pc := 150) (v := Int32.ofInt 1) dX14_sign_150 (by decide) ?_
                      refine z_aload_n hC (pc := 151) 0 dX14_sign_151 rfl rfl ?_
                      refine y_get hC (pc := 152) zf14 rOb_0 17 (v := iv (rF s49 0 17)) dX14_sign_152 zw2484 (rv_i (Or.inl rfl) rfl) (kk := ?_)
                      have h := h (Ws49.f _ _)
                      obtain ⟨p57, h⟩ := h
                      refine y_callVv hC (pc := 155) (As := [iv 1, iv (rF s49 0 17)]) (kX14_bad l G κ s49 1 (rF s49 0 17) Ws49 (r_lit rfl) (Ws49.f _ _) p57) dmX14_bad zf14 rOb_0 dX14_sign_155 zw3000 rfl rfl (Nat.le_of_ble_eq_true rfl) (Nat.le_of_ble_eq_true rfl) (Nat.le_of_ble_eq_true rfl) (Nat.le_of_ble_eq_true rfl) (Nat.le_of_ble_eq_true rfl) (kk := fun s58 Ws58 qs58 => ?_)
                      have h := h s58 Ws58 (qs58.1.R rfl) (qs58.1.F rfl) (qs58.1.F rfl) qs58.2
                      exact y_retv hR dX14_sign_158 Ws58 (Nat.le_of_ble_eq_true rfl) (Nat.le_of_ble_eq_true rfl) ⟨(rKeep.tr (rKeep.tr rKeep.rf kJ rfl rfl rfl rfl rfl) qs58.1 rfl rfl rfl rfl rfl), h⟩
                    · have h := hF c
                      refine z_aload_n hC (pc := 133) 0 dX14_sign_133 rfl rfl ?_
                      refine z_dup hC (pc := 134) dX14_sign_134 rfl ?_
                      refine y_get hC (pc := 135) zf14 rOb_0 17 (v := iv (rF s49 0 17)) dX14_sign_135 zw2484 (rv_i (Or.inl rfl) rfl) (kk := ?_)
                      have h := h (Ws49.f _ _)
                      refine z_aload_n hC (pc := 138) 1 dX14_sign_138 rfl rfl ?_
                      refine y_slen hC (pc := 139) hs1 dX14_sign_139 zw3021 (Nat.le_of_ble_eq_true rfl) (Nat.le_of_ble_eq_true rfl) (Nat.le_of_ble_eq_true rfl) (Nat.le_of_ble_eq_true rfl) (Nat.le_of_ble_eq_true rfl) ?_
                      refine y_iadd hC (pc := 142) (v := ((rF s49 0 17) + (n1 : Int))) dX14_sign_142 rfl ?_
                      obtain ⟨r60, h⟩ := h
                      refine y_putI hC (pc := 143) zf14 rOb_0 17 (x := ((rF s49 0 17) + (n1 : Int))) dX14_sign_143 zw2484 (Or.inl rfl) rfl rfl (kk := ?_)
                      have W61 := Ws49.sF (q := 0) (f := 17) (x := ((rF s49 0 17) + (n1 : Int))) r60
                      refine z_goto hC (pc := 146) 158 dX14_sign_146 (by decide) ?_
                      exact y_retv hR dX14_sign_158 W61 (Nat.le_of_ble_eq_true rfl) (Nat.le_of_ble_eq_true rfl) ⟨(rKeep.tr (rKeep.tr rKeep.rf kJ rfl rfl rfl rfl rfl) (rKeep.sF0 (f := 17)) rfl rfl rfl rfl rfl), h⟩
                  · have h := hF c
                    refine z_aload_n hC (pc := 98) 0 dX14_sign_98 rfl rfl ?_
                    obtain ⟨g62, h⟩ := h
                    refine y_get hC (pc := 99) zf14 rOb_0 15 (v := .ref (κ (rR s49 15))) dX14_sign_99 zw2482 (rv_b rfl rfl g62) (kk := ?_)
                    refine z_aload_n hC (pc := 102) 0 dX14_sign_102 rfl rfl ?_
                    refine y_get hC (pc := 103) zf14 rOb_0 17 (v := iv (rF s49 0 17)) dX14_sign_103 zw2484 (rv_i (Or.inl rfl) rfl) (kk := ?_)
                    have h := h (Ws49.f _ _)
                    refine z_iload_n hC (pc := 106) 3 dX14_sign_106 rfl rfl ?_
                    refine y_iadd hC (pc := 107) (v := ((rF s49 0 17) + y51)) dX14_sign_107 rfl ?_
                    obtain ⟨b63, h⟩ := h
                    refine y_bald hC (pc := 108) (rAr_f g62) dX14_sign_108 b63 (v := (rA s49 (rR s49 15) ((rF s49 0 17) + y51))) rfl (kk := ?_)
                    have h := h (Ws49.a _ _)
                    refine z_aload_n hC (pc := 109) 1 dX14_sign_109 rfl rfl ?_
                    refine z_iload_n hC (pc := 110) 3 dX14_sign_110 rfl rfl ?_
                    obtain ⟨b64, h⟩ := h
                    refine y_char hC (pc := 111) (i := y51) hs1 b64 dX14_sign_111 zw3022 (Nat.le_of_ble_eq_true rfl) (Nat.le_of_ble_eq_true rfl) (Nat.le_of_ble_eq_true rfl) (Nat.le_of_ble_eq_true rfl) (Nat.le_of_ble_eq_true rfl) (fun x65 hx65 => ?_)
                    have h := h x65 hx65
                    obtain ⟨hT, hF⟩ := h
                    refine y_icmp_ne hC (pc := 114) 121 (Ws49.a _ _) (r_255 hx65) dX14_sign_114 (by decide) (fun c => ?_) (fun c => ?_)
                    · have h := hT c
                      refine z_iconst hC (pc := 121) (v := Int32.ofInt 0) dX14_sign_121 (by decide) ?_
                      refine z_istore_n hC (pc := 122) (lv' := [(2, iv 0), (0, .ref (κ 0)), (1, .ref t1), (3, iv y51)]) dX14_sign_122 rfl (by decide) rfl ?_
                      refine y_iinc hC (pc := 123) (v := (y51 + 1)) (lv' := [(3, iv (y51 + 1)), (2, iv 0), (0, .ref (κ 0)), (1, .ref t1)]) 3 dX14_sign_123 rfl rfl (by decide) rfl ?_
                      refine z_goto hC (pc := 126) 86 dX14_sign_126 (by decide) ?_
                      refine z_lvs [2, 3, 1, 0] rfl ?_
                      obtain ⟨r66, h⟩ := h
                      obtain ⟨hI, hm⟩ := h
                      exact ih86 s49 0 (y51 + 1) Ws49 (r_lit rfl) r66 (rKeep.tr rKeep.rf kJ rfl rfl rfl rfl rfl) hI (by omega)
                    · have h := hF c
                      refine z_iconst hC (pc := 117) (v := Int32.ofInt 1) dX14_sign_117 (by decide) ?_
                      refine z_goto hC (pc := 118) 122 dX14_sign_118 (by decide) ?_
                      refine z_istore_n hC (pc := 122) (lv' := [(2, iv 1), (0, .ref (κ 0)), (1, .ref t1), (3, iv y51)]) dX14_sign_122 rfl (by decide) rfl ?_
                      refine y_iinc hC (pc := 123) (v := (y51 + 1)) (lv' := [(3, iv (y51 + 1)), (2, iv 1), (0, .ref (κ 0)), (1, .ref t1)]) 3 dX14_sign_123 rfl rfl (by decide) rfl ?_
                      refine z_goto hC (pc := 126) 86 dX14_sign_126 (by decide) ?_
                      refine z_lvs [2, 3, 1, 0] rfl ?_
                      obtain ⟨r67, h⟩ := h
                      obtain ⟨hI, hm⟩ := h
                      exact ih86 s49 1 (y51 + 1) Ws49 (r_lit rfl) r67 (rKeep.tr rKeep.rf kJ rfl rfl rfl rfl rfl) hI (by omega)
            refine z_lvs [2, 3, 1, 0] rfl ?_
            exact j86 _ s2 0 0 Ws2 (r_lit rfl) (r_lit rfl) (rKeep.tr rKeep.rf qs2.1 rfl rfl rfl rfl rfl) h (Nat.le_refl _)
          · have h := hF c
            refine z_aload_n hC (pc := 67) 1 dX14_sign_67 rfl rfl ?_
            refine z_aload_n hC (pc := 68) 1 dX14_sign_68 rfl rfl ?_
            refine y_get hC (pc := 69) zf14 rOb_0 17 (v := iv (rF s2 0 17)) dX14_sign_69 zw2484 (rv_i (Or.inl rfl) rfl) (kk := ?_)
            refine z_iconst hC (pc := 72) (v := Int32.ofInt 2) dX14_sign_72 (by decide) ?_
            refine y_iadd hC (pc := 73) (v := ((rF s2 0 17) + 2)) dX14_sign_73 rfl ?_
            obtain ⟨r68, h⟩ := h
            obtain ⟨p69, h⟩ := h
            refine y_callVi hC (pc := 74) (As := [iv ((rF s2 0 17) + 2)]) (kX14_fc l G κ s2 ((rF s2 0 17) + 2) Ws2 r68 p69) dmX14_fc zf14 rOb_0 dX14_sign_74 zw2993 rfl rfl (Nat.le_of_ble_eq_true rfl) (Nat.le_of_ble_eq_true rfl) (Nat.le_of_ble_eq_true rfl) (Nat.le_of_ble_eq_true rfl) (Nat.le_of_ble_eq_true rfl) (kk := fun x71 s70 hx71 Ws70 qs70 => ?_)
            obtain ⟨es70, qs70⟩ := qs70
            have es70 := es70.symm
            subst es70
            have h := h x71 hx71 qs70
            refine z_bipush hC (pc := 77) (v := Int32.ofInt 61) dX14_sign_77 (by decide) ?_
            obtain ⟨hT, hF⟩ := h
            refine y_icmp_ne hC (pc := 79) 84 hx71 (r_lit rfl) dX14_sign_79 (by decide) (fun c => ?_) (fun c => ?_)
            · have h := hT c
              refine z_iconst hC (pc := 84) (v := Int32.ofInt 0) dX14_sign_84 (by decide) ?_
              refine z_istore_n hC (pc := 85) (lv' := [(3, iv 0), (2, iv 0), (0, .ref (κ 0)), (1, .ref t1)]) dX14_sign_85 rfl (by decide) rfl ?_
              have j86 : ∀ (d86 : Nat), ∀ (s72 : rS) (y73 : Int) (y74 : Int), rWF s72 → rng y73 → rng y74 → rKeep 0x21c00 0 0 0 0 σ s72 → inv_X14_sign_86 σ n1 s72 y73 y74 → (mu_X14_sign_86 σ n1 s72 y73 y74) ≤ d86 → zS X G 4 (rW G κ s72) [(0, .ref (κ 0)), (1, .ref t1), (2, iv y73), (3, iv y74)] 0 0 86 [] := by
                intro d86
                induction d86 with
                | zero =>
                  intro s72 y73 y74 Ws72 hy73 hy74 kJ hI hmu
                  exact absurd hmu (by have := h_86m  s72 y73 y74 Ws72 hy73 hy74 (kJ.R rfl) (kJ.F rfl) hI; omega)
                | succ d86 ih86 =>
                  intro s72 y73 y74 Ws72 hy73 hy74 kJ hI hmu86
                  have h := h_86  s72 y73 y74 Ws72 hy73 hy74 (kJ.R rfl) (kJ.F rfl) hI
                  refine z_iload_n hC (pc := 86) 3 dX14_sign_86 rfl rfl ?_
                  refine z_aload_n hC (pc := 87) 1 dX14_sign_87 rfl rfl ?_
                  refine y_slen hC (pc := 88) hs1 dX14_sign_88 zw3021 (Nat.le_of_ble_eq_true rfl) (Nat.le_of_ble_eq_true rfl) (Nat.le_of_ble_eq_true rfl) (Nat.le_of_ble_eq_true rfl) (Nat.le_of_ble_eq_true rfl) ?_
                  obtain ⟨hT, hF⟩ := h
                  refine y_icmp_ge hC (pc := 91) 129 hy74 (rSt.rng hs1) dX14_sign_91 (by decide) (fun c => ?_) (fun c => ?_)
                  · have h := hT c
                    refine z_iload_n hC (pc := 129) 2 dX14_sign_129 rfl rfl ?_
                    obtain ⟨hT, hF⟩ := h
                    refine y_if_eq hC (pc := 130) 149 hy73 dX14_sign_130 (by decide) (fun c => ?_) (fun c => ?_)
                    · have h := hT c
                      refine z_aload_n hC (pc := 149) 0 dX14_sign_149 rfl rfl ?_
                      refine z_iconst hC (pc := 150) (v := Int32.ofInt 1) dX14_sign_150 (by decide) ?_
                      refine z_aload_n hC (pc := 151) 0 dX14_sign_151 rfl rfl ?_
                      refine y_get hC (pc := 152) zf14 rOb_0 17 (v := iv (rF s72 0 17)) dX14_sign_152 zw2484 (rv_i (Or.inl rfl) rfl) (kk := ?_)
                      have h := h (Ws72.f _ _)
                      obtain ⟨p75, h⟩ := h
                      refine y_callVv hC (pc := 155) (As := [iv 1, iv (rF s72 0 17)]) (kX14_bad l G κ s72 1 (rF s72 0 17) Ws72 (r_lit rfl) (Ws72.f _ _) p75) dmX14_bad zf14 rOb_0 dX14_sign_155 zw3000 rfl rfl (Nat.le_of_ble_eq_true rfl) (Nat.le_of_ble_eq_true rfl) (Nat.le_of_ble_eq_true rfl) (Nat.le_of_ble_eq_true rfl) (Nat.le_of_ble_eq_true rfl) (kk := fun s76 Ws76 qs76 => ?_)
                      have h := h s76 Ws76 (qs76.1.R rfl) (qs76.1.F rfl) (qs76.1.F rfl) qs76.2
                      exact y_retv hR dX14_sign_158 Ws76 (Nat.le_of_ble_eq_true rfl) (Nat.le_of_ble_eq_true rfl) ⟨(rKeep.tr (rKeep.tr rKeep.rf kJ rfl rfl rfl rfl rfl) qs76.1 rfl rfl rfl rfl rfl), h⟩
                    · have h := hF c
                      refine z_aload_n hC (pc := 133) 0 dX14_sign_133 rfl rfl ?_
                      refine z_dup hC (pc := 134) dX14_sign_134 rfl ?_
                      refine y_get hC (pc := 135) zf14 rOb_0 17 (v := iv (rF s72 0 17)) dX14_sign_135 zw2484 (rv_i (Or.inl rfl) rfl) (kk := ?_)
                      have h := h (Ws72.f _ _)
                      refine z_aload_n hC (pc := 138) 1 dX14_sign_138 rfl rfl ?_
                      refine y_slen hC (pc := 139) hs1 dX14_sign_139 zw3021 (Nat.le_of_ble_eq_true rfl) (Nat.le_of_ble_eq_true rfl) (Nat.le_of_ble_eq_true rfl) (Nat.le_of_ble_eq_true rfl) (Nat.le_of_ble_eq_true rfl) ?_
                      refine y_iadd hC (pc := 142) (v := ((rF s72 0 17) + (n1 : Int))) dX14_sign_142 rfl ?_
                      obtain ⟨r78, h⟩ := h
                      refine y_putI hC (pc := 143) zf14 rOb_0 17 (x := ((rF s72 0 17) + (n1 : Int))) dX14_sign_143 zw2484 (Or.inl rfl) rfl rfl (kk := ?_)
                      have W79 := Ws72.sF (q := 0) (f := 17) (x := ((rF s72 0 17) + (n1 : Int))) r78
                      refine z_goto hC (pc := 146) 158 dX14_sign_146 (by decide) ?_
                      exact y_retv hR dX14_sign_158 W79 (Nat.le_of_ble_eq_true rfl) (Nat.le_of_ble_eq_true rfl) ⟨(rKeep.tr (rKeep.tr rKeep.rf kJ rfl rfl rfl rfl rfl) (rKeep.sF0 (f := 17)) rfl rfl rfl rfl rfl), h⟩
                  · have h := hF c
                    refine z_iload_n hC (pc := 94) 2 dX14_sign_94 rfl rfl ?_
                    obtain ⟨hT, hF⟩ := h
                    refine y_if_eq hC (pc := 95) 129 hy73 dX14_sign_95 (by decide) (fun c => ?_) (fun c => ?_)
                    · have h := hT c
                      refine z_iload_n hC (pc := 129) 2 dX14_sign_129 rfl rfl ?_
                      obtain ⟨hT, hF⟩ := h
                      refine y_if_eq hC (pc := 130) 149 hy73 dX14_sign_130 (by decide) (fun c => ?_) (fun c => ?_)
                      · have h := hT c
                        refine z_aload_n hC (pc := 149) 0 dX14_sign_149 rfl rfl ?_
                        refine z_iconst hC (pc := 150) (v := Int32.ofInt 1) dX14_sign_150 (by decide) ?_
                        refine z_aload_n hC (pc := 151) 0 dX14_sign_151 rfl rfl ?_
                        refine y_get hC (pc := 152) zf14 rOb_0 17 (v := iv (rF s72 0 17)) dX14_sign_152 zw2484 (rv_i (Or.inl rfl) rfl) (kk := ?_)
                        have h := h (Ws72.f _ _)
                        obtain ⟨p80, h⟩ := h
                        refine y_callVv hC (pc := 155) (As := [iv 1, iv (rF s72 0 17)]) (kX14_bad l G κ s72 1 (rF s72 0 17) Ws72 (r_lit rfl) (Ws72.f _ _) p80) dmX14_bad zf14 rOb_0 dX14_sign_155 zw3000 rfl rfl (Nat.le_of_ble_eq_true rfl) (Nat.le_of_ble_eq_true rfl) (Nat.le_of_ble_eq_true rfl) (Nat.le_of_ble_eq_true rfl) (Nat.le_of_ble_eq_true rfl) (kk := fun s81 Ws81 qs81 => ?_)
                        have h := h s81 Ws81 (qs81.1.R rfl) (qs81.1.F rfl) (qs81.1.F rfl) qs81.2
                        exact y_retv hR dX14_sign_158 Ws81 (Nat.le_of_ble_eq_true rfl) (Nat.le_of_ble_eq_true rfl) ⟨(rKeep.tr (rKeep.tr rKeep.rf kJ rfl rfl rfl rfl rfl) qs81.1 rfl rfl rfl rfl rfl), h⟩
                      · have h := hF c
                        refine z_aload_n hC (pc := 133) 0 dX14_sign_133 rfl rfl ?_
                        refine z_dup hC (pc := 134) dX14_sign_134 rfl ?_
                        refine y_get hC (pc := 135) zf14 rOb_0 17 (v := iv (rF s72 0 17)) dX14_sign_135 zw2484 (rv_i (Or.inl rfl) rfl) (kk := ?_)
                        have h := h (Ws72.f _ _)
                        refine z_aload_n hC (pc := 138) 1 dX14_sign_138 rfl rfl ?_
                        refine y_slen hC (pc := 139) hs1 dX14_sign_139 zw3021 (Nat.le_of_ble_eq_true rfl) (Nat.le_of_ble_eq_true rfl) (Nat.le_of_ble_eq_true rfl) (Nat.le_of_ble_eq_true rfl) (Nat.le_of_ble_eq_true rfl) ?_
                        refine y_iadd hC (pc := 142) (v := ((rF s72 0 17) + (n1 : Int))) dX14_sign_142 rfl ?_
                        obtain ⟨r83, h⟩ := h
                        refine y_putI hC (pc := 143) zf14 rOb_0 17 (x := ((rF s72 0 17) + (n1 : Int))) dX14_sign_143 zw2484 (Or.inl rfl) rfl rfl (kk := ?_)
                        have W84 := Ws72.sF (q := 0) (f := 17) (x := ((rF s72 0 17) + (n1 : Int))) r83
                        refine z_goto hC (pc := 146) 158 dX14_sign_146 (by decide) ?_
                        exact y_retv hR dX14_sign_158 W84 (Nat.le_of_ble_eq_true rfl) (Nat.le_of_ble_eq_true rfl) ⟨(rKeep.tr (rKeep.tr rKeep.rf kJ rfl rfl rfl rfl rfl) (rKeep.sF0 (f := 17)) rfl rfl rfl rfl rfl), h⟩
                    · have h := hF c
                      refine z_aload_n hC (pc := 98) 0 dX14_sign_98 rfl rfl ?_
                      obtain ⟨g85, h⟩ := h
                      refine y_get hC (pc := 99) zf14 rOb_0 15 (v := .ref (κ (rR s72 15))) dX14_sign_99 zw2482 (rv_b rfl rfl g85) (kk := ?_)
                      refine z_aload_n hC (pc := 102) 0 dX14_sign_102 rfl rfl ?_
                      refine y_get hC (pc := 103) zf14 rOb_0 17 (v := iv (rF s72 0 17)) dX14_sign_103 zw2484 (rv_i (Or.inl rfl) rfl) (kk := ?_)
                      have h := h (Ws72.f _ _)
                      refine z_iload_n hC (pc := 106) 3 dX14_sign_106 rfl rfl ?_
                      refine y_iadd hC (pc := 107) (v := ((rF s72 0 17) + y74)) dX14_sign_107 rfl ?_
                      obtain ⟨b86, h⟩ := h
                      refine y_bald hC (pc := 108) (rAr_f g85) dX14_sign_108 b86 (v := (rA s72 (rR s72 15) ((rF s72 0 17) + y74))) rfl (kk := ?_)
                      have h := h (Ws72.a _ _)
                      refine z_aload_n hC (pc := 109) 1 dX14_sign_109 rfl rfl ?_
                      refine z_iload_n hC (pc := 110) 3 dX14_sign_110 rfl rfl ?_
                      obtain ⟨b87, h⟩ := h
                      refine y_char hC (pc := 111) (i := y74) hs1 b87 dX14_sign_111 zw3022 (Nat.le_of_ble_eq_true rfl) (Nat.le_of_ble_eq_true rfl) (Nat.le_of_ble_eq_true rfl) (Nat.le_of_ble_eq_true rfl) (Nat.le_of_ble_eq_true rfl) (fun x88 hx88 => ?_)
                      have h := h x88 hx88
                      obtain ⟨hT, hF⟩ := h
                      refine y_icmp_ne hC (pc := 114) 121 (Ws72.a _ _) (r_255 hx88) dX14_sign_114 (by decide) (fun c => ?_) (fun c => ?_)
                      · have h := hT c
                        refine z_iconst hC (pc := 121) (v := Int32.ofInt 0) dX14_sign_121 (by decide) ?_
                        refine z_istore_n hC (pc := 122) (lv' := [(2, iv 0), (0, .ref (κ 0)), (1, .ref t1), (3, iv y74)]) dX14_sign_122 rfl (by decide) rfl ?_
                        refine y_iinc hC (pc := 123) (v := (y74 + 1)) (lv' := [(3, iv (y74 + 1)), (2, iv 0), (0, .ref (κ 0)), (1, .ref t1)]) 3 dX14_sign_123 rfl rfl (by decide) rfl ?_
                        refine z_goto hC (pc := 126) 86 dX14_sign_126 (by decide) ?_
                        refine z_lvs [2, 3, 1, 0] rfl ?_
                        obtain ⟨r89, h⟩ := h
                        obtain ⟨hI, hm⟩ := h
                        exact ih86 s72 0 (y74 + 1) Ws72 (r_lit rfl) r89 (rKeep.tr rKeep.rf kJ rfl rfl rfl rfl rfl) hI (by omega)
                      · have h := hF c
                        refine z_iconst hC (pc := 117) (v := Int32.ofInt 1) dX14_sign_117 (by decide) ?_
                        refine z_goto hC (pc := 118) 122 dX14_sign_118 (by decide) ?_
                        refine z_istore_n hC (pc := 122) (lv' := [(2, iv 1), (0, .ref (κ 0)), (1, .ref t1), (3, iv y74)]) dX14_sign_122 rfl (by decide) rfl ?_
                        refine y_iinc hC (pc := 123) (v := (y74 + 1)) (lv' := [(3, iv (y74 + 1)), (2, iv 1), (0, .ref (κ 0)), (1, .ref t1)]) 3 dX14_sign_123 rfl rfl (by decide) rfl ?_
                        refine z_goto hC (pc := 126) 86 dX14_sign_126 (by decide) ?_
                        refine z_lvs [2, 3, 1, 0] rfl ?_
                        obtain ⟨r90, h⟩ := h
                        obtain ⟨hI, hm⟩ := h
                        exact ih86 s72 1 (y74 + 1) Ws72 (r_lit rfl) r90 (rKeep.tr rKeep.rf kJ rfl rfl rfl rfl rfl) hI (by omega)
              refine z_lvs [2, 3, 1, 0] rfl ?_
              exact j86 _ s2 0 0 Ws2 (r_lit rfl) (r_lit rfl) (rKeep.tr rKeep.rf qs2.1 rfl rfl rfl rfl rfl) h (Nat.le_refl _)
            · have h := hF c
              refine z_iconst hC (pc := 82) (v := Int32.ofInt 0) dX14_sign_82 (by decide) ?_
              refine z_istore_n hC (pc := 83) (lv' := [(2, iv 0), (0, .ref (κ 0)), (1, .ref t1)]) dX14_sign_83 rfl (by decide) rfl ?_
              refine z_iconst hC (pc := 84) (v := Int32.ofInt 0) dX14_sign_84 (by decide) ?_
              refine z_istore_n hC (pc := 85) (lv' := [(3, iv 0), (2, iv 0), (0, .ref (κ 0)), (1, .ref t1)]) dX14_sign_85 rfl (by decide) rfl ?_
              have j86 : ∀ (d86 : Nat), ∀ (s91 : rS) (y92 : Int) (y93 : Int), rWF s91 → rng y92 → rng y93 → rKeep 0x21c00 0 0 0 0 σ s91 → inv_X14_sign_86 σ n1 s91 y92 y93 → (mu_X14_sign_86 σ n1 s91 y92 y93) ≤ d86 → zS X G 4 (rW G κ s91) [(0, .ref (κ 0)), (1, .ref t1), (2, iv y92), (3, iv y93)] 0 0 86 [] := by
                intro d86
                induction d86 with
                | zero =>
                  intro s91 y92 y93 Ws91 hy92 hy93 kJ hI hmu
                  exact absurd hmu (by have := h_86m  s91 y92 y93 Ws91 hy92 hy93 (kJ.R rfl) (kJ.F rfl) hI; omega)
                | succ d86 ih86 =>
                  intro s91 y92 y93 Ws91 hy92 hy93 kJ hI hmu86
                  have h := h_86  s91 y92 y93 Ws91 hy92 hy93 (kJ.R rfl) (kJ.F rfl) hI
                  refine z_iload_n hC (pc := 86) 3 dX14_sign_86 rfl rfl ?_
                  refine z_aload_n hC (pc := 87) 1 dX14_sign_87 rfl rfl ?_
                  refine y_slen hC (pc := 88) hs1 dX14_sign_88 zw3021 (Nat.le_of_ble_eq_true rfl) (Nat.le_of_ble_eq_true rfl) (Nat.le_of_ble_eq_true rfl) (Nat.le_of_ble_eq_true rfl) (Nat.le_of_ble_eq_true rfl) ?_
                  obtain ⟨hT, hF⟩ := h
                  refine y_icmp_ge hC (pc := 91) 129 hy93 (rSt.rng hs1) dX14_sign_91 (by decide) (fun c => ?_) (fun c => ?_)
                  · have h := hT c
                    refine z_iload_n hC (pc := 129) 2 dX14_sign_129 rfl rfl ?_
                    obtain ⟨hT, hF⟩ := h
                    refine y_if_eq hC (pc := 130) 149 hy92 dX14_sign_130 (by decide) (fun c => ?_) (fun c => ?_)
                    · have h := hT c
                      refine z_aload_n hC (pc := 149) 0 dX14_sign_149 rfl rfl ?_
                      refine z_iconst hC (pc := 150) (v := Int32.ofInt 1) dX14_sign_150 (by decide) ?_
                      refine z_aload_n hC (pc := 151) 0 dX14_sign_151 rfl rfl ?_
                      refine y_get hC (pc := 152) zf14 rOb_0 17 (v := iv (rF s91 0 17)) dX14_sign_152 zw2484 (rv_i (Or.inl rfl) rfl) (kk := ?_)
                      have h := h (Ws91.f _ _)
                      obtain ⟨p94, h⟩ := h
                      refine y_callVv hC (pc := 155) (As := [iv 1, iv (rF s91 0 17)]) (kX14_bad l G κ s91 1 (rF s91 0 17) Ws91 (r_lit rfl) (Ws91.f _ _) p94) dmX14_bad zf14 rOb_0 dX14_sign_155 zw3000 rfl rfl (Nat.le_of_ble_eq_true rfl) (Nat.le_of_ble_eq_true rfl) (Nat.le_of_ble_eq_true rfl) (Nat.le_of_ble_eq_true rfl) (Nat.le_of_ble_eq_true rfl) (kk := fun s95 Ws95 qs95 => ?_)
                      have h := h s95 Ws95 (qs95.1.R rfl) (qs95.1.F rfl) (qs95.1.F rfl) qs95.2
                      exact y_retv hR dX14_sign_158 Ws95 (Nat.le_of_ble_eq_true rfl) (Nat.le_of_ble_eq_true rfl) ⟨(rKeep.tr (rKeep.tr rKeep.rf kJ rfl rfl rfl rfl rfl) qs95.1 rfl rfl rfl rfl rfl), h⟩
                    · have h := hF c
                      refine z_aload_n hC (pc := 133) 0 dX14_sign_133 rfl rfl ?_
                      refine z_dup hC (pc := 134) dX14_sign_134 rfl ?_
                      refine y_get hC (pc := 135) zf14 rOb_0 17 (v := iv (rF s91 0 17)) dX14_sign_135 zw2484 (rv_i (Or.inl rfl) rfl) (kk := ?_)
                      have h := h (Ws91.f _ _)
                      refine z_aload_n hC (pc := 138) 1 dX14_sign_138 rfl rfl ?_
                      refine y_slen hC (pc := 139) hs1 dX14_sign_139 zw3021 (Nat.le_of_ble_eq_true rfl) (Nat.le_of_ble_eq_true rfl) (Nat.le_of_ble_eq_true rfl) (Nat.le_of_ble_eq_true rfl) (Nat.le_of_ble_eq_true rfl) ?_
                      refine y_iadd hC (pc := 142) (v := ((rF s91 0 17) + (n1 : Int))) dX14_sign_142 rfl ?_
                      obtain ⟨r97, h⟩ := h
                      refine y_putI hC (pc := 143) zf14 rOb_0 17 (x := ((rF s91 0 17) + (n1 : Int))) dX14_sign_143 zw2484 (Or.inl rfl) rfl rfl (kk := ?_)
                      have W98 := Ws91.sF (q := 0) (f := 17) (x := ((rF s91 0 17) + (n1 : Int))) r97
                      refine z_goto hC (pc := 146) 158 dX14_sign_146 (by decide) ?_
                      exact y_retv hR dX14_sign_158 W98 (Nat.le_of_ble_eq_true rfl) (Nat.le_of_ble_eq_true rfl) ⟨(rKeep.tr (rKeep.tr rKeep.rf kJ rfl rfl rfl rfl rfl) (rKeep.sF0 (f := 17)) rfl rfl rfl rfl rfl), h⟩
                  · have h := hF c
                    refine z_iload_n hC (pc := 94) 2 dX14_sign_94 rfl rfl ?_
                    obtain ⟨hT, hF⟩ := h
                    refine y_if_eq hC (pc := 95) 129 hy92 dX14_sign_95 (by decide) (fun c => ?_) (fun c => ?_)
                    · have h := hT c
                      refine z_iload_n hC (pc := 129) 2 dX14_sign_129 rfl rfl ?_
                      obtain ⟨hT, hF⟩ := h
                      refine y_if_eq hC (pc := 130) 149 hy92 dX14_sign_130 (by decide) (fun c => ?_) (fun c => ?_)
                      · have h := hT c
                        refine z_aload_n hC (pc := 149) 0 dX14_sign_149 rfl rfl ?_
                        refine z_iconst hC (pc := 150) (v := Int32.ofInt 1) dX14_sign_150 (by decide) ?_
                        refine z_aload_n hC (pc := 151) 0 dX14_sign_151 rfl rfl ?_
                        refine y_get hC (pc := 152) zf14 rOb_0 17 (v := iv (rF s91 0 17)) dX14_sign_152 zw2484 (rv_i (Or.inl rfl) rfl) (kk := ?_)
                        have h := h (Ws91.f _ _)
                        obtain ⟨p99, h⟩ := h
                        refine y_callVv hC (pc := 155) (As := [iv 1, iv (rF s91 0 17)]) (kX14_bad l G κ s91 1 (rF s91 0 17) Ws91 (r_lit rfl) (Ws91.f _ _) p99) dmX14_bad zf14 rOb_0 dX14_sign_155 zw3000 rfl rfl (Nat.le_of_ble_eq_true rfl) (Nat.le_of_ble_eq_true rfl) (Nat.le_of_ble_eq_true rfl) (Nat.le_of_ble_eq_true rfl) (Nat.le_of_ble_eq_true rfl) (kk := fun s100 Ws100 qs100 => ?_)
                        have h := h s100 Ws100 (qs100.1.R rfl) (qs100.1.F rfl) (qs100.1.F rfl) qs100.2
                        exact y_retv hR dX14_sign_158 Ws100 (Nat.le_of_ble_eq_true rfl) (Nat.le_of_ble_eq_true rfl) ⟨(rKeep.tr (rKeep.tr rKeep.rf kJ rfl rfl rfl rfl rfl) qs100.1 rfl rfl rfl rfl rfl), h⟩
                      · have h := hF c
                        refine z_aload_n hC (pc := 133) 0 dX14_sign_133 rfl rfl ?_
                        refine z_dup hC (pc := 134) dX14_sign_134 rfl ?_
                        refine y_get hC (pc := 135) zf14 rOb_0 17 (v := iv (rF s91 0 17)) dX14_sign_135 zw2484 (rv_i (Or.inl rfl) rfl) (kk := ?_)
                        have h := h (Ws91.f _ _)
                        refine z_aload_n hC (pc := 138) 1 dX14_sign_138 rfl rfl ?_
                        refine y_slen hC (pc := 139) hs1 dX14_sign_139 zw3021 (Nat.le_of_ble_eq_true rfl) (Nat.le_of_ble_eq_true rfl) (Nat.le_of_ble_eq_true rfl) (Nat.le_of_ble_eq_true rfl) (Nat.le_of_ble_eq_true rfl) ?_
                        refine y_iadd hC (pc := 142) (v := ((rF s91 0 17) + (n1 : Int))) dX14_sign_142 rfl ?_
                        obtain ⟨r102, h⟩ := h
                        refine y_putI hC (pc := 143) zf14 rOb_0 17 (x := ((rF s91 0 17) + (n1 : Int))) dX14_sign_143 zw2484 (Or.inl rfl) rfl rfl (kk := ?_)
                        have W103 := Ws91.sF (q := 0) (f := 17) (x := ((rF s91 0 17) + (n1 : Int))) r102
                        refine z_goto hC (pc := 146) 158 dX14_sign_146 (by decide) ?_
                        exact y_retv hR dX14_sign_158 W103 (Nat.le_of_ble_eq_true rfl) (Nat.le_of_ble_eq_true rfl) ⟨(rKeep.tr (rKeep.tr rKeep.rf kJ rfl rfl rfl rfl rfl) (rKeep.sF0 (f := 17)) rfl rfl rfl rfl rfl), h⟩
                    · have h := hF c
                      refine z_aload_n hC (pc := 98) 0 dX14_sign_98 rfl rfl ?_
                      obtain ⟨g104, h⟩ := h
                      refine y_get hC (pc := 99) zf14 rOb_0 15 (v := .ref (κ (rR s91 15))) dX14_sign_99 zw2482 (rv_b rfl rfl g104) (kk := ?_)
                      refine z_aload_n hC (pc := 102) 0 dX14_sign_102 rfl rfl ?_
                      refine y_get hC (pc := 103) zf14 rOb_0 17 (v := iv (rF s91 0 17)) dX14_sign_103 zw2484 (rv_i (Or.inl rfl) rfl) (kk := ?_)
                      have h := h (Ws91.f _ _)
                      refine z_iload_n hC (pc := 106) 3 dX14_sign_106 rfl rfl ?_
                      refine y_iadd hC (pc := 107) (v := ((rF s91 0 17) + y93)) dX14_sign_107 rfl ?_
                      obtain ⟨b105, h⟩ := h
                      refine y_bald hC (pc := 108) (rAr_f g104) dX14_sign_108 b105 (v := (rA s91 (rR s91 15) ((rF s91 0 17) + y93))) rfl (kk := ?_)
                      have h := h (Ws91.a _ _)
                      refine z_aload_n hC (pc := 109) 1 dX14_sign_109 rfl rfl ?_
                      refine z_iload_n hC (pc := 110) 3 dX14_sign_110 rfl rfl ?_
                      obtain ⟨b106, h⟩ := h
                      refine y_char hC (pc := 111) (i := y93) hs1 b106 dX14_sign_111 zw3022 (Nat.le_of_ble_eq_true rfl) (Nat.le_of_ble_eq_true rfl) (Nat.le_of_ble_eq_true rfl) (Nat.le_of_ble_eq_true rfl) (Nat.le_of_ble_eq_true rfl) (fun x107 hx107 => ?_)
                      have h := h x107 hx107
                      obtain ⟨hT, hF⟩ := h
                      refine y_icmp_ne hC (pc := 114) 121 (Ws91.a _ _) (r_255 hx107) dX14_sign_114 (by decide) (fun c => ?_) (fun c => ?_)
                      · have h := hT c
                        refine z_iconst hC (pc := 121) (v := Int32.ofInt 0) dX14_sign_121 (by decide) ?_
                        refine z_istore_n hC (pc := 122) (lv' := [(2, iv 0), (0, .ref (κ 0)), (1, .ref t1), (3, iv y93)]) dX14_sign_122 rfl (by decide) rfl ?_
                        refine y_iinc hC (pc := 123) (v := (y93 + 1)) (lv' := [(3, iv (y93 + 1)), (2, iv 0), (0, .ref (κ 0)), (1, .ref t1)]) 3 dX14_sign_123 rfl rfl (by decide) rfl ?_
                        refine z_goto hC (pc := 126) 86 dX14_sign_126 (by decide) ?_
                        refine z_lvs [2, 3, 1, 0] rfl ?_
                        obtain ⟨r108, h⟩ := h
                        obtain ⟨hI, hm⟩ := h
                        exact ih86 s91 0 (y93 + 1) Ws91 (r_lit rfl) r108 (rKeep.tr rKeep.rf kJ rfl rfl rfl rfl rfl) hI (by omega)
                      · have h := hF c
                        refine z_iconst hC (pc := 117) (v := Int32.ofInt 1) dX14_sign_117 (by decide) ?_
                        refine z_goto hC (pc := 118) 122 dX14_sign_118 (by decide) ?_
                        refine z_istore_n hC (pc := 122) (lv' := [(2, iv 1), (0, .ref (κ 0)), (1, .ref t1), (3, iv y93)]) dX14_sign_122 rfl (by decide) rfl ?_
                        refine y_iinc hC (pc := 123) (v := (y93 + 1)) (lv' := [(3, iv (y93 + 1)), (2, iv 1), (0, .ref (κ 0)), (1, .ref t1)]) 3 dX14_sign_123 rfl rfl (by decide) rfl ?_
                        refine z_goto hC (pc := 126) 86 dX14_sign_126 (by decide) ?_
                        refine z_lvs [2, 3, 1, 0] rfl ?_
                        obtain ⟨r109, h⟩ := h
                        obtain ⟨hI, hm⟩ := h
                        exact ih86 s91 1 (y93 + 1) Ws91 (r_lit rfl) r109 (rKeep.tr rKeep.rf kJ rfl rfl rfl rfl rfl) hI (by omega)
              refine z_lvs [2, 3, 1, 0] rfl ?_
              exact j86 _ s2 0 0 Ws2 (r_lit rfl) (r_lit rfl) (rKeep.tr rKeep.rf qs2.1 rfl rfl rfl rfl rfl) h (Nat.le_refl _)
    · have h := hF c
      refine z_iconst hC (pc := 28) (v := Int32.ofInt 1) dX14_sign_28 (by decide) ?_
      refine z_goto hC (pc := 29) 33 dX14_sign_29 (by decide) ?_
      refine z_istore_n hC (pc := 33) (lv' := [(2, iv 1), (0, .ref (κ 0)), (1, .ref t1)]) dX14_sign_33 rfl (by decide) rfl ?_
      refine z_aload_n hC (pc := 34) 2 dX14_sign_34 rfl rfl ?_
      refine y_slen hC (pc := 35) hs1 dX14_sign_35 zw3021 (Nat.le_of_ble_eq_true rfl) (Nat.le_of_ble_eq_true rfl) (Nat.le_of_ble_eq_true rfl) (Nat.le_of_ble_eq_true rfl) (Nat.le_of_ble_eq_true rfl) ?_
      refine z_iconst hC (pc := 38) (v := Int32.ofInt 1) dX14_sign_38 (by decide) ?_
      obtain ⟨hT, hF⟩ := h
      refine y_icmp_ne hC (pc := 39) 84 (rSt.rng hs1) (r_lit rfl) dX14_sign_39 (by decide) (fun c => ?_) (fun c => ?_)
      · have h := hT c
        refine z_iconst hC (pc := 84) (v := Int32.ofInt 0) dX14_sign_84 (by decide) ?_
        refine z_istore_n hC (pc := 85) (lv' := [(3, iv 0), (2, iv 1), (0, .ref (κ 0)), (1, .ref t1)]) dX14_sign_85 rfl (by decide) rfl ?_
        have j86 : ∀ (d86 : Nat), ∀ (s110 : rS) (y111 : Int) (y112 : Int), rWF s110 → rng y111 → rng y112 → rKeep 0x21c00 0 0 0 0 σ s110 → inv_X14_sign_86 σ n1 s110 y111 y112 → (mu_X14_sign_86 σ n1 s110 y111 y112) ≤ d86 → zS X G 4 (rW G κ s110) [(0, .ref (κ 0)), (1, .ref t1), (2, iv y111), (3, iv y112)] 0 0 86 [] := by
          intro d86
          induction d86 with
          | zero =>
            intro s110 y111 y112 Ws110 hy111 hy112 kJ hI hmu
            exact absurd hmu (by have := h_86m  s110 y111 y112 Ws110 hy111 hy112 (kJ.R rfl) (kJ.F rfl) hI; omega)
          | succ d86 ih86 =>
            intro s110 y111 y112 Ws110 hy111 hy112 kJ hI hmu86
            have h := h_86  s110 y111 y112 Ws110 hy111 hy112 (kJ.R rfl) (kJ.F rfl) hI
            refine z_iload_n hC (pc := 86) 3 dX14_sign_86 rfl rfl ?_
            refine z_aload_n hC (pc := 87) 1 dX14_sign_87 rfl rfl ?_
            refine y_slen hC (pc := 88) hs1 dX14_sign_88 zw3021 (Nat.le_of_ble_eq_true rfl) (Nat.le_of_ble_eq_true rfl) (Nat.le_of_ble_eq_true rfl) (Nat.le_of_ble_eq_true rfl) (Nat.le_of_ble_eq_true rfl) ?_
            obtain ⟨hT, hF⟩ := h
            refine y_icmp_ge hC (pc := 91) 129 hy112 (rSt.rng hs1) dX14_sign_91 (by decide) (fun c => ?_) (fun c => ?_)
            · have h := hT c
              refine z_iload_n hC (pc := 129) 2 dX14_sign_129 rfl rfl ?_
              obtain ⟨hT, hF⟩ := h
              refine y_if_eq hC (pc := 130) 149 hy111 dX14_sign_130 (by decide) (fun c => ?_) (fun c => ?_)
              · have h := hT c
                refine z_aload_n hC (pc := 149) 0 dX14_sign_149 rfl rfl ?_
                refine z_iconst hC (pc := 150) (v := Int32.ofInt 1) dX14_sign_150 (by decide) ?_
                refine z_aload_n hC (pc := 151) 0 dX14_sign_151 rfl rfl ?_
                refine y_get hC (pc := 152) zf14 rOb_0 17 (v := iv (rF s110 0 17)) dX14_sign_152 zw2484 (rv_i (Or.inl rfl) rfl) (kk := ?_)
                have h := h (Ws110.f _ _)
                obtain ⟨p113, h⟩ := h
                refine y_callVv hC (pc := 155) (As := [iv 1, iv (rF s110 0 17)]) (kX14_bad l G κ s110 1 (rF s110 0 17) Ws110 (r_lit rfl) (Ws110.f _ _) p113) dmX14_bad zf14 rOb_0 dX14_sign_155 zw3000 rfl rfl (Nat.le_of_ble_eq_true rfl) (Nat.le_of_ble_eq_true rfl) (Nat.le_of_ble_eq_true rfl) (Nat.le_of_ble_eq_true rfl) (Nat.le_of_ble_eq_true rfl) (kk := fun s114 Ws114 qs114 => ?_)
                have h := h s114 Ws114 (qs114.1.R rfl) (qs114.1.F rfl) (qs114.1.F rfl) qs114.2
                exact y_retv hR dX14_sign_158 Ws114 (Nat.le_of_ble_eq_true rfl) (Nat.le_of_ble_eq_true rfl) ⟨(rKeep.tr (rKeep.tr rKeep.rf kJ rfl rfl rfl rfl rfl) qs114.1 rfl rfl rfl rfl rfl), h⟩
              · have h := hF c
                refine z_aload_n hC (pc := 133) 0 dX14_sign_133 rfl rfl ?_
                refine z_dup hC (pc := 134) dX14_sign_134 rfl ?_
                refine y_get hC (pc := 135) zf14 rOb_0 17 (v := iv (rF s110 0 17)) dX14_sign_135 zw2484 (rv_i (Or.inl rfl) rfl) (kk := ?_)
                have h := h (Ws110.f _ _)
                refine z_aload_n hC (pc := 138) 1 dX14_sign_138 rfl rfl ?_
                refine y_slen hC (pc := 139) hs1 dX14_sign_139 zw3021 (Nat.le_of_ble_eq_true rfl) (Nat.le_of_ble_eq_true rfl) (Nat.le_of_ble_eq_true rfl) (Nat.le_of_ble_eq_true rfl) (Nat.le_of_ble_eq_true rfl) ?_
                refine y_iadd hC (pc := 142) (v := ((rF s110 0 17) + (n1 : Int))) dX14_sign_142 rfl ?_
                obtain ⟨r116, h⟩ := h
                refine y_putI hC (pc := 143) zf14 rOb_0 17 (x := ((rF s110 0 17) + (n1 : Int))) dX14_sign_143 zw2484 (Or.inl rfl) rfl rfl (kk := ?_)
                have W117 := Ws110.sF (q := 0) (f := 17) (x := ((rF s110 0 17) + (n1 : Int))) r116
                refine z_goto hC (pc := 146) 158 dX14_sign_146 (by decide) ?_
                exact y_retv hR dX14_sign_158 W117 (Nat.le_of_ble_eq_true rfl) (Nat.le_of_ble_eq_true rfl) ⟨(rKeep.tr (rKeep.tr rKeep.rf kJ rfl rfl rfl rfl rfl) (rKeep.sF0 (f := 17)) rfl rfl rfl rfl rfl), h⟩
            · have h := hF c
              refine z_iload_n hC (pc := 94) 2 dX14_sign_94 rfl rfl ?_
              obtain ⟨hT, hF⟩ := h
              refine y_if_eq hC (pc := 95) 129 hy111 dX14_sign_95 (by decide) (fun c => ?_) (fun c => ?_)
              · have h := hT c
                refine z_iload_n hC (pc := 129) 2 dX14_sign_129 rfl rfl ?_
                obtain ⟨hT, hF⟩ := h
                refine y_if_eq hC (pc := 130) 149 hy111 dX14_sign_130 (by decide) (fun c => ?_) (fun c => ?_)
                · have h := hT c
                  refine z_aload_n hC (pc := 149) 0 dX14_sign_149 rfl rfl ?_
                  refine z_iconst hC (pc := 150) (v := Int32.ofInt 1) dX14_sign_150 (by decide) ?_
                  refine z_aload_n hC (pc := 151) 0 dX14_sign_151 rfl rfl ?_
                  refine y_get hC (pc := 152) zf14 rOb_0 17 (v := iv (rF s110 0 17)) dX14_sign_152 zw2484 (rv_i (Or.inl rfl) rfl) (kk := ?_)
                  have h := h (Ws110.f _ _)
                  obtain ⟨p118, h⟩ := h
                  refine y_callVv hC (pc := 155) (As := [iv 1, iv (rF s110 0 17)]) (kX14_bad l G κ s110 1 (rF s110 0 17) Ws110 (r_lit rfl) (Ws110.f _ _) p118) dmX14_bad zf14 rOb_0 dX14_sign_155 zw3000 rfl rfl (Nat.le_of_ble_eq_true rfl) (Nat.le_of_ble_eq_true rfl) (Nat.le_of_ble_eq_true rfl) (Nat.le_of_ble_eq_true rfl) (Nat.le_of_ble_eq_true rfl) (kk := fun s119 Ws119 qs119 => ?_)
                  have h := h s119 Ws119 (qs119.1.R rfl) (qs119.1.F rfl) (qs119.1.F rfl) qs119.2
                  exact y_retv hR dX14_sign_158 Ws119 (Nat.le_of_ble_eq_true rfl) (Nat.le_of_ble_eq_true rfl) ⟨(rKeep.tr (rKeep.tr rKeep.rf kJ rfl rfl rfl rfl rfl) qs119.1 rfl rfl rfl rfl rfl), h⟩
                · have h := hF c
                  refine z_aload_n hC (pc := 133) 0 dX14_sign_133 rfl rfl ?_
                  refine z_dup hC (pc := 134) dX14_sign_134 rfl ?_
                  refine y_get hC (pc := 135) zf14 rOb_0 17 (v := iv (rF s110 0 17)) dX14_sign_135 zw2484 (rv_i (Or.inl rfl) rfl) (kk := ?_)
                  have h := h (Ws110.f _ _)
                  refine z_aload_n hC (pc := 138) 1 dX14_sign_138 rfl rfl ?_
                  refine y_slen hC (pc := 139) hs1 dX14_sign_139 zw3021 (Nat.le_of_ble_eq_true rfl) (Nat.le_of_ble_eq_true rfl) (Nat.le_of_ble_eq_true rfl) (Nat.le_of_ble_eq_true rfl) (Nat.le_of_ble_eq_true rfl) ?_
                  refine y_iadd hC (pc := 142) (v := ((rF s110 0 17) + (n1 : Int))) dX14_sign_142 rfl ?_
                  obtain ⟨r121, h⟩ := h
                  refine y_putI hC (pc := 143) zf14 rOb_0 17 (x := ((rF s110 0 17) + (n1 : Int))) dX14_sign_143 zw2484 (Or.inl rfl) rfl rfl (kk := ?_)
                  have W122 := Ws110.sF (q := 0) (f := 17) (x := ((rF s110 0 17) + (n1 : Int))) r121
                  refine z_goto hC (pc := 146) 158 dX14_sign_146 (by decide) ?_
                  exact y_retv hR dX14_sign_158 W122 (Nat.le_of_ble_eq_true rfl) (Nat.le_of_ble_eq_true rfl) ⟨(rKeep.tr (rKeep.tr rKeep.rf kJ rfl rfl rfl rfl rfl) (rKeep.sF0 (f := 17)) rfl rfl rfl rfl rfl), h⟩
              · have h := hF c
                refine z_aload_n hC (pc := 98) 0 dX14_sign_98 rfl rfl ?_
                obtain ⟨g123, h⟩ := h
                refine y_get hC (pc := 99) zf14 rOb_0 15 (v := .ref (κ (rR s110 15))) dX14_sign_99 zw2482 (rv_b rfl rfl g123) (kk := ?_)
                refine z_aload_n hC (pc := 102) 0 dX14_sign_102 rfl rfl ?_
                refine y_get hC (pc := 103) zf14 rOb_0 17 (v := iv (rF s110 0 17)) dX14_sign_103 zw2484 (rv_i (Or.inl rfl) rfl) (kk := ?_)
                have h := h (Ws110.f _ _)
                refine z_iload_n hC (pc := 106) 3 dX14_sign_106 rfl rfl ?_
                refine y_iadd hC (pc := 107) (v := ((rF s110 0 17) + y112)) dX14_sign_107 rfl ?_
                obtain ⟨b124, h⟩ := h
                refine y_bald hC (pc := 108) (rAr_f g123) dX14_sign_108 b124 (v := (rA s110 (rR s110 15) ((rF s110 0 17) + y112))) rfl (kk := ?_)
                have h := h (Ws110.a _ _)
                refine z_aload_n hC (pc := 109) 1 dX14_sign_109 rfl rfl ?_
                refine z_iload_n hC (pc := 110) 3 dX14_sign_110 rfl rfl ?_
                obtain ⟨b125, h⟩ := h
                refine y_char hC (pc := 111) (i := y112) hs1 b125 dX14_sign_111 zw3022 (Nat.le_of_ble_eq_true rfl) (Nat.le_of_ble_eq_true rfl) (Nat.le_of_ble_eq_true rfl) (Nat.le_of_ble_eq_true rfl) (Nat.le_of_ble_eq_true rfl) (fun x126 hx126 => ?_)
                have h := h x126 hx126
                obtain ⟨hT, hF⟩ := h
                refine y_icmp_ne hC (pc := 114) 121 (Ws110.a _ _) (r_255 hx126) dX14_sign_114 (by decide) (fun c => ?_) (fun c => ?_)
                · have h := hT c
                  refine z_iconst hC (pc := 121) (v := Int32.ofInt 0) dX14_sign_121 (by decide) ?_
                  refine z_istore_n hC (pc := 122) (lv' := [(2, iv 0), (0, .ref (κ 0)), (1, .ref t1), (3, iv y112)]) dX14_sign_122 rfl (by decide) rfl ?_
                  refine y_iinc hC (pc := 123) (v := (y112 + 1)) (lv' := [(3, iv (y112 + 1)), (2, iv 0), (0, .ref (κ 0)), (1, .ref t1)]) 3 dX14_sign_123 rfl rfl (by decide) rfl ?_
                  refine z_goto hC (pc := 126) 86 dX14_sign_126 (by decide) ?_
                  refine z_lvs [2, 3, 1, 0] rfl ?_
                  obtain ⟨r127, h⟩ := h
                  obtain ⟨hI, hm⟩ := h
                  exact ih86 s110 0 (y112 + 1) Ws110 (r_lit rfl) r127 (rKeep.tr rKeep.rf kJ rfl rfl rfl rfl rfl) hI (by omega)
                · have h := hF c
                  refine z_iconst hC (pc := 117) (v := Int32.ofInt 1) dX14_sign_117 (by decide) ?_
                  refine z_goto hC (pc := 118) 122 dX14_sign_118 (by decide) ?_
                  refine z_istore_n hC (pc := 122) (lv' := [(2, iv 1), (0, .ref (κ 0)), (1, .ref t1), (3, iv y112)]) dX14_sign_122 rfl (by decide) rfl ?_
                  refine y_iinc hC (pc := 123) (v := (y112 + 1)) (lv' := [(3, iv (y112 + 1)), (2, iv 1), (0, .ref (κ 0)), (1, .ref t1)]) 3 dX14_sign_123 rfl rfl (by decide) rfl ?_
                  refine z_goto hC (pc := 126) 86 dX14_sign_126 (by decide) ?_
                  refine z_lvs [2, 3, 1, 0] rfl ?_
                  obtain ⟨r128, h⟩ := h
                  obtain ⟨hI, hm⟩ := h
                  exact ih86 s110 1 (y112 + 1) Ws110 (r_lit rfl) r128 (rKeep.tr rKeep.rf kJ rfl rfl rfl rfl rfl) hI (by omega)
        refine z_lvs [2, 3, 1, 0] rfl ?_
        exact j86 _ s2 1 0 Ws2 (r_lit rfl) (r_lit rfl) (rKeep.tr rKeep.rf qs2.1 rfl rfl rfl rfl rfl) h (Nat.le_refl _)
      · have h := hF c
        refine z_aload_n hC (pc := 42) 2 dX14_sign_42 rfl rfl ?_
        refine z_iconst hC (pc := 43) (v := Int32.ofInt 0) dX14_sign_43 (by decide) ?_
        obtain ⟨b129, h⟩ := h
        refine y_char hC (pc := 44) (i := 0) hs1 b129 dX14_sign_44 zw3022 (Nat.le_of_ble_eq_true rfl) (Nat.le_of_ble_eq_true rfl) (Nat.le_of_ble_eq_true rfl) (Nat.le_of_ble_eq_true rfl) (Nat.le_of_ble_eq_true rfl) (fun x130 hx130 => ?_)
        have h := h x130 hx130
        refine z_bipush hC (pc := 47) (v := Int32.ofInt 58) dX14_sign_47 (by decide) ?_
        obtain ⟨hT, hF⟩ := h
        refine y_icmp_ne hC (pc := 49) 84 (r_255 hx130) (r_lit rfl) dX14_sign_49 (by decide) (fun c => ?_) (fun c => ?_)
        · have h := hT c
          refine z_iconst hC (pc := 84) (v := Int32.ofInt 0) dX14_sign_84 (by decide) ?_
          refine z_istore_n hC (pc := 85) (lv' := [(3, iv 0), (2, iv 1), (0, .ref (κ 0)), (1, .ref t1)]) dX14_sign_85 rfl (by decide) rfl ?_
          have j86 : ∀ (d86 : Nat), ∀ (s131 : rS) (y132 : Int) (y133 : Int), rWF s131 → rng y132 → rng y133 → rKeep 0x21c00 0 0 0 0 σ s131 → inv_X14_sign_86 σ n1 s131 y132 y133 → (mu_X14_sign_86 σ n1 s131 y132 y133) ≤ d86 → zS X G 4 (rW G κ s131) [(0, .ref (κ 0)), (1, .ref t1), (2, iv y132), (3, iv y133)] 0 0 86 [] := by
            intro d86
            induction d86 with
            | zero =>
              intro s131 y132 y133 Ws131 hy132 hy133 kJ hI hmu
              exact absurd hmu (by have := h_86m  s131 y132 y133 Ws131 hy132 hy133 (kJ.R rfl) (kJ.F rfl) hI; omega)
            | succ d86 ih86 =>
              intro s131 y132 y133 Ws131 hy132 hy133 kJ hI hmu86
              have h := h_86  s131 y132 y133 Ws131 hy132 hy133 (kJ.R rfl) (kJ.F rfl) hI
              refine z_iload_n hC (pc := 86) 3 dX14_sign_86 rfl rfl ?_
              refine z_aload_n hC (pc := 87) 1 dX14_sign_87 rfl rfl ?_
              refine y_slen hC (pc := 88) hs1 dX14_sign_88 zw3021 (Nat.le_of_ble_eq_true rfl) (Nat.le_of_ble_eq_true rfl) (Nat.le_of_ble_eq_true rfl) (Nat.le_of_ble_eq_true rfl) (Nat.le_of_ble_eq_true rfl) ?_
              obtain ⟨hT, hF⟩ := h
              refine y_icmp_ge hC (pc := 91) 129 hy133 (rSt.rng hs1) dX14_sign_91 (by decide) (fun c => ?_) (fun c => ?_)
              · have h := hT c
                refine z_iload_n hC (pc := 129) 2 dX14_sign_129 rfl rfl ?_
                obtain ⟨hT, hF⟩ := h
                refine y_if_eq hC (pc := 130) 149 hy132 dX14_sign_130 (by decide) (fun c => ?_) (fun c => ?_)
                · have h := hT c
                  refine z_aload_n hC (pc := 149) 0 dX14_sign_149 rfl rfl ?_
                  refine z_iconst hC (pc := 150) (v := Int32.ofInt 1) dX14_sign_150 (by decide) ?_
                  refine z_aload_n hC (pc := 151) 0 dX14_sign_151 rfl rfl ?_
                  refine y_get hC (pc := 152) zf14 rOb_0 17 (v := iv (rF s131 0 17)) dX14_sign_152 zw2484 (rv_i (Or.inl rfl) rfl) (kk := ?_)
                  have h := h (Ws131.f _ _)
                  obtain ⟨p134, h⟩ := h
                  refine y_callVv hC (pc := 155) (As := [iv 1, iv (rF s131 0 17)]) (kX14_bad l G κ s131 1 (rF s131 0 17) Ws131 (r_lit rfl) (Ws131.f _ _) p134) dmX14_bad zf14 rOb_0 dX14_sign_155 zw3000 rfl rfl (Nat.le_of_ble_eq_true rfl) (Nat.le_of_ble_eq_true rfl) (Nat.le_of_ble_eq_true rfl) (Nat.le_of_ble_eq_true rfl) (Nat.le_of_ble_eq_true rfl) (kk := fun s135 Ws135 qs135 => ?_)
                  have h := h s135 Ws135 (qs135.1.R rfl) (qs135.1.F rfl) (qs135.1.F rfl) qs135.2
                  exact y_retv hR dX14_sign_158 Ws135 (Nat.le_of_ble_eq_true rfl) (Nat.le_of_ble_eq_true rfl) ⟨(rKeep.tr (rKeep.tr rKeep.rf kJ rfl rfl rfl rfl rfl) qs135.1 rfl rfl rfl rfl rfl), h⟩
                · have h := hF c
                  refine z_aload_n hC (pc := 133) 0 dX14_sign_133 rfl rfl ?_
                  refine z_dup hC (pc := 134) dX14_sign_134 rfl ?_
                  refine y_get hC (pc := 135) zf14 rOb_0 17 (v := iv (rF s131 0 17)) dX14_sign_135 zw2484 (rv_i (Or.inl rfl) rfl) (kk := ?_)
                  have h := h (Ws131.f _ _)
                  refine z_aload_n hC (pc := 138) 1 dX14_sign_138 rfl rfl ?_
                  refine y_slen hC (pc := 139) hs1 dX14_sign_139 zw3021 (Nat.le_of_ble_eq_true rfl) (Nat.le_of_ble_eq_true rfl) (Nat.le_of_ble_eq_true rfl) (Nat.le_of_ble_eq_true rfl) (Nat.le_of_ble_eq_true rfl) ?_
                  refine y_iadd hC (pc := 142) (v := ((rF s131 0 17) + (n1 : Int))) dX14_sign_142 rfl ?_
                  obtain ⟨r137, h⟩ := h
                  refine y_putI hC (pc := 143) zf14 rOb_0 17 (x := ((rF s131 0 17) + (n1 : Int))) dX14_sign_143 zw2484 (Or.inl rfl) rfl rfl (kk := ?_)
                  have W138 := Ws131.sF (q := 0) (f := 17) (x := ((rF s131 0 17) + (n1 : Int))) r137
                  refine z_goto hC (pc := 146) 158 dX14_sign_146 (by decide) ?_
                  exact y_retv hR dX14_sign_158 W138 (Nat.le_of_ble_eq_true rfl) (Nat.le_of_ble_eq_true rfl) ⟨(rKeep.tr (rKeep.tr rKeep.rf kJ rfl rfl rfl rfl rfl) (rKeep.sF0 (f := 17)) rfl rfl rfl rfl rfl), h⟩
              · have h := hF c
                refine z_iload_n hC (pc := 94) 2 dX14_sign_94 rfl rfl ?_
                obtain ⟨hT, hF⟩ := h
                refine y_if_eq hC (pc := 95) 129 hy132 dX14_sign_95 (by decide) (fun c => ?_) (fun c => ?_)
                · have h := hT c
                  refine z_iload_n hC (pc := 129) 2 dX14_sign_129 rfl rfl ?_
                  obtain ⟨hT, hF⟩ := h
                  refine y_if_eq hC (pc := 130) 149 hy132 dX14_sign_130 (by decide) (fun c => ?_) (fun c => ?_)
                  · have h := hT c
                    refine z_aload_n hC (pc := 149) 0 dX14_sign_149 rfl rfl ?_
                    refine z_iconst hC (pc := 150) (v := Int32.ofInt 1) dX14_sign_150 (by decide) ?_
                    refine z_aload_n hC (pc := 151) 0 dX14_sign_151 rfl rfl ?_
                    refine y_get hC (pc := 152) zf14 rOb_0 17 (v := iv (rF s131 0 17)) dX14_sign_152 zw2484 (rv_i (Or.inl rfl) rfl) (kk := ?_)
                    have h := h (Ws131.f _ _)
                    obtain ⟨p139, h⟩ := h
                    refine y_callVv hC (pc := 155) (As := [iv 1, iv (rF s131 0 17)]) (kX14_bad l G κ s131 1 (rF s131 0 17) Ws131 (r_lit rfl) (Ws131.f _ _) p139) dmX14_bad zf14 rOb_0 dX14_sign_155 zw3000 rfl rfl (Nat.le_of_ble_eq_true rfl) (Nat.le_of_ble_eq_true rfl) (Nat.le_of_ble_eq_true rfl) (Nat.le_of_ble_eq_true rfl) (Nat.le_of_ble_eq_true rfl) (kk := fun s140 Ws140 qs140 => ?_)
                    have h := h s140 Ws140 (qs140.1.R rfl) (qs140.1.F rfl) (qs140.1.F rfl) qs140.2
                    exact y_retv hR dX14_sign_158 Ws140 (Nat.le_of_ble_eq_true rfl) (Nat.le_of_ble_eq_true rfl) ⟨(rKeep.tr (rKeep.tr rKeep.rf kJ rfl rfl rfl rfl rfl) qs140.1 rfl rfl rfl rfl rfl), h⟩
                  · have h := hF c
                    refine z_aload_n hC (pc := 133) 0 dX14_sign_133 rfl rfl ?_
                    refine z_dup hC (pc := 134) dX14_sign_134 rfl ?_
                    refine y_get hC (pc := 135) zf14 rOb_0 17 (v := iv (rF s131 0 17)) dX14_sign_135 zw2484 (rv_i (Or.inl rfl) rfl) (kk := ?_)
                    have h := h (Ws131.f _ _)
                    refine z_aload_n hC (pc := 138) 1 dX14_sign_138 rfl rfl ?_
                    refine y_slen hC (pc := 139) hs1 dX14_sign_139 zw3021 (Nat.le_of_ble_eq_true rfl) (Nat.le_of_ble_eq_true rfl) (Nat.le_of_ble_eq_true rfl) (Nat.le_of_ble_eq_true rfl) (Nat.le_of_ble_eq_true rfl) ?_
                    refine y_iadd hC (pc := 142) (v := ((rF s131 0 17) + (n1 : Int))) dX14_sign_142 rfl ?_
                    obtain ⟨r142, h⟩ := h
                    refine y_putI hC (pc := 143) zf14 rOb_0 17 (x := ((rF s131 0 17) + (n1 : Int))) dX14_sign_143 zw2484 (Or.inl rfl) rfl rfl (kk := ?_)
                    have W143 := Ws131.sF (q := 0) (f := 17) (x := ((rF s131 0 17) + (n1 : Int))) r142
                    refine z_goto hC (pc := 146) 158 dX14_sign_146 (by decide) ?_
                    exact y_retv hR dX14_sign_158 W143 (Nat.le_of_ble_eq_true rfl) (Nat.le_of_ble_eq_true rfl) ⟨(rKeep.tr (rKeep.tr rKeep.rf kJ rfl rfl rfl rfl rfl) (rKeep.sF0 (f := 17)) rfl rfl rfl rfl rfl), h⟩
                · have h := hF c
                  refine z_aload_n hC (pc := 98) 0 dX14_sign_98 rfl rfl ?_
                  obtain ⟨g144, h⟩ := h
                  refine y_get hC (pc := 99) zf14 rOb_0 15 (v := .ref (κ (rR s131 15))) dX14_sign_99 zw2482 (rv_b rfl rfl g144) (kk := ?_)
                  refine z_aload_n hC (pc := 102) 0 dX14_sign_102 rfl rfl ?_
                  refine y_get hC (pc := 103) zf14 rOb_0 17 (v := iv (rF s131 0 17)) dX14_sign_103 zw2484 (rv_i (Or.inl rfl) rfl) (kk := ?_)
                  have h := h (Ws131.f _ _)
                  refine z_iload_n hC (pc := 106) 3 dX14_sign_106 rfl rfl ?_
                  refine y_iadd hC (pc := 107) (v := ((rF s131 0 17) + y133)) dX14_sign_107 rfl ?_
                  obtain ⟨b145, h⟩ := h
                  refine y_bald hC (pc := 108) (rAr_f g144) dX14_sign_108 b145 (v := (rA s131 (rR s131 15) ((rF s131 0 17) + y133))) rfl (kk := ?_)
                  have h := h (Ws131.a _ _)
                  refine z_aload_n hC (pc := 109) 1 dX14_sign_109 rfl rfl ?_
                  refine z_iload_n hC (pc := 110) 3 dX14_sign_110 rfl rfl ?_
                  obtain ⟨b146, h⟩ := h
                  refine y_char hC (pc := 111) (i := y133) hs1 b146 dX14_sign_111 zw3022 (Nat.le_of_ble_eq_true rfl) (Nat.le_of_ble_eq_true rfl) (Nat.le_of_ble_eq_true rfl) (Nat.le_of_ble_eq_true rfl) (Nat.le_of_ble_eq_true rfl) (fun x147 hx147 => ?_)
                  have h := h x147 hx147
                  obtain ⟨hT, hF⟩ := h
                  refine y_icmp_ne hC (pc := 114) 121 (Ws131.a _ _) (r_255 hx147) dX14_sign_114 (by decide) (fun c => ?_) (fun c => ?_)
                  · have h := hT c
                    refine z_iconst hC (pc := 121) (v := Int32.ofInt 0) dX14_sign_121 (by decide) ?_
                    refine z_istore_n hC (pc := 122) (lv' := [(2, iv 0), (0, .ref (κ 0)), (1, .ref t1), (3, iv y133)]) dX14_sign_122 rfl (by decide) rfl ?_
                    refine y_iinc hC (pc := 123) (v := (y133 + 1)) (lv' := [(3, iv (y133 + 1)), (2, iv 0), (0, .ref (κ 0)), (1, .ref t1)]) 3 dX14_sign_123 rfl rfl (by decide) rfl ?_
                    refine z_goto hC (pc := 126) 86 dX14_sign_126 (by decide) ?_
                    refine z_lvs [2, 3, 1, 0] rfl ?_
                    obtain ⟨r148, h⟩ := h
                    obtain ⟨hI, hm⟩ := h
                    exact ih86 s131 0 (y133 + 1) Ws131 (r_lit rfl) r148 (rKeep.tr rKeep.rf kJ rfl rfl rfl rfl rfl) hI (by omega)
                  · have h := hF c
                    refine z_iconst hC (pc := 117) (v := Int32.ofInt 1) dX14_sign_117 (by decide) ?_
                    refine z_goto hC (pc := 118) 122 dX14_sign_118 (by decide) ?_
                    refine z_istore_n hC (pc := 122) (lv' := [(2, iv 1), (0, .ref (κ 0)), (1, .ref t1), (3, iv y133)]) dX14_sign_122 rfl (by decide) rfl ?_
                    refine y_iinc hC (pc := 123) (v := (y133 + 1)) (lv' := [(3, iv (y133 + 1)), (2, iv 1), (0, .ref (κ 0)), (1, .ref t1)]) 3 dX14_sign_123 rfl rfl (by decide) rfl ?_
                    refine z_goto hC (pc := 126) 86 dX14_sign_126 (by decide) ?_
                    refine z_lvs [2, 3, 1, 0] rfl ?_
                    obtain ⟨r149, h⟩ := h
                    obtain ⟨hI, hm⟩ := h
                    exact ih86 s131 1 (y133 + 1) Ws131 (r_lit rfl) r149 (rKeep.tr rKeep.rf kJ rfl rfl rfl rfl rfl) hI (by omega)
          refine z_lvs [2, 3, 1, 0] rfl ?_
          exact j86 _ s2 1 0 Ws2 (r_lit rfl) (r_lit rfl) (rKeep.tr rKeep.rf qs2.1 rfl rfl rfl rfl rfl) h (Nat.le_refl _)
        · have h := hF c
          refine z_aload_n hC (pc := 52) 1 dX14_sign_52 rfl rfl ?_
          refine z_aload_n hC (pc := 53) 1 dX14_sign_53 rfl rfl ?_
          refine y_get hC (pc := 54) zf14 rOb_0 17 (v := iv (rF s2 0 17)) dX14_sign_54 zw2484 (rv_i (Or.inl rfl) rfl) (kk := ?_)
          refine z_iconst hC (pc := 57) (v := Int32.ofInt 1) dX14_sign_57 (by decide) ?_
          refine y_iadd hC (pc := 58) (v := ((rF s2 0 17) + 1)) dX14_sign_58 rfl ?_
          obtain ⟨r150, h⟩ := h
          obtain ⟨p151, h⟩ := h
          refine y_callVi hC (pc := 59) (As := [iv ((rF s2 0 17) + 1)]) (kX14_fc l G κ s2 ((rF s2 0 17) + 1) Ws2 r150 p151) dmX14_fc zf14 rOb_0 dX14_sign_59 zw2993 rfl rfl (Nat.le_of_ble_eq_true rfl) (Nat.le_of_ble_eq_true rfl) (Nat.le_of_ble_eq_true rfl) (Nat.le_of_ble_eq_true rfl) (Nat.le_of_ble_eq_true rfl) (kk := fun x153 s152 hx153 Ws152 qs152 => ?_)
          obtain ⟨es152, qs152⟩ := qs152
          have es152 := es152.symm
          subst es152
          have h := h x153 hx153 qs152
          refine z_bipush hC (pc := 62) (v := Int32.ofInt 58) dX14_sign_62 (by decide) ?_
          obtain ⟨hT, hF⟩ := h
          refine y_icmp_ne hC (pc := 64) 84 hx153 (r_lit rfl) dX14_sign_64 (by decide) (fun c => ?_) (fun c => ?_)
          · have h := hT c
            refine z_iconst hC (pc := 84) (v := Int32.ofInt 0) dX14_sign_84 (by decide) ?_
            refine z_istore_n hC (pc := 85) (lv' := [(3, iv 0), (2, iv 1), (0, .ref (κ 0)), (1, .ref t1)]) dX14_sign_85 rfl (by decide) rfl ?_
            have j86 : ∀ (d86 : Nat), ∀ (s154 : rS) (y155 : Int) (y156 : Int), rWF s154 → rng y155 → rng y156 → rKeep 0x21c00 0 0 0 0 σ s154 → inv_X14_sign_86 σ n1 s154 y155 y156 → (mu_X14_sign_86 σ n1 s154 y155 y156) ≤ d86 → zS X G 4 (rW G κ s154) [(0, .ref (κ 0)), (1, .ref t1), (2, iv y155), (3, iv y156)] 0 0 86 [] := by
              intro d86
              induction d86 with
              | zero =>
                intro s154 y155 y156 Ws154 hy155 hy156 kJ hI hmu
                exact absurd hmu (by have := h_86m  s154 y155 y156 Ws154 hy155 hy156 (kJ.R rfl) (kJ.F rfl) hI; omega)
              | succ d86 ih86 =>
                intro s154 y155 y156 Ws154 hy155 hy156 kJ hI hmu86
                have h := h_86  s154 y155 y156 Ws154 hy155 hy156 (kJ.R rfl) (kJ.F rfl) hI
                refine z_iload_n hC (pc := 86) 3 dX14_sign_86 rfl rfl ?_
                refine z_aload_n hC (pc := 87) 1 dX14_sign_87 rfl rfl ?_
                refine y_slen hC (pc := 88) hs1 dX14_sign_88 zw3021 (Nat.le_of_ble_eq_true rfl) (Nat.le_of_ble_eq_true rfl) (Nat.le_of_ble_eq_true rfl) (Nat.le_of_ble_eq_true rfl) (Nat.le_of_ble_eq_true rfl) ?_
                obtain ⟨hT, hF⟩ := h
                refine y_icmp_ge hC (pc := 91) 129 hy156 (rSt.rng hs1) dX14_sign_91 (by decide) (fun c => ?_) (fun c => ?_)
                · have h := hT c
                  refine z_iload_n hC (pc := 129) 2 dX14_sign_129 rfl rfl ?_
                  obtain ⟨hT, hF⟩ := h
                  refine y_if_eq hC (pc := 130) 149 hy155 dX14_sign_130 (by decide) (fun c => ?_) (fun c => ?_)
                  · have h := hT c
                    refine z_aload_n hC (pc := 149) 0 dX14_sign_149 rfl rfl ?_
                    refine z_iconst hC (pc := 150) (v := Int32.ofInt 1) dX14_sign_150 (by decide) ?_
                    refine z_aload_n hC (pc := 151) 0 dX14_sign_151 rfl rfl ?_
                    refine y_get hC (pc := 152) zf14 rOb_0 17 (v := iv (rF s154 0 17)) dX14_sign_152 zw2484 (rv_i (Or.inl rfl) rfl) (kk := ?_)
                    have h := h (Ws154.f _ _)
                    obtain ⟨p157, h⟩ := h
                    refine y_callVv hC (pc := 155) (As := [iv 1, iv (rF s154 0 17)]) (kX14_bad l G κ s154 1 (rF s154 0 17) Ws154 (r_lit rfl) (Ws154.f _ _) p157) dmX14_bad zf14 rOb_0 dX14_sign_155 zw3000 rfl rfl (Nat.le_of_ble_eq_true rfl) (Nat.le_of_ble_eq_true rfl) (Nat.le_of_ble_eq_true rfl) (Nat.le_of_ble_eq_true rfl) (Nat.le_of_ble_eq_true rfl) (kk := fun s158 Ws158 qs158 => ?_)
                    have h := h s158 Ws158 (qs158.1.R rfl) (qs158.1.F rfl) (qs158.1.F rfl) qs158.2
                    exact y_retv hR dX14_sign_158 Ws158 (Nat.le_of_ble_eq_true rfl) (Nat.le_of_ble_eq_true rfl) ⟨(rKeep.tr (rKeep.tr rKeep.rf kJ rfl rfl rfl rfl rfl) qs158.1 rfl rfl rfl rfl rfl), h⟩
                  · have h := hF c
                    refine z_aload_n hC (pc := 133) 0 dX14_sign_133 rfl rfl ?_
                    refine z_dup hC (pc := 134) dX14_sign_134 rfl ?_
                    refine y_get hC (pc := 135) zf14 rOb_0 17 (v := iv (rF s154 0 17)) dX14_sign_135 zw2484 (rv_i (Or.inl rfl) rfl) (kk := ?_)
                    have h := h (Ws154.f _ _)
                    refine z_aload_n hC (pc := 138) 1 dX14_sign_138 rfl rfl ?_
                    refine y_slen hC (pc := 139) hs1 dX14_sign_139 zw3021 (Nat.le_of_ble_eq_true rfl) (Nat.le_of_ble_eq_true rfl) (Nat.le_of_ble_eq_true rfl) (Nat.le_of_ble_eq_true rfl) (Nat.le_of_ble_eq_true rfl) ?_
                    refine y_iadd hC (pc := 142) (v := ((rF s154 0 17) + (n1 : Int))) dX14_sign_142 rfl ?_
                    obtain ⟨r160, h⟩ := h
                    refine y_putI hC (pc := 143) zf14 rOb_0 17 (x := ((rF s154 0 17) + (n1 : Int))) dX14_sign_143 zw2484 (Or.inl rfl) rfl rfl (kk := ?_)
                    have W161 := Ws154.sF (q := 0) (f := 17) (x := ((rF s154 0 17) + (n1 : Int))) r160
                    refine z_goto hC (pc := 146) 158 dX14_sign_146 (by decide) ?_
                    exact y_retv hR dX14_sign_158 W161 (Nat.le_of_ble_eq_true rfl) (Nat.le_of_ble_eq_true rfl) ⟨(rKeep.tr (rKeep.tr rKeep.rf kJ rfl rfl rfl rfl rfl) (rKeep.sF0 (f := 17)) rfl rfl rfl rfl rfl), h⟩
                · have h := hF c
                  refine z_iload_n hC (pc := 94) 2 dX14_sign_94 rfl rfl ?_
                  obtain ⟨hT, hF⟩ := h
                  refine y_if_eq hC (pc := 95) 129 hy155 dX14_sign_95 (by decide) (fun c => ?_) (fun c => ?_)
                  · have h := hT c
                    refine z_iload_n hC (pc := 129) 2 dX14_sign_129 rfl rfl ?_
                    obtain ⟨hT, hF⟩ := h
                    refine y_if_eq hC (pc := 130) 149 hy155 dX14_sign_130 (by decide) (fun c => ?_) (fun c => ?_)
                    · have h := hT c
                      refine z_aload_n hC (pc := 149) 0 dX14_sign_149 rfl rfl ?_
                      refine z_iconst hC (pc := 150) (v := Int32.ofInt 1) dX14_sign_150 (by decide) ?_
                      refine z_aload_n hC (pc := 151) 0 dX14_sign_151 rfl rfl ?_
                      refine y_get hC (pc := 152) zf14 rOb_0 17 (v := iv (rF s154 0 17)) dX14_sign_152 zw2484 (rv_i (Or.inl rfl) rfl) (kk := ?_)
                      have h := h (Ws154.f _ _)
                      obtain ⟨p162, h⟩ := h
                      refine y_callVv hC (pc := 155) (As := [iv 1, iv (rF s154 0 17)]) (kX14_bad l G κ s154 1 (rF s154 0 17) Ws154 (r_lit rfl) (Ws154.f _ _) p162) dmX14_bad zf14 rOb_0 dX14_sign_155 zw3000 rfl rfl (Nat.le_of_ble_eq_true rfl) (Nat.le_of_ble_eq_true rfl) (Nat.le_of_ble_eq_true rfl) (Nat.le_of_ble_eq_true rfl) (Nat.le_of_ble_eq_true rfl) (kk := fun s163 Ws163 qs163 => ?_)
                      have h := h s163 Ws163 (qs163.1.R rfl) (qs163.1.F rfl) (qs163.1.F rfl) qs163.2
                      exact y_retv hR dX14_sign_158 Ws163 (Nat.le_of_ble_eq_true rfl) (Nat.le_of_ble_eq_true rfl) ⟨(rKeep.tr (rKeep.tr rKeep.rf kJ rfl rfl rfl rfl rfl) qs163.1 rfl rfl rfl rfl rfl), h⟩
                    · have h := hF c
                      refine z_aload_n hC (pc := 133) 0 dX14_sign_133 rfl rfl ?_
                      refine z_dup hC (pc := 134) dX14_sign_134 rfl ?_
                      refine y_get hC (pc := 135) zf14 rOb_0 17 (v := iv (rF s154 0 17)) dX14_sign_135 zw2484 (rv_i (Or.inl rfl) rfl) (kk := ?_)
                      have h := h (Ws154.f _ _)
                      refine z_aload_n hC (pc := 138) 1 dX14_sign_138 rfl rfl ?_
                      refine y_slen hC (pc := 139) hs1 dX14_sign_139 zw3021 (Nat.le_of_ble_eq_true rfl) (Nat.le_of_ble_eq_true rfl) (Nat.le_of_ble_eq_true rfl) (Nat.le_of_ble_eq_true rfl) (Nat.le_of_ble_eq_true rfl) ?_
                      refine y_iadd hC (pc := 142) (v := ((rF s154 0 17) + (n1 : Int))) dX14_sign_142 rfl ?_
                      obtain ⟨r165, h⟩ := h
                      refine y_putI hC (pc := 143) zf14 rOb_0 17 (x := ((rF s154 0 17) + (n1 : Int))) dX14_sign_143 zw2484 (Or.inl rfl) rfl rfl (kk := ?_)
                      have W166 := Ws154.sF (q := 0) (f := 17) (x := ((rF s154 0 17) + (n1 : Int))) r165
                      refine z_goto hC (pc := 146) 158 dX14_sign_146 (by decide) ?_
                      exact y_retv hR dX14_sign_158 W166 (Nat.le_of_ble_eq_true rfl) (Nat.le_of_ble_eq_true rfl) ⟨(rKeep.tr (rKeep.tr rKeep.rf kJ rfl rfl rfl rfl rfl) (rKeep.sF0 (f := 17)) rfl rfl rfl rfl rfl), h⟩
                  · have h := hF c
                    refine z_aload_n hC (pc := 98) 0 dX14_sign_98 rfl rfl ?_
                    obtain ⟨g167, h⟩ := h
                    refine y_get hC (pc := 99) zf14 rOb_0 15 (v := .ref (κ (rR s154 15))) dX14_sign_99 zw2482 (rv_b rfl rfl g167) (kk := ?_)
                    refine z_aload_n hC (pc := 102) 0 dX14_sign_102 rfl rfl ?_
                    refine y_get hC (pc := 103) zf14 rOb_0 17 (v := iv (rF s154 0 17)) dX14_sign_103 zw2484 (rv_i (Or.inl rfl) rfl) (kk := ?_)
                    have h := h (Ws154.f _ _)
                    refine z_iload_n hC (pc := 106) 3 dX14_sign_106 rfl rfl ?_
                    refine y_iadd hC (pc := 107) (v := ((rF s154 0 17) + y156)) dX14_sign_107 rfl ?_
                    obtain ⟨b168, h⟩ := h
                    refine y_bald hC (pc := 108) (rAr_f g167) dX14_sign_108 b168 (v := (rA s154 (rR s154 15) ((rF s154 0 17) + y156))) rfl (kk := ?_)
                    have h := h (Ws154.a _ _)
                    refine z_aload_n hC (pc := 109) 1 dX14_sign_109 rfl rfl ?_
                    refine z_iload_n hC (pc := 110) 3 dX14_sign_110 rfl rfl ?_
                    obtain ⟨b169, h⟩ := h
                    refine y_char hC (pc := 111) (i := y156) hs1 b169 dX14_sign_111 zw3022 (Nat.le_of_ble_eq_true rfl) (Nat.le_of_ble_eq_true rfl) (Nat.le_of_ble_eq_true rfl) (Nat.le_of_ble_eq_true rfl) (Nat.le_of_ble_eq_true rfl) (fun x170 hx170 => ?_)
                    have h := h x170 hx170
                    obtain ⟨hT, hF⟩ := h
                    refine y_icmp_ne hC (pc := 114) 121 (Ws154.a _ _) (r_255 hx170) dX14_sign_114 (by decide) (fun c => ?_) (fun c => ?_)
                    · have h := hT c
                      refine z_iconst hC (pc := 121) (v := Int32.ofInt 0) dX14_sign_121 (by decide) ?_
                      refine z_istore_n hC (pc := 122) (lv' := [(2, iv 0), (0, .ref (κ 0)), (1, .ref t1), (3, iv y156)]) dX14_sign_122 rfl (by decide) rfl ?_
                      refine y_iinc hC (pc := 123) (v := (y156 + 1)) (lv' := [(3, iv (y156 + 1)), (2, iv 0), (0, .ref (κ 0)), (1, .ref t1)]) 3 dX14_sign_123 rfl rfl (by decide) rfl ?_
                      refine z_goto hC (pc := 126) 86 dX14_sign_126 (by decide) ?_
                      refine z_lvs [2, 3, 1, 0] rfl ?_
                      obtain ⟨r171, h⟩ := h
                      obtain ⟨hI, hm⟩ := h
                      exact ih86 s154 0 (y156 + 1) Ws154 (r_lit rfl) r171 (rKeep.tr rKeep.rf kJ rfl rfl rfl rfl rfl) hI (by omega)
                    · have h := hF c
                      refine z_iconst hC (pc := 117) (v := Int32.ofInt 1) dX14_sign_117 (by decide) ?_
                      refine z_goto hC (pc := 118) 122 dX14_sign_118 (by decide) ?_
                      refine z_istore_n hC (pc := 122) (lv' := [(2, iv 1), (0, .ref (κ 0)), (1, .ref t1), (3, iv y156)]) dX14_sign_122 rfl (by decide) rfl ?_
                      refine y_iinc hC (pc := 123) (v := (y156 + 1)) (lv' := [(3, iv (y156 + 1)), (2, iv 1), (0, .ref (κ 0)), (1, .ref t1)]) 3 dX14_sign_123 rfl rfl (by decide) rfl ?_
                      refine z_goto hC (pc := 126) 86 dX14_sign_126 (by decide) ?_
                      refine z_lvs [2, 3, 1, 0] rfl ?_
                      obtain ⟨r172, h⟩ := h
                      obtain ⟨hI, hm⟩ := h
                      exact ih86 s154 1 (y156 + 1) Ws154 (r_lit rfl) r172 (rKeep.tr rKeep.rf kJ rfl rfl rfl rfl rfl) hI (by omega)
            refine z_lvs [2, 3, 1, 0] rfl ?_
            exact j86 _ s2 1 0 Ws2 (r_lit rfl) (r_lit rfl) (rKeep.tr rKeep.rf qs2.1 rfl rfl rfl rfl rfl) h (Nat.le_refl _)
          · have h := hF c
            refine z_aload_n hC (pc := 67) 1 dX14_sign_67 rfl rfl ?_
            refine z_aload_n hC (pc := 68) 1 dX14_sign_68 rfl rfl ?_
            refine y_get hC (pc := 69) zf14 rOb_0 17 (v := iv (rF s2 0 17)) dX14_sign_69 zw2484 (rv_i (Or.inl rfl) rfl) (kk := ?_)
            refine z_iconst hC (pc := 72) (v := Int32.ofInt 2) dX14_sign_72 (by decide) ?_
            refine y_iadd hC (pc := 73) (v := ((rF s2 0 17) + 2)) dX14_sign_73 rfl ?_
            obtain ⟨r173, h⟩ := h
            obtain ⟨p174, h⟩ := h
            refine y_callVi hC (pc := 74) (As := [iv ((rF s2 0 17) + 2)]) (kX14_fc l G κ s2 ((rF s2 0 17) + 2) Ws2 r173 p174) dmX14_fc zf14 rOb_0 dX14_sign_74 zw2993 rfl rfl (Nat.le_of_ble_eq_true rfl) (Nat.le_of_ble_eq_true rfl) (Nat.le_of_ble_eq_true rfl) (Nat.le_of_ble_eq_true rfl) (Nat.le_of_ble_eq_true rfl) (kk := fun x176 s175 hx176 Ws175 qs175 => ?_)
            obtain ⟨es175, qs175⟩ := qs175
            have es175 := es175.symm
            subst es175
            have h := h x176 hx176 qs175
            refine z_bipush hC (pc := 77) (v := Int32.ofInt 61) dX14_sign_77 (by decide) ?_
            obtain ⟨hT, hF⟩ := h
            refine y_icmp_ne hC (pc := 79) 84 hx176 (r_lit rfl) dX14_sign_79 (by decide) (fun c => ?_) (fun c => ?_)
            · have h := hT c
              refine z_iconst hC (pc := 84) (v := Int32.ofInt 0) dX14_sign_84 (by decide) ?_
              refine z_istore_n hC (pc := 85) (lv' := [(3, iv 0), (2, iv 1), (0, .ref (κ 0)), (1, .ref t1)]) dX14_sign_85 rfl (by decide) rfl ?_
              have j86 : ∀ (d86 : Nat), ∀ (s177 : rS) (y178 : Int) (y179 : Int), rWF s177 → rng y178 → rng y179 → rKeep 0x21c00 0 0 0 0 σ s177 → inv_X14_sign_86 σ n1 s177 y178 y179 → (mu_X14_sign_86 σ n1 s177 y178 y179) ≤ d86 → zS X G 4 (rW G κ s177) [(0, .ref (κ 0)), (1, .ref t1), (2, iv y178), (3, iv y179)] 0 0 86 [] := by
                intro d86
                induction d86 with
                | zero =>
                  intro s177 y178 y179 Ws177 hy178 hy179 kJ hI hmu
                  exact absurd hmu (by have := h_86m  s177 y178 y179 Ws177 hy178 hy179 (kJ.R rfl) (kJ.F rfl) hI; omega)
                | succ d86 ih86 =>
                  intro s177 y178 y179 Ws177 hy178 hy179 kJ hI hmu86
                  have h := h_86  s177 y178 y179 Ws177 hy178 hy179 (kJ.R rfl) (kJ.F rfl) hI
                  refine z_iload_n hC (pc := 86) 3 dX14_sign_86 rfl rfl ?_
                  refine z_aload_n hC (pc := 87) 1 dX14_sign_87 rfl rfl ?_
                  refine y_slen hC (pc := 88) hs1 dX14_sign_88 zw3021 (Nat.le_of_ble_eq_true rfl) (Nat.le_of_ble_eq_true rfl) (Nat.le_of_ble_eq_true rfl) (Nat.le_of_ble_eq_true rfl) (Nat.le_of_ble_eq_true rfl) ?_
                  obtain ⟨hT, hF⟩ := h
                  refine y_icmp_ge hC (pc := 91) 129 hy179 (rSt.rng hs1) dX14_sign_91 (by decide) (fun c => ?_) (fun c => ?_)
                  · have h := hT c
                    refine z_iload_n hC (pc := 129) 2 dX14_sign_129 rfl rfl ?_
                    obtain ⟨hT, hF⟩ := h
                    refine y_if_eq hC (pc := 130) 149 hy178 dX14_sign_130 (by decide) (fun c => ?_) (fun c => ?_)
                    · have h := hT c
                      refine z_aload_n hC (pc := 149) 0 dX14_sign_149 rfl rfl ?_
                      refine z_iconst hC (pc := 150) (v := Int32.ofInt 1) dX14_sign_150 (by decide) ?_
                      refine z_aload_n hC (pc := 151) 0 dX14_sign_151 rfl rfl ?_
                      refine y_get hC (pc := 152) zf14 rOb_0 17 (v := iv (rF s177 0 17)) dX14_sign_152 zw2484 (rv_i (Or.inl rfl) rfl) (kk := ?_)
                      have h := h (Ws177.f _ _)
                      obtain ⟨p180, h⟩ := h
                      refine y_callVv hC (pc := 155) (As := [iv 1, iv (rF s177 0 17)]) (kX14_bad l G κ s177 1 (rF s177 0 17) Ws177 (r_lit rfl) (Ws177.f _ _) p180) dmX14_bad zf14 rOb_0 dX14_sign_155 zw3000 rfl rfl (Nat.le_of_ble_eq_true rfl) (Nat.le_of_ble_eq_true rfl) (Nat.le_of_ble_eq_true rfl) (Nat.le_of_ble_eq_true rfl) (Nat.le_of_ble_eq_true rfl) (kk := fun s181 Ws181 qs181 => ?_)
                      have h := h s181 Ws181 (qs181.1.R rfl) (qs181.1.F rfl) (qs181.1.F rfl) qs181.2
                      exact y_retv hR dX14_sign_158 Ws181 (Nat.le_of_ble_eq_true rfl) (Nat.le_of_ble_eq_true rfl) ⟨(rKeep.tr (rKeep.tr rKeep.rf kJ rfl rfl rfl rfl rfl) qs181.1 rfl rfl rfl rfl rfl), h⟩
                    · have h := hF c
                      refine z_aload_n hC (pc := 133) 0 dX14_sign_133 rfl rfl ?_
                      refine z_dup hC (pc := 134) dX14_sign_134 rfl ?_
                      refine y_get hC (pc := 135) zf14 rOb_0 17 (v := iv (rF s177 0 17)) dX14_sign_135 zw2484 (rv_i (Or.inl rfl) rfl) (kk := ?_)
                      have h := h (Ws177.f _ _)
                      refine z_aload_n hC (pc := 138) 1 dX14_sign_138 rfl rfl ?_
                      refine y_slen hC (pc := 139) hs1 dX14_sign_139 zw3021 (Nat.le_of_ble_eq_true rfl) (Nat.le_of_ble_eq_true rfl) (Nat.le_of_ble_eq_true rfl) (Nat.le_of_ble_eq_true rfl) (Nat.le_of_ble_eq_true rfl) ?_
                      refine y_iadd hC (pc := 142) (v := ((rF s177 0 17) + (n1 : Int))) dX14_sign_142 rfl ?_
                      obtain ⟨r183, h⟩ := h
                      refine y_putI hC (pc := 143) zf14 rOb_0 17 (x := ((rF s177 0 17) + (n1 : Int))) dX14_sign_143 zw2484 (Or.inl rfl) rfl rfl (kk := ?_)
                      have W184 := Ws177.sF (q := 0) (f := 17) (x := ((rF s177 0 17) + (n1 : Int))) r183
                      refine z_goto hC (pc := 146) 158 dX14_sign_146 (by decide) ?_
                      exact y_retv hR dX14_sign_158 W184 (Nat.le_of_ble_eq_true rfl) (Nat.le_of_ble_eq_true rfl) ⟨(rKeep.tr (rKeep.tr rKeep.rf kJ rfl rfl rfl rfl rfl) (rKeep.sF0 (f := 17)) rfl rfl rfl rfl rfl), h⟩
                  · have h := hF c
                    refine z_iload_n hC (pc := 94) 2 dX14_sign_94 rfl rfl ?_
                    obtain ⟨hT, hF⟩ := h
                    refine y_if_eq hC (pc := 95) 129 hy178 dX14_sign_95 (by decide) (fun c => ?_) (fun c => ?_)
                    · have h := hT c
                      refine z_iload_n hC (pc := 129) 2 dX14_sign_129 rfl rfl ?_
                      obtain ⟨hT, hF⟩ := h
                      refine y_if_eq hC (pc := 130) 149 hy178 dX14_sign_130 (by decide) (fun c => ?_) (fun c => ?_)
                      · have h := hT c
                        refine z_aload_n hC (pc := 149) 0 dX14_sign_149 rfl rfl ?_
                        refine z_iconst hC (pc := 150) (v := Int32.ofInt 1) dX14_sign_150 (by decide) ?_
                        refine z_aload_n hC (pc := 151) 0 dX14_sign_151 rfl rfl ?_
                        refine y_get hC (pc := 152) zf14 rOb_0 17 (v := iv (rF s177 0 17)) dX14_sign_152 zw2484 (rv_i (Or.inl rfl) rfl) (kk := ?_)
                        have h := h (Ws177.f _ _)
                        obtain ⟨p185, h⟩ := h
                        refine y_callVv hC (pc := 155) (As := [iv 1, iv (rF s177 0 17)]) (kX14_bad l G κ s177 1 (rF s177 0 17) Ws177 (r_lit rfl) (Ws177.f _ _) p185) dmX14_bad zf14 rOb_0 dX14_sign_155 zw3000 rfl rfl (Nat.le_of_ble_eq_true rfl) (Nat.le_of_ble_eq_true rfl) (Nat.le_of_ble_eq_true rfl) (Nat.le_of_ble_eq_true rfl) (Nat.le_of_ble_eq_true rfl) (kk := fun s186 Ws186 qs186 => ?_)
                        have h := h s186 Ws186 (qs186.1.R rfl) (qs186.1.F rfl) (qs186.1.F rfl) qs186.2
                        exact y_retv hR dX14_sign_158 Ws186 (Nat.le_of_ble_eq_true rfl) (Nat.le_of_ble_eq_true rfl) ⟨(rKeep.tr (rKeep.tr rKeep.rf kJ rfl rfl rfl rfl rfl) qs186.1 rfl rfl rfl rfl rfl), h⟩
                      · have h := hF c
                        refine z_aload_n hC (pc := 133) 0 dX14_sign_133 rfl rfl ?_
                        refine z_dup hC (pc := 134) dX14_sign_134 rfl ?_
                        refine y_get hC (pc := 135) zf14 rOb_0 17 (v := iv (rF s177 0 17)) dX14_sign_135 zw2484 (rv_i (Or.inl rfl) rfl) (kk := ?_)
                        have h := h (Ws177.f _ _)
                        refine z_aload_n hC (pc := 138) 1 dX14_sign_138 rfl rfl ?_
                        refine y_slen hC (pc := 139) hs1 dX14_sign_139 zw3021 (Nat.le_of_ble_eq_true rfl) (Nat.le_of_ble_eq_true rfl) (Nat.le_of_ble_eq_true rfl) (Nat.le_of_ble_eq_true rfl) (Nat.le_of_ble_eq_true rfl) ?_
                        refine y_iadd hC (pc := 142) (v := ((rF s177 0 17) + (n1 : Int))) dX14_sign_142 rfl ?_
                        obtain ⟨r188, h⟩ := h
                        refine y_putI hC (pc := 143) zf14 rOb_0 17 (x := ((rF s177 0 17) + (n1 : Int))) dX14_sign_143 zw2484 (Or.inl rfl) rfl rfl (kk := ?_)
                        have W189 := Ws177.sF (q := 0) (f := 17) (x := ((rF s177 0 17) + (n1 : Int))) r188
                        refine z_goto hC (pc := 146) 158 dX14_sign_146 (by decide) ?_
                        exact y_retv hR dX14_sign_158 W189 (Nat.le_of_ble_eq_true rfl) (Nat.le_of_ble_eq_true rfl) ⟨(rKeep.tr (rKeep.tr rKeep.rf kJ rfl rfl rfl rfl rfl) (rKeep.sF0 (f := 17)) rfl rfl rfl rfl rfl), h⟩
                    · have h := hF c
                      refine z_aload_n hC (pc := 98) 0 dX14_sign_98 rfl rfl ?_
                      obtain ⟨g190, h⟩ := h
                      refine y_get hC (pc := 99) zf14 rOb_0 15 (v := .ref (κ (rR s177 15))) dX14_sign_99 zw2482 (rv_b rfl rfl g190) (kk := ?_)
                      refine z_aload_n hC (pc := 102) 0 dX14_sign_102 rfl rfl ?_
                      refine y_get hC (pc := 103) zf14 rOb_0 17 (v := iv (rF s177 0 17)) dX14_sign_103 zw2484 (rv_i (Or.inl rfl) rfl) (kk := ?_)
                      have h := h (Ws177.f _ _)
                      refine z_iload_n hC (pc := 106) 3 dX14_sign_106 rfl rfl ?_
                      refine y_iadd hC (pc := 107) (v := ((rF s177 0 17) + y179)) dX14_sign_107 rfl ?_
                      obtain ⟨b191, h⟩ := h
                      refine y_bald hC (pc := 108) (rAr_f g190) dX14_sign_108 b191 (v := (rA s177 (rR s177 15) ((rF s177 0 17) + y179))) rfl (kk := ?_)
                      have h := h (Ws177.a _ _)
                      refine z_aload_n hC (pc := 109) 1 dX14_sign_109 rfl rfl ?_
                      refine z_iload_n hC (pc := 110) 3 dX14_sign_110 rfl rfl ?_
                      obtain ⟨b192, h⟩ := h
                      refine y_char hC (pc := 111) (i := y179) hs1 b192 dX14_sign_111 zw3022 (Nat.le_of_ble_eq_true rfl) (Nat.le_of_ble_eq_true rfl) (Nat.le_of_ble_eq_true rfl) (Nat.le_of_ble_eq_true rfl) (Nat.le_of_ble_eq_true rfl) (fun x193 hx193 => ?_)
                      have h := h x193 hx193
                      obtain ⟨hT, hF⟩ := h
                      refine y_icmp_ne hC (pc := 114) 121 (Ws177.a _ _) (r_255 hx193) dX14_sign_114 (by decide) (fun c => ?_) (fun c => ?_)
                      · have h := hT c
                        refine z_iconst hC (pc := 121) (v := Int32.ofInt 0) dX14_sign_121 (by decide) ?_
                        refine z_istore_n hC (pc := 122) (lv' := [(2, iv 0), (0, .ref (κ 0)), (1, .ref t1), (3, iv y179)]) dX14_sign_122 rfl (by decide) rfl ?_
                        refine y_iinc hC (pc := 123) (v := (y179 + 1)) (lv' := [(3, iv (y179 + 1)), (2, iv 0), (0, .ref (κ 0)), (1, .ref t1)]) 3 dX14_sign_123 rfl rfl (by decide) rfl ?_
                        refine z_goto hC (pc := 126) 86 dX14_sign_126 (by decide) ?_
                        refine z_lvs [2, 3, 1, 0] rfl ?_
                        obtain ⟨r194, h⟩ := h
                        obtain ⟨hI, hm⟩ := h
                        exact ih86 s177 0 (y179 + 1) Ws177 (r_lit rfl) r194 (rKeep.tr rKeep.rf kJ rfl rfl rfl rfl rfl) hI (by omega)
                      · have h := hF c
                        refine z_iconst hC (pc := 117) (v := Int32.ofInt 1) dX14_sign_117 (by decide) ?_
                        refine z_goto hC (pc := 118) 122 dX14_sign_118 (by decide) ?_
                        refine z_istore_n hC (pc := 122) (lv' := [(2, iv 1), (0, .ref (κ 0)), (1, .ref t1), (3, iv y179)]) dX14_sign_122 rfl (by decide) rfl ?_
                        refine y_iinc hC (pc := 123) (v := (y179 + 1)) (lv' := [(3, iv (y179 + 1)), (2, iv 1), (0, .ref (κ 0)), (1, .ref t1)]) 3 dX14_sign_123 rfl rfl (by decide) rfl ?_
                        refine z_goto hC (pc := 126) 86 dX14_sign_126 (by decide) ?_
                        refine z_lvs [2, 3, 1, 0] rfl ?_
                        obtain ⟨r195, h⟩ := h
                        obtain ⟨hI, hm⟩ := h
                        exact ih86 s177 1 (y179 + 1) Ws177 (r_lit rfl) r195 (rKeep.tr rKeep.rf kJ rfl rfl rfl rfl rfl) hI (by omega)
              refine z_lvs [2, 3, 1, 0] rfl ?_
              exact j86 _ s2 1 0 Ws2 (r_lit rfl) (r_lit rfl) (rKeep.tr rKeep.rf qs2.1 rfl rfl rfl rfl rfl) h (Nat.le_refl _)
            · have h := hF c
              refine z_iconst hC (pc := 82) (v := Int32.ofInt 0) dX14_sign_82 (by decide) ?_
              refine z_istore_n hC (pc := 83) (lv' := [(2, iv 0), (0, .ref (κ 0)), (1, .ref t1)]) dX14_sign_83 rfl (by decide) rfl ?_
              refine z_iconst hC (pc := 84) (v := Int32.ofInt 0) dX14_sign_84 (by decide) ?_
              refine z_istore_n hC (pc := 85) (lv' := [(3, iv 0), (2, iv 0), (0, .ref (κ 0)), (1, .ref t1)]) dX14_sign_85 rfl (by decide) rfl ?_
              have j86 : ∀ (d86 : Nat), ∀ (s196 : rS) (y197 : Int) (y198 : Int), rWF s196 → rng y197 → rng y198 → rKeep 0x21c00 0 0 0 0 σ s196 → inv_X14_sign_86 σ n1 s196 y197 y198 → (mu_X14_sign_86 σ n1 s196 y197 y198) ≤ d86 → zS X G 4 (rW G κ s196) [(0, .ref (κ 0)), (1, .ref t1), (2, iv y197), (3, iv y198)] 0 0 86 [] := by
                intro d86
                induction d86 with
                | zero =>
                  intro s196 y197 y198 Ws196 hy197 hy198 kJ hI hmu
                  exact absurd hmu (by have := h_86m  s196 y197 y198 Ws196 hy197 hy198 (kJ.R rfl) (kJ.F rfl) hI; omega)
                | succ d86 ih86 =>
                  intro s196 y197 y198 Ws196 hy197 hy198 kJ hI hmu86
                  have h := h_86  s196 y197 y198 Ws196 hy197 hy198 (kJ.R rfl) (kJ.F rfl) hI
                  refine z_iload_n hC (pc := 86) 3 dX14_sign_86 rfl rfl ?_
                  refine z_aload_n hC (pc := 87) 1 dX14_sign_87 rfl rfl ?_
                  refine y_slen hC (pc := 88) hs1 dX14_sign_88 zw3021 (Nat.le_of_ble_eq_true rfl) (Nat.le_of_ble_eq_true rfl) (Nat.le_of_ble_eq_true rfl) (Nat.le_of_ble_eq_true rfl) (Nat.le_of_ble_eq_true rfl) ?_
                  obtain ⟨hT, hF⟩ := h
                  refine y_icmp_ge hC (pc := 91) 129 hy198 (rSt.rng hs1) dX14_sign_91 (by decide) (fun c => ?_) (fun c => ?_)
                  · have h := hT c
                    refine z_iload_n hC (pc := 129) 2 dX14_sign_129 rfl rfl ?_
                    obtain ⟨hT, hF⟩ := h
                    refine y_if_eq hC (pc := 130) 149 hy197 dX14_sign_130 (by decide) (fun c => ?_) (fun c => ?_)
                    · have h := hT c
                      refine z_aload_n hC (pc := 149) 0 dX14_sign_149 rfl rfl ?_
                      refine z_iconst hC (pc := 150) (v := Int32.ofInt 1) dX14_sign_150 (by decide) ?_
                      refine z_aload_n hC (pc := 151) 0 dX14_sign_151 rfl rfl ?_
                      refine y_get hC (pc := 152) zf14 rOb_0 17 (v := iv (rF s196 0 17)) dX14_sign_152 zw2484 (rv_i (Or.inl rfl) rfl) (kk := ?_)
                      have h := h (Ws196.f _ _)
                      obtain ⟨p199, h⟩ := h
                      refine y_callVv hC (pc := 155) (As := [iv 1, iv (rF s196 0 17)]) (kX14_bad l G κ s196 1 (rF s196 0 17) Ws196 (r_lit rfl) (Ws196.f _ _) p199) dmX14_bad zf14 rOb_0 dX14_sign_155 zw3000 rfl rfl (Nat.le_of_ble_eq_true rfl) (Nat.le_of_ble_eq_true rfl) (Nat.le_of_ble_eq_true rfl) (Nat.le_of_ble_eq_true rfl) (Nat.le_of_ble_eq_true rfl) (kk := fun s200 Ws200 qs200 => ?_)
                      have h := h s200 Ws200 (qs200.1.R rfl) (qs200.1.F rfl) (qs200.1.F rfl) qs200.2
                      exact y_retv hR dX14_sign_158 Ws200 (Nat.le_of_ble_eq_true rfl) (Nat.le_of_ble_eq_true rfl) ⟨(rKeep.tr (rKeep.tr rKeep.rf kJ rfl rfl rfl rfl rfl) qs200.1 rfl rfl rfl rfl rfl), h⟩
                    · have h := hF c
                      refine z_aload_n hC (pc := 133) 0 dX14_sign_133 rfl rfl ?_
                      refine z_dup hC (pc := 134) dX14_sign_134 rfl ?_
                      refine y_get hC (pc := 135) zf14 rOb_0 17 (v := iv (rF s196 0 17)) dX14_sign_135 zw2484 (rv_i (Or.inl rfl) rfl) (kk := ?_)
                      have h := h (Ws196.f _ _)
                      refine z_aload_n hC (pc := 138) 1 dX14_sign_138 rfl rfl ?_
                      refine y_slen hC (pc := 139) hs1 dX14_sign_139 zw3021 (Nat.le_of_ble_eq_true rfl) (Nat.le_of_ble_eq_true rfl) (Nat.le_of_ble_eq_true rfl) (Nat.le_of_ble_eq_true rfl) (Nat.le_of_ble_eq_true rfl) ?_
                      refine y_iadd hC (pc := 142) (v := ((rF s196 0 17) + (n1 : Int))) dX14_sign_142 rfl ?_
                      obtain ⟨r202, h⟩ := h
                      refine y_putI hC (pc := 143) zf14 rOb_0 17 (x := ((rF s196 0 17) + (n1 : Int))) dX14_sign_143 zw2484 (Or.inl rfl) rfl rfl (kk := ?_)
                      have W203 := Ws196.sF (q := 0) (f := 17) (x := ((rF s196 0 17) + (n1 : Int))) r202
                      refine z_goto hC (pc := 146) 158 dX14_sign_146 (by decide) ?_
                      exact y_retv hR dX14_sign_158 W203 (Nat.le_of_ble_eq_true rfl) (Nat.le_of_ble_eq_true rfl) ⟨(rKeep.tr (rKeep.tr rKeep.rf kJ rfl rfl rfl rfl rfl) (rKeep.sF0 (f := 17)) rfl rfl rfl rfl rfl), h⟩
                  · have h := hF c
                    refine z_iload_n hC (pc := 94) 2 dX14_sign_94 rfl rfl ?_
                    obtain ⟨hT, hF⟩ := h
                    refine y_if_eq hC (pc := 95) 129 hy197 dX14_sign_95 (by decide) (fun c => ?_) (fun c => ?_)
                    · have h := hT c
                      refine z_iload_n hC (pc := 129) 2 dX14_sign_129 rfl rfl ?_
                      obtain ⟨hT, hF⟩ := h
                      refine y_if_eq hC (pc := 130) 149 hy197 dX14_sign_130 (by decide) (fun c => ?_) (fun c => ?_)
                      · have h := hT c
                        refine z_aload_n hC (pc := 149) 0 dX14_sign_149 rfl rfl ?_
                        refine z_iconst hC (pc := 150) (v := Int32.ofInt 1) dX14_sign_150 (by decide) ?_
                        refine z_aload_n hC (pc := 151) 0 dX14_sign_151 rfl rfl ?_
                        refine y_get hC (pc := 152) zf14 rOb_0 17 (v := iv (rF s196 0 17)) dX14_sign_152 zw2484 (rv_i (Or.inl rfl) rfl) (kk := ?_)
                        have h := h (Ws196.f _ _)
                        obtain ⟨p204, h⟩ := h
                        refine y_callVv hC (pc := 155) (As := [iv 1, iv (rF s196 0 17)]) (kX14_bad l G κ s196 1 (rF s196 0 17) Ws196 (r_lit rfl) (Ws196.f _ _) p204) dmX14_bad zf14 rOb_0 dX14_sign_155 zw3000 rfl rfl (Nat.le_of_ble_eq_true rfl) (Nat.le_of_ble_eq_true rfl) (Nat.le_of_ble_eq_true rfl) (Nat.le_of_ble_eq_true rfl) (Nat.le_of_ble_eq_true rfl) (kk := fun s205 Ws205 qs205 => ?_)
                        have h := h s205 Ws205 (qs205.1.R rfl) (qs205.1.F rfl) (qs205.1.F rfl) qs205.2
                        exact y_retv hR dX14_sign_158 Ws205 (Nat.le_of_ble_eq_true rfl) (Nat.le_of_ble_eq_true rfl) ⟨(rKeep.tr (rKeep.tr rKeep.rf kJ rfl rfl rfl rfl rfl) qs205.1 rfl rfl rfl rfl rfl), h⟩
                      · have h := hF c
                        refine z_aload_n hC (pc := 133) 0 dX14_sign_133 rfl rfl ?_
                        refine z_dup hC (pc := 134) dX14_sign_134 rfl ?_
                        refine y_get hC (pc := 135) zf14 rOb_0 17 (v := iv (rF s196 0 17)) dX14_sign_135 zw2484 (rv_i (Or.inl rfl) rfl) (kk := ?_)
                        have h := h (Ws196.f _ _)
                        refine z_aload_n hC (pc := 138) 1 dX14_sign_138 rfl rfl ?_
                        refine y_slen hC (pc := 139) hs1 dX14_sign_139 zw3021 (Nat.le_of_ble_eq_true rfl) (Nat.le_of_ble_eq_true rfl) (Nat.le_of_ble_eq_true rfl) (Nat.le_of_ble_eq_true rfl) (Nat.le_of_ble_eq_true rfl) ?_
                        refine y_iadd hC (pc := 142) (v := ((rF s196 0 17) + (n1 : Int))) dX14_sign_142 rfl ?_
                        obtain ⟨r207, h⟩ := h
                        refine y_putI hC (pc := 143) zf14 rOb_0 17 (x := ((rF s196 0 17) + (n1 : Int))) dX14_sign_143 zw2484 (Or.inl rfl) rfl rfl (kk := ?_)
                        have W208 := Ws196.sF (q := 0) (f := 17) (x := ((rF s196 0 17) + (n1 : Int))) r207
                        refine z_goto hC (pc := 146) 158 dX14_sign_146 (by decide) ?_
                        exact y_retv hR dX14_sign_158 W208 (Nat.le_of_ble_eq_true rfl) (Nat.le_of_ble_eq_true rfl) ⟨(rKeep.tr (rKeep.tr rKeep.rf kJ rfl rfl rfl rfl rfl) (rKeep.sF0 (f := 17)) rfl rfl rfl rfl rfl), h⟩
                    · have h := hF c
                      refine z_aload_n hC (pc := 98) 0 dX14_sign_98 rfl rfl ?_
                      obtain ⟨g209, h⟩ := h
                      refine y_get hC (pc := 99) zf14 rOb_0 15 (v := .ref (κ (rR s196 15))) dX14_sign_99 zw2482 (rv_b rfl rfl g209) (kk := ?_)
                      refine z_aload_n hC (pc := 102) 0 dX14_sign_102 rfl rfl ?_
                      refine y_get hC (pc := 103) zf14 rOb_0 17 (v := iv (rF s196 0 17)) dX14_sign_103 zw2484 (rv_i (Or.inl rfl) rfl) (kk := ?_)
                      have h := h (Ws196.f _ _)
                      refine z_iload_n hC (pc := 106) 3 dX14_sign_106 rfl rfl ?_
                      refine y_iadd hC (pc := 107) (v := ((rF s196 0 17) + y198)) dX14_sign_107 rfl ?_
                      obtain ⟨b210, h⟩ := h
                      refine y_bald hC (pc := 108) (rAr_f g209) dX14_sign_108 b210 (v := (rA s196 (rR s196 15) ((rF s196 0 17) + y198))) rfl (kk := ?_)
                      have h := h (Ws196.a _ _)
                      refine z_aload_n hC (pc := 109) 1 dX14_sign_109 rfl rfl ?_
                      refine z_iload_n hC (pc := 110) 3 dX14_sign_110 rfl rfl ?_
                      obtain ⟨b211, h⟩ := h
                      refine y_char hC (pc := 111) (i := y198) hs1 b211 dX14_sign_111 zw3022 (Nat.le_of_ble_eq_true rfl) (Nat.le_of_ble_eq_true rfl) (Nat.le_of_ble_eq_true rfl) (Nat.le_of_ble_eq_true rfl) (Nat.le_of_ble_eq_true rfl) (fun x212 hx212 => ?_)
                      have h := h x212 hx212
                      obtain ⟨hT, hF⟩ := h
                      refine y_icmp_ne hC (pc := 114) 121 (Ws196.a _ _) (r_255 hx212) dX14_sign_114 (by decide) (fun c => ?_) (fun c => ?_)
                      · have h := hT c
                        refine z_iconst hC (pc := 121) (v := Int32.ofInt 0) dX14_sign_121 (by decide) ?_
                        refine z_istore_n hC (pc := 122) (lv' := [(2, iv 0), (0, .ref (κ 0)), (1, .ref t1), (3, iv y198)]) dX14_sign_122 rfl (by decide) rfl ?_
                        refine y_iinc hC (pc := 123) (v := (y198 + 1)) (lv' := [(3, iv (y198 + 1)), (2, iv 0), (0, .ref (κ 0)), (1, .ref t1)]) 3 dX14_sign_123 rfl rfl (by decide) rfl ?_
                        refine z_goto hC (pc := 126) 86 dX14_sign_126 (by decide) ?_
                        refine z_lvs [2, 3, 1, 0] rfl ?_
                        obtain ⟨r213, h⟩ := h
                        obtain ⟨hI, hm⟩ := h
                        exact ih86 s196 0 (y198 + 1) Ws196 (r_lit rfl) r213 (rKeep.tr rKeep.rf kJ rfl rfl rfl rfl rfl) hI (by omega)
                      · have h := hF c
                        refine z_iconst hC (pc := 117) (v := Int32.ofInt 1) dX14_sign_117 (by decide) ?_
                        refine z_goto hC (pc := 118) 122 dX14_sign_118 (by decide) ?_
                        refine z_istore_n hC (pc := 122) (lv' := [(2, iv 1), (0, .ref (κ 0)), (1, .ref t1), (3, iv y198)]) dX14_sign_122 rfl (by decide) rfl ?_
                        refine y_iinc hC (pc := 123) (v := (y198 + 1)) (lv' := [(3, iv (y198 + 1)), (2, iv 1), (0, .ref (κ 0)), (1, .ref t1)]) 3 dX14_sign_123 rfl rfl (by decide) rfl ?_
                        refine z_goto hC (pc := 126) 86 dX14_sign_126 (by decide) ?_
                        refine z_lvs [2, 3, 1, 0] rfl ?_
                        obtain ⟨r214, h⟩ := h
                        obtain ⟨hI, hm⟩ := h
                        exact ih86 s196 1 (y198 + 1) Ws196 (r_lit rfl) r214 (rKeep.tr rKeep.rf kJ rfl rfl rfl rfl rfl) hI (by omega)
              refine z_lvs [2, 3, 1, 0] rfl ?_
              exact j86 _ s2 0 0 Ws2 (r_lit rfl) (r_lit rfl) (rKeep.tr rKeep.rf qs2.1 rfl rfl rfl rfl rfl) h (Nat.le_refl _)
  · have h := hF c
    exact y_retv hR dX14_sign_11 Ws2 (Nat.le_of_ble_eq_true rfl) (Nat.le_of_ble_eq_true rfl) ⟨(rKeep.tr rKeep.rf qs2.1 rfl rfl rfl rfl rfl), h⟩
theorem kX14_sign (l : Launch) (G : zG) (κ : Nat → Nat) (σ : rS) (t1 n1 : Nat) (hwf : rWF σ) (hs1 : rSt G t1 n1) (hp : pre_X14_sign σ n1) : rMv l G κ yX14_sign cX14_sign 4 4 121 [.ref (κ 0), .ref t1] σ (fun s => rKeep 0x21c00 0 0 0 0 σ s ∧ post_X14_sign σ n1 s) := wX14_sign l G κ σ t1 n1 hwf hs1 (post_X14_sign σ n1) (vX14_sign σ n1 hwf hs1.1 hp) (vX14_sign_86 σ n1 hwf hs1.1 hp) (vX14_sign_86m σ n1 hwf hs1.1 hp)
