theorem zw3021 : Cond.methodLink "TemplateHouseModel" 290 ⟨"java/lang/String", "length", "()I"⟩ ∈ zT := zsub13 141 (by decide +kernel) (by decide +kernel)
theorem zw3022 : Cond.methodLink "TemplateHouseModel" 296 ⟨"java/lang/String", "charAt", "(I)C"⟩ ∈ zT := zsub13 142 (by decide +kernel) (by decide +kernel)
theorem zw3009 : Cond.methodLink "TemplateHouseModel" 300 ⟨"TemplateHouseModel", "wordEnd", "([BII)I"⟩ ∈ zT := zsub13 129 (by decide +kernel) (by decide +kernel)
theorem zw3018 : Cond.methodLink "TemplateHouseModel" 304 ⟨"TemplateHouseModel", "is", "([BIILjava/lang/String;)Z"⟩ ∈ zT := zsub13 138 (by decide +kernel) (by decide +kernel)
theorem zw3005 : Cond.methodLink "TemplateHouseModel" 313 ⟨"TemplateHouseModel", "isFileWord", "(Ljava/lang/String;)Z"⟩ ∈ zT := zsub13 125 (by decide +kernel) (by decide +kernel)
theorem zw3128 : Cond.methodLink "TemplateHouseModel" 576 ⟨"TemplateHouseModel", "isWord", "(Ljava/lang/String;)Z"⟩ ∈ zT := zsub14 8 (by decide +kernel) (by decide +kernel)
theorem zw3145 : Cond.methodLink "TemplateHouseModel" 602 ⟨"TemplateHouseModel", "function", "()I"⟩ ∈ zT := zsub14 25 (by decide +kernel) (by decide +kernel)
theorem zw3158 : Cond.methodLink "TemplateHouseModel" 605 ⟨"TemplateHouseModel", "isSteering", "()Z"⟩ ∈ zT := zsub14 38 (by decide +kernel) (by decide +kernel)
theorem zw2985 : Cond.methodLink "TemplateHouseModel" 308 ⟨"TemplateHouseModel", "skip", "()V"⟩ ∈ zT := zsub13 105 (by decide +kernel) (by decide +kernel)
theorem zw3020 : Cond.code ⟨"TemplateHouseModel", "is", "([BIILjava/lang/String;)Z"⟩ prog_15_method_10_code 6 (Option.some Jvm.ClassFile.FieldType.boolean) ∈ zT := zsub13 140 rfl rfl
theorem zw3019 : Cond.static ⟨"TemplateHouseModel", "is", "([BIILjava/lang/String;)Z"⟩ ∈ zT := zsub13 139 (by decide +kernel) (by decide +kernel)
theorem zw3008 : Cond.code ⟨"TemplateHouseModel", "isFileWord", "(Ljava/lang/String;)Z"⟩ prog_15_method_11_code 2 (Option.some Jvm.ClassFile.FieldType.boolean) ∈ zT := zsub13 128 rfl rfl
theorem zw3007 : Cond.instanceMethod ⟨"TemplateHouseModel", "isFileWord", "(Ljava/lang/String;)Z"⟩ ∈ zT := zsub13 127 (by decide +kernel) (by decide +kernel)
theorem zwp192 : Cond.selects "TemplateHouseModel" ⟨"TemplateHouseModel", "isFileWord", "(Ljava/lang/String;)Z"⟩ ⟨"TemplateHouseModel", "isFileWord", "(Ljava/lang/String;)Z"⟩ ∈ zT := zin 192 (by decide +kernel) (by decide +kernel)
theorem zw3131 : Cond.code ⟨"TemplateHouseModel", "isWord", "(Ljava/lang/String;)Z"⟩ prog_15_method_41_code 2 (Option.some Jvm.ClassFile.FieldType.boolean) ∈ zT := zsub14 11 rfl rfl
theorem zw3130 : Cond.instanceMethod ⟨"TemplateHouseModel", "isWord", "(Ljava/lang/String;)Z"⟩ ∈ zT := zsub14 10 (by decide +kernel) (by decide +kernel)
theorem zwp210 : Cond.selects "TemplateHouseModel" ⟨"TemplateHouseModel", "isWord", "(Ljava/lang/String;)Z"⟩ ⟨"TemplateHouseModel", "isWord", "(Ljava/lang/String;)Z"⟩ ∈ zT := zin 210 (by decide +kernel) (by decide +kernel)
theorem zw3058 : Cond.code ⟨"TemplateHouseModel", "isFileReserved", "()Z"⟩ prog_15_method_13_code 1 (Option.some Jvm.ClassFile.FieldType.boolean) ∈ zT := zsub13 178 rfl rfl
theorem zw3057 : Cond.instanceMethod ⟨"TemplateHouseModel", "isFileReserved", "()Z"⟩ ∈ zT := zsub13 177 (by decide +kernel) (by decide +kernel)
theorem zwp191 : Cond.selects "TemplateHouseModel" ⟨"TemplateHouseModel", "isFileReserved", "()Z"⟩ ⟨"TemplateHouseModel", "isFileReserved", "()Z"⟩ ∈ zT := zin 191 (by decide +kernel) (by decide +kernel)
theorem zw3148 : Cond.code ⟨"TemplateHouseModel", "function", "()I"⟩ prog_15_method_42_code 1 (Option.some Jvm.ClassFile.FieldType.int) ∈ zT := zsub14 28 rfl rfl
theorem zw3147 : Cond.instanceMethod ⟨"TemplateHouseModel", "function", "()I"⟩ ∈ zT := zsub14 27 (by decide +kernel) (by decide +kernel)
theorem zwp183 : Cond.selects "TemplateHouseModel" ⟨"TemplateHouseModel", "function", "()I"⟩ ⟨"TemplateHouseModel", "function", "()I"⟩ ∈ zT := zin 183 (by decide +kernel) (by decide +kernel)
theorem zw3161 : Cond.code ⟨"TemplateHouseModel", "isSteering", "()Z"⟩ prog_15_method_43_code 1 (Option.some Jvm.ClassFile.FieldType.boolean) ∈ zT := zsub14 41 rfl rfl
theorem zw3160 : Cond.instanceMethod ⟨"TemplateHouseModel", "isSteering", "()Z"⟩ ∈ zT := zsub14 40 (by decide +kernel) (by decide +kernel)
theorem zwp204 : Cond.selects "TemplateHouseModel" ⟨"TemplateHouseModel", "isSteering", "()Z"⟩ ⟨"TemplateHouseModel", "isSteering", "()Z"⟩ ∈ zT := zin 204 (by decide +kernel) (by decide +kernel)
theorem zw3144 : Cond.code ⟨"TemplateHouseModel", "isReserved", "()Z"⟩ prog_15_method_44_code 1 (Option.some Jvm.ClassFile.FieldType.boolean) ∈ zT := zsub14 24 rfl rfl
theorem zw3143 : Cond.instanceMethod ⟨"TemplateHouseModel", "isReserved", "()Z"⟩ ∈ zT := zsub14 23 (by decide +kernel) (by decide +kernel)
theorem zwp201 : Cond.selects "TemplateHouseModel" ⟨"TemplateHouseModel", "isReserved", "()Z"⟩ ⟨"TemplateHouseModel", "isReserved", "()Z"⟩ ∈ zT := zin 201 (by decide +kernel) (by decide +kernel)
theorem zw3037 : Cond.code ⟨"TemplateHouseModel", "sign", "(Ljava/lang/String;)V"⟩ prog_15_method_12_code 4 (Option.none : Option Jvm.ClassFile.FieldType) ∈ zT := zsub13 157 rfl rfl
theorem zw3036 : Cond.instanceMethod ⟨"TemplateHouseModel", "sign", "(Ljava/lang/String;)V"⟩ ∈ zT := zsub13 156 (by decide +kernel) (by decide +kernel)
theorem zwp280 : Cond.selects "TemplateHouseModel" ⟨"TemplateHouseModel", "sign", "(Ljava/lang/String;)V"⟩ ⟨"TemplateHouseModel", "sign", "(Ljava/lang/String;)V"⟩ ∈ zT := zin 280 (by decide +kernel) (by decide +kernel)
abbrev cX14_is : ByteArray := prog_15_method_10_code
abbrev yX14_is : MethodName := ⟨"TemplateHouseModel", "is", "([BIILjava/lang/String;)Z"⟩
theorem dmX14_is : zDs yX14_is cX14_is 6 (some .boolean) 4 := ⟨⟨⟨by decide +kernel, by decide +kernel, by decide +kernel⟩, zw3020, zw14⟩, zw3019⟩
abbrev cX14_isFileWord : ByteArray := prog_15_method_11_code
abbrev yX14_isFileWord : MethodName := ⟨"TemplateHouseModel", "isFileWord", "(Ljava/lang/String;)Z"⟩
theorem dmX14_isFileWord : zDv yX14_isFileWord cX14_isFileWord 2 (some .boolean) 1 := ⟨⟨⟨by decide +kernel, by decide +kernel, by decide +kernel⟩, zw3008, zw14⟩, zw3007, zwp192⟩
abbrev cX14_isWord : ByteArray := prog_15_method_41_code
abbrev yX14_isWord : MethodName := ⟨"TemplateHouseModel", "isWord", "(Ljava/lang/String;)Z"⟩
theorem dmX14_isWord : zDv yX14_isWord cX14_isWord 2 (some .boolean) 1 := ⟨⟨⟨by decide +kernel, by decide +kernel, by decide +kernel⟩, zw3131, zw14⟩, zw3130, zwp210⟩
abbrev cX14_isFileReserved : ByteArray := prog_15_method_13_code
abbrev yX14_isFileReserved : MethodName := ⟨"TemplateHouseModel", "isFileReserved", "()Z"⟩
theorem dmX14_isFileReserved : zDv yX14_isFileReserved cX14_isFileReserved 1 (some .boolean) 0 := ⟨⟨⟨by decide +kernel, by decide +kernel, by decide +kernel⟩, zw3058, zw14⟩, zw3057, zwp191⟩
abbrev cX14_function : ByteArray := prog_15_method_42_code
abbrev yX14_function : MethodName := ⟨"TemplateHouseModel", "function", "()I"⟩
theorem dmX14_function : zDv yX14_function cX14_function 1 (some .int) 0 := ⟨⟨⟨by decide +kernel, by decide +kernel, by decide +kernel⟩, zw3148, zw14⟩, zw3147, zwp183⟩
abbrev cX14_isSteering : ByteArray := prog_15_method_43_code
abbrev yX14_isSteering : MethodName := ⟨"TemplateHouseModel", "isSteering", "()Z"⟩
theorem dmX14_isSteering : zDv yX14_isSteering cX14_isSteering 1 (some .boolean) 0 := ⟨⟨⟨by decide +kernel, by decide +kernel, by decide +kernel⟩, zw3161, zw14⟩, zw3160, zwp204⟩
abbrev cX14_isReserved : ByteArray := prog_15_method_44_code
abbrev yX14_isReserved : MethodName := ⟨"TemplateHouseModel", "isReserved", "()Z"⟩
theorem dmX14_isReserved : zDv yX14_isReserved cX14_isReserved 1 (some .boolean) 0 := ⟨⟨⟨by decide +kernel, by decide +kernel, by decide +kernel⟩, zw3144, zw14⟩, zw3143, zwp201⟩
abbrev cX14_sign : ByteArray := prog_15_method_12_code
abbrev yX14_sign : MethodName := ⟨"TemplateHouseModel", "sign", "(Ljava/lang/String;)V"⟩
theorem dmX14_sign : zDv yX14_sign cX14_sign 4 none 1 := ⟨⟨⟨by decide +kernel, by decide +kernel, by decide +kernel⟩, zw3037, zw14⟩, zw3036, zwp280⟩
theorem dX14_is_0 : decode cX14_is 0 = .ok (.iload_n 2, 1) := by decide +kernel
theorem dX14_is_1 : decode cX14_is 1 = .ok (.iload_n 1, 1) := by decide +kernel
theorem dX14_is_2 : decode cX14_is 2 = .ok (.isub, 1) := by decide +kernel
theorem dX14_is_3 : decode cX14_is 3 = .ok (.aload_n 3, 1) := by decide +kernel
theorem dX14_is_4 : decode cX14_is 4 = .ok (.invokevirtual 290, 3) := by decide +kernel
theorem dX14_is_7 : decode cX14_is 7 = .ok (.if_icmp .ne 7, 3) := by decide +kernel
theorem dX14_is_14 : decode cX14_is 14 = .ok (.iconst 0, 1) := by decide +kernel
theorem dX14_is_15 : decode cX14_is 15 = .ok (.istore 4, 2) := by decide +kernel
theorem dX14_is_17 : decode cX14_is 17 = .ok (.iconst 0, 1) := by decide +kernel
theorem dX14_is_18 : decode cX14_is 18 = .ok (.istore 5, 2) := by decide +kernel
theorem dX14_is_20 : decode cX14_is 20 = .ok (.iload 5, 2) := by decide +kernel
theorem dX14_is_22 : decode cX14_is 22 = .ok (.aload_n 3, 1) := by decide +kernel
theorem dX14_is_23 : decode cX14_is 23 = .ok (.invokevirtual 290, 3) := by decide +kernel
theorem dX14_is_26 : decode cX14_is 26 = .ok (.if_icmp .ge 36, 3) := by decide +kernel
theorem dX14_is_62 : decode cX14_is 62 = .ok (.iload 4, 2) := by decide +kernel
theorem dX14_is_64 : decode cX14_is 64 = .ok (.ireturn, 1) := by decide +kernel
theorem dX14_is_29 : decode cX14_is 29 = .ok (.iload 4, 2) := by decide +kernel
theorem dX14_is_31 : decode cX14_is 31 = .ok (.ifCond .eq 31, 3) := by decide +kernel
theorem dX14_is_34 : decode cX14_is 34 = .ok (.aload_n 0, 1) := by decide +kernel
theorem dX14_is_35 : decode cX14_is 35 = .ok (.iload_n 1, 1) := by decide +kernel
theorem dX14_is_36 : decode cX14_is 36 = .ok (.iload 5, 2) := by decide +kernel
theorem dX14_is_38 : decode cX14_is 38 = .ok (.iadd, 1) := by decide +kernel
theorem dX14_is_39 : decode cX14_is 39 = .ok (.baload, 1) := by decide +kernel
theorem dX14_is_40 : decode cX14_is 40 = .ok (.aload_n 3, 1) := by decide +kernel
theorem dX14_is_41 : decode cX14_is 41 = .ok (.iload 5, 2) := by decide +kernel
theorem dX14_is_43 : decode cX14_is 43 = .ok (.invokevirtual 296, 3) := by decide +kernel
theorem dX14_is_46 : decode cX14_is 46 = .ok (.if_icmp .ne 7, 3) := by decide +kernel
theorem dX14_is_53 : decode cX14_is 53 = .ok (.iconst 0, 1) := by decide +kernel
theorem dX14_is_54 : decode cX14_is 54 = .ok (.istore 4, 2) := by decide +kernel
theorem dX14_is_56 : decode cX14_is 56 = .ok (.iinc 5 1, 3) := by decide +kernel
theorem dX14_is_59 : decode cX14_is 59 = .ok (.goto (-39), 3) := by decide +kernel
theorem dX14_is_49 : decode cX14_is 49 = .ok (.iconst 1, 1) := by decide +kernel
theorem dX14_is_50 : decode cX14_is 50 = .ok (.goto 4, 3) := by decide +kernel
theorem dX14_is_10 : decode cX14_is 10 = .ok (.iconst 1, 1) := by decide +kernel
theorem dX14_is_11 : decode cX14_is 11 = .ok (.goto 4, 3) := by decide +kernel
theorem dX14_isFileWord_0 : decode cX14_isFileWord 0 = .ok (.aload_n 0, 1) := by decide +kernel
theorem dX14_isFileWord_1 : decode cX14_isFileWord 1 = .ok (.getfield 263, 3) := by decide +kernel
theorem dX14_isFileWord_4 : decode cX14_isFileWord 4 = .ok (.aload_n 0, 1) := by decide +kernel
theorem dX14_isFileWord_5 : decode cX14_isFileWord 5 = .ok (.getfield 274, 3) := by decide +kernel
theorem dX14_isFileWord_8 : decode cX14_isFileWord 8 = .ok (.aload_n 0, 1) := by decide +kernel
theorem dX14_isFileWord_9 : decode cX14_isFileWord 9 = .ok (.getfield 263, 3) := by decide +kernel
theorem dX14_isFileWord_12 : decode cX14_isFileWord 12 = .ok (.aload_n 0, 1) := by decide +kernel
theorem dX14_isFileWord_13 : decode cX14_isFileWord 13 = .ok (.getfield 260, 3) := by decide +kernel
theorem dX14_isFileWord_16 : decode cX14_isFileWord 16 = .ok (.aload_n 0, 1) := by decide +kernel
theorem dX14_isFileWord_17 : decode cX14_isFileWord 17 = .ok (.getfield 274, 3) := by decide +kernel
theorem dX14_isFileWord_20 : decode cX14_isFileWord 20 = .ok (.invokestatic 300, 3) := by decide +kernel
theorem dX14_isFileWord_23 : decode cX14_isFileWord 23 = .ok (.aload_n 1, 1) := by decide +kernel
theorem dX14_isFileWord_24 : decode cX14_isFileWord 24 = .ok (.invokestatic 304, 3) := by decide +kernel
theorem dX14_isFileWord_27 : decode cX14_isFileWord 27 = .ok (.ireturn, 1) := by decide +kernel
theorem dX14_isWord_0 : decode cX14_isWord 0 = .ok (.aload_n 0, 1) := by decide +kernel
theorem dX14_isWord_1 : decode cX14_isWord 1 = .ok (.getfield 36, 3) := by decide +kernel
theorem dX14_isWord_4 : decode cX14_isWord 4 = .ok (.aload_n 0, 1) := by decide +kernel
theorem dX14_isWord_5 : decode cX14_isWord 5 = .ok (.getfield 548, 3) := by decide +kernel
theorem dX14_isWord_8 : decode cX14_isWord 8 = .ok (.aload_n 0, 1) := by decide +kernel
theorem dX14_isWord_9 : decode cX14_isWord 9 = .ok (.getfield 36, 3) := by decide +kernel
theorem dX14_isWord_12 : decode cX14_isWord 12 = .ok (.aload_n 0, 1) := by decide +kernel
theorem dX14_isWord_13 : decode cX14_isWord 13 = .ok (.getfield 533, 3) := by decide +kernel
theorem dX14_isWord_16 : decode cX14_isWord 16 = .ok (.aload_n 0, 1) := by decide +kernel
theorem dX14_isWord_17 : decode cX14_isWord 17 = .ok (.getfield 548, 3) := by decide +kernel
theorem dX14_isWord_20 : decode cX14_isWord 20 = .ok (.invokestatic 300, 3) := by decide +kernel
theorem dX14_isWord_23 : decode cX14_isWord 23 = .ok (.aload_n 1, 1) := by decide +kernel
theorem dX14_isWord_24 : decode cX14_isWord 24 = .ok (.invokestatic 304, 3) := by decide +kernel
theorem dX14_isWord_27 : decode cX14_isWord 27 = .ok (.ireturn, 1) := by decide +kernel
theorem dX14_isFileReserved_0 : decode cX14_isFileReserved 0 = .ok (.aload_n 0, 1) := by decide +kernel
theorem dX14_isFileReserved_1 : decode cX14_isFileReserved 1 = .ok (.ldc_w 311, 3) := by decide +kernel
theorem dX14_isFileReserved_4 : decode cX14_isFileReserved 4 = .ok (.invokevirtual 313, 3) := by decide +kernel
theorem dX14_isFileReserved_7 : decode cX14_isFileReserved 7 = .ok (.ifCond .ne 53, 3) := by decide +kernel
theorem dX14_isFileReserved_60 : decode cX14_isFileReserved 60 = .ok (.iconst 1, 1) := by decide +kernel
theorem dX14_isFileReserved_61 : decode cX14_isFileReserved 61 = .ok (.goto 4, 3) := by decide +kernel
theorem dX14_isFileReserved_65 : decode cX14_isFileReserved 65 = .ok (.ireturn, 1) := by decide +kernel
theorem dX14_isFileReserved_10 : decode cX14_isFileReserved 10 = .ok (.aload_n 0, 1) := by decide +kernel
theorem dX14_isFileReserved_11 : decode cX14_isFileReserved 11 = .ok (.ldc_w 317, 3) := by decide +kernel
theorem dX14_isFileReserved_14 : decode cX14_isFileReserved 14 = .ok (.invokevirtual 313, 3) := by decide +kernel
theorem dX14_isFileReserved_17 : decode cX14_isFileReserved 17 = .ok (.ifCond .ne 43, 3) := by decide +kernel
theorem dX14_isFileReserved_20 : decode cX14_isFileReserved 20 = .ok (.aload_n 0, 1) := by decide +kernel
theorem dX14_isFileReserved_21 : decode cX14_isFileReserved 21 = .ok (.ldc_w 319, 3) := by decide +kernel
theorem dX14_isFileReserved_24 : decode cX14_isFileReserved 24 = .ok (.invokevirtual 313, 3) := by decide +kernel
theorem dX14_isFileReserved_27 : decode cX14_isFileReserved 27 = .ok (.ifCond .ne 33, 3) := by decide +kernel
theorem dX14_isFileReserved_30 : decode cX14_isFileReserved 30 = .ok (.aload_n 0, 1) := by decide +kernel
theorem dX14_isFileReserved_31 : decode cX14_isFileReserved 31 = .ok (.ldc_w 321, 3) := by decide +kernel
theorem dX14_isFileReserved_34 : decode cX14_isFileReserved 34 = .ok (.invokevirtual 313, 3) := by decide +kernel
theorem dX14_isFileReserved_37 : decode cX14_isFileReserved 37 = .ok (.ifCond .ne 23, 3) := by decide +kernel
theorem dX14_isFileReserved_40 : decode cX14_isFileReserved 40 = .ok (.aload_n 0, 1) := by decide +kernel
theorem dX14_isFileReserved_41 : decode cX14_isFileReserved 41 = .ok (.ldc_w 323, 3) := by decide +kernel
theorem dX14_isFileReserved_44 : decode cX14_isFileReserved 44 = .ok (.invokevirtual 313, 3) := by decide +kernel
theorem dX14_isFileReserved_47 : decode cX14_isFileReserved 47 = .ok (.ifCond .ne 13, 3) := by decide +kernel
theorem dX14_isFileReserved_50 : decode cX14_isFileReserved 50 = .ok (.aload_n 0, 1) := by decide +kernel
theorem dX14_isFileReserved_51 : decode cX14_isFileReserved 51 = .ok (.ldc_w 325, 3) := by decide +kernel
theorem dX14_isFileReserved_54 : decode cX14_isFileReserved 54 = .ok (.invokevirtual 313, 3) := by decide +kernel
theorem dX14_isFileReserved_57 : decode cX14_isFileReserved 57 = .ok (.ifCond .eq 7, 3) := by decide +kernel
theorem dX14_isFileReserved_64 : decode cX14_isFileReserved 64 = .ok (.iconst 0, 1) := by decide +kernel
theorem dX14_function_0 : decode cX14_function 0 = .ok (.aload_n 0, 1) := by decide +kernel
theorem dX14_function_1 : decode cX14_function 1 = .ok (.ldc_w 574, 3) := by decide +kernel
theorem dX14_function_4 : decode cX14_function 4 = .ok (.invokevirtual 576, 3) := by decide +kernel
theorem dX14_function_7 : decode cX14_function 7 = .ok (.ifCond .eq 7, 3) := by decide +kernel
theorem dX14_function_14 : decode cX14_function 14 = .ok (.aload_n 0, 1) := by decide +kernel
theorem dX14_function_15 : decode cX14_function 15 = .ok (.ldc_w 579, 3) := by decide +kernel
theorem dX14_function_18 : decode cX14_function 18 = .ok (.invokevirtual 576, 3) := by decide +kernel
theorem dX14_function_21 : decode cX14_function 21 = .ok (.ifCond .eq 7, 3) := by decide +kernel
theorem dX14_function_28 : decode cX14_function 28 = .ok (.aload_n 0, 1) := by decide +kernel
theorem dX14_function_29 : decode cX14_function 29 = .ok (.ldc_w 581, 3) := by decide +kernel
theorem dX14_function_32 : decode cX14_function 32 = .ok (.invokevirtual 576, 3) := by decide +kernel
theorem dX14_function_35 : decode cX14_function 35 = .ok (.ifCond .eq 7, 3) := by decide +kernel
theorem dX14_function_42 : decode cX14_function 42 = .ok (.aload_n 0, 1) := by decide +kernel
theorem dX14_function_43 : decode cX14_function 43 = .ok (.ldc_w 583, 3) := by decide +kernel
theorem dX14_function_46 : decode cX14_function 46 = .ok (.invokevirtual 576, 3) := by decide +kernel
theorem dX14_function_49 : decode cX14_function 49 = .ok (.ifCond .eq 7, 3) := by decide +kernel
theorem dX14_function_56 : decode cX14_function 56 = .ok (.aload_n 0, 1) := by decide +kernel
theorem dX14_function_57 : decode cX14_function 57 = .ok (.ldc_w 585, 3) := by decide +kernel
theorem dX14_function_60 : decode cX14_function 60 = .ok (.invokevirtual 576, 3) := by decide +kernel
theorem dX14_function_63 : decode cX14_function 63 = .ok (.ifCond .eq 7, 3) := by decide +kernel
theorem dX14_function_70 : decode cX14_function 70 = .ok (.aload_n 0, 1) := by decide +kernel
theorem dX14_function_71 : decode cX14_function 71 = .ok (.ldc_w 587, 3) := by decide +kernel
theorem dX14_function_74 : decode cX14_function 74 = .ok (.invokevirtual 576, 3) := by decide +kernel
theorem dX14_function_77 : decode cX14_function 77 = .ok (.ifCond .eq 7, 3) := by decide +kernel
theorem dX14_function_84 : decode cX14_function 84 = .ok (.aload_n 0, 1) := by decide +kernel
theorem dX14_function_85 : decode cX14_function 85 = .ok (.ldc_w 589, 3) := by decide +kernel
theorem dX14_function_88 : decode cX14_function 88 = .ok (.invokevirtual 576, 3) := by decide +kernel
theorem dX14_function_91 : decode cX14_function 91 = .ok (.ifCond .eq 8, 3) := by decide +kernel
theorem dX14_function_99 : decode cX14_function 99 = .ok (.aload_n 0, 1) := by decide +kernel
theorem dX14_function_100 : decode cX14_function 100 = .ok (.ldc_w 590, 3) := by decide +kernel
theorem dX14_function_103 : decode cX14_function 103 = .ok (.invokevirtual 576, 3) := by decide +kernel
theorem dX14_function_106 : decode cX14_function 106 = .ok (.ifCond .eq 8, 3) := by decide +kernel
theorem dX14_function_114 : decode cX14_function 114 = .ok (.aload_n 0, 1) := by decide +kernel
theorem dX14_function_115 : decode cX14_function 115 = .ok (.ldc_w 592, 3) := by decide +kernel
theorem dX14_function_118 : decode cX14_function 118 = .ok (.invokevirtual 576, 3) := by decide +kernel
theorem dX14_function_121 : decode cX14_function 121 = .ok (.ifCond .eq 8, 3) := by decide +kernel
theorem dX14_function_129 : decode cX14_function 129 = .ok (.iconst (-1), 1) := by decide +kernel
theorem dX14_function_130 : decode cX14_function 130 = .ok (.ireturn, 1) := by decide +kernel
theorem dX14_function_124 : decode cX14_function 124 = .ok (.bipush 8, 2) := by decide +kernel
theorem dX14_function_126 : decode cX14_function 126 = .ok (.goto 4, 3) := by decide +kernel
theorem dX14_function_109 : decode cX14_function 109 = .ok (.bipush 7, 2) := by decide +kernel
theorem dX14_function_111 : decode cX14_function 111 = .ok (.goto 19, 3) := by decide +kernel
theorem dX14_function_94 : decode cX14_function 94 = .ok (.bipush 6, 2) := by decide +kernel
theorem dX14_function_96 : decode cX14_function 96 = .ok (.goto 34, 3) := by decide +kernel
theorem dX14_function_80 : decode cX14_function 80 = .ok (.iconst 5, 1) := by decide +kernel
theorem dX14_function_81 : decode cX14_function 81 = .ok (.goto 49, 3) := by decide +kernel
theorem dX14_function_66 : decode cX14_function 66 = .ok (.iconst 4, 1) := by decide +kernel
theorem dX14_function_67 : decode cX14_function 67 = .ok (.goto 63, 3) := by decide +kernel
theorem dX14_function_52 : decode cX14_function 52 = .ok (.iconst 3, 1) := by decide +kernel
theorem dX14_function_53 : decode cX14_function 53 = .ok (.goto 77, 3) := by decide +kernel
theorem dX14_function_38 : decode cX14_function 38 = .ok (.iconst 2, 1) := by decide +kernel
theorem dX14_function_39 : decode cX14_function 39 = .ok (.goto 91, 3) := by decide +kernel
theorem dX14_function_24 : decode cX14_function 24 = .ok (.iconst 1, 1) := by decide +kernel
theorem dX14_function_25 : decode cX14_function 25 = .ok (.goto 105, 3) := by decide +kernel
theorem dX14_function_10 : decode cX14_function 10 = .ok (.iconst 0, 1) := by decide +kernel
theorem dX14_function_11 : decode cX14_function 11 = .ok (.goto 119, 3) := by decide +kernel
theorem dX14_isSteering_0 : decode cX14_isSteering 0 = .ok (.aload_n 0, 1) := by decide +kernel
theorem dX14_isSteering_1 : decode cX14_isSteering 1 = .ok (.ldc_w 594, 3) := by decide +kernel
theorem dX14_isSteering_4 : decode cX14_isSteering 4 = .ok (.invokevirtual 576, 3) := by decide +kernel
theorem dX14_isSteering_7 : decode cX14_isSteering 7 = .ok (.ifCond .ne 33, 3) := by decide +kernel
theorem dX14_isSteering_40 : decode cX14_isSteering 40 = .ok (.iconst 1, 1) := by decide +kernel
theorem dX14_isSteering_41 : decode cX14_isSteering 41 = .ok (.goto 4, 3) := by decide +kernel
theorem dX14_isSteering_45 : decode cX14_isSteering 45 = .ok (.ireturn, 1) := by decide +kernel
theorem dX14_isSteering_10 : decode cX14_isSteering 10 = .ok (.aload_n 0, 1) := by decide +kernel
theorem dX14_isSteering_11 : decode cX14_isSteering 11 = .ok (.ldc_w 596, 3) := by decide +kernel
theorem dX14_isSteering_14 : decode cX14_isSteering 14 = .ok (.invokevirtual 576, 3) := by decide +kernel
theorem dX14_isSteering_17 : decode cX14_isSteering 17 = .ok (.ifCond .ne 23, 3) := by decide +kernel
theorem dX14_isSteering_20 : decode cX14_isSteering 20 = .ok (.aload_n 0, 1) := by decide +kernel
theorem dX14_isSteering_21 : decode cX14_isSteering 21 = .ok (.ldc_w 598, 3) := by decide +kernel
theorem dX14_isSteering_24 : decode cX14_isSteering 24 = .ok (.invokevirtual 576, 3) := by decide +kernel
theorem dX14_isSteering_27 : decode cX14_isSteering 27 = .ok (.ifCond .ne 13, 3) := by decide +kernel
theorem dX14_isSteering_30 : decode cX14_isSteering 30 = .ok (.aload_n 0, 1) := by decide +kernel
theorem dX14_isSteering_31 : decode cX14_isSteering 31 = .ok (.ldc_w 600, 3) := by decide +kernel
theorem dX14_isSteering_34 : decode cX14_isSteering 34 = .ok (.invokevirtual 576, 3) := by decide +kernel
theorem dX14_isSteering_37 : decode cX14_isSteering 37 = .ok (.ifCond .eq 7, 3) := by decide +kernel
theorem dX14_isSteering_44 : decode cX14_isSteering 44 = .ok (.iconst 0, 1) := by decide +kernel
theorem dX14_isReserved_0 : decode cX14_isReserved 0 = .ok (.aload_n 0, 1) := by decide +kernel
theorem dX14_isReserved_1 : decode cX14_isReserved 1 = .ok (.invokevirtual 602, 3) := by decide +kernel
theorem dX14_isReserved_4 : decode cX14_isReserved 4 = .ok (.ifCond .ge 40, 3) := by decide +kernel
theorem dX14_isReserved_44 : decode cX14_isReserved 44 = .ok (.iconst 1, 1) := by decide +kernel
theorem dX14_isReserved_45 : decode cX14_isReserved 45 = .ok (.goto 4, 3) := by decide +kernel
theorem dX14_isReserved_49 : decode cX14_isReserved 49 = .ok (.ireturn, 1) := by decide +kernel
theorem dX14_isReserved_7 : decode cX14_isReserved 7 = .ok (.aload_n 0, 1) := by decide +kernel
theorem dX14_isReserved_8 : decode cX14_isReserved 8 = .ok (.invokevirtual 605, 3) := by decide +kernel
theorem dX14_isReserved_11 : decode cX14_isReserved 11 = .ok (.ifCond .ne 33, 3) := by decide +kernel
theorem dX14_isReserved_14 : decode cX14_isReserved 14 = .ok (.aload_n 0, 1) := by decide +kernel
theorem dX14_isReserved_15 : decode cX14_isReserved 15 = .ok (.ldc_w 608, 3) := by decide +kernel
theorem dX14_isReserved_18 : decode cX14_isReserved 18 = .ok (.invokevirtual 576, 3) := by decide +kernel
theorem dX14_isReserved_21 : decode cX14_isReserved 21 = .ok (.ifCond .ne 23, 3) := by decide +kernel
theorem dX14_isReserved_24 : decode cX14_isReserved 24 = .ok (.aload_n 0, 1) := by decide +kernel
theorem dX14_isReserved_25 : decode cX14_isReserved 25 = .ok (.ldc_w 323, 3) := by decide +kernel
theorem dX14_isReserved_28 : decode cX14_isReserved 28 = .ok (.invokevirtual 576, 3) := by decide +kernel
theorem dX14_isReserved_31 : decode cX14_isReserved 31 = .ok (.ifCond .ne 13, 3) := by decide +kernel
theorem dX14_isReserved_34 : decode cX14_isReserved 34 = .ok (.aload_n 0, 1) := by decide +kernel
theorem dX14_isReserved_35 : decode cX14_isReserved 35 = .ok (.ldc_w 325, 3) := by decide +kernel
theorem dX14_isReserved_38 : decode cX14_isReserved 38 = .ok (.invokevirtual 576, 3) := by decide +kernel
theorem dX14_isReserved_41 : decode cX14_isReserved 41 = .ok (.ifCond .eq 7, 3) := by decide +kernel
theorem dX14_isReserved_48 : decode cX14_isReserved 48 = .ok (.iconst 0, 1) := by decide +kernel
theorem dX14_sign_0 : decode cX14_sign 0 = .ok (.aload_n 0, 1) := by decide +kernel
theorem dX14_sign_1 : decode cX14_sign 1 = .ok (.invokevirtual 308, 3) := by decide +kernel
theorem dX14_sign_4 : decode cX14_sign 4 = .ok (.aload_n 0, 1) := by decide +kernel
theorem dX14_sign_5 : decode cX14_sign 5 = .ok (.getfield 248, 3) := by decide +kernel
theorem dX14_sign_8 : decode cX14_sign 8 = .ok (.ifCond .eq 4, 3) := by decide +kernel
theorem dX14_sign_12 : decode cX14_sign 12 = .ok (.aload_n 0, 1) := by decide +kernel
theorem dX14_sign_13 : decode cX14_sign 13 = .ok (.getfield 274, 3) := by decide +kernel
theorem dX14_sign_16 : decode cX14_sign 16 = .ok (.aload_n 1, 1) := by decide +kernel
theorem dX14_sign_17 : decode cX14_sign 17 = .ok (.invokevirtual 290, 3) := by decide +kernel
theorem dX14_sign_20 : decode cX14_sign 20 = .ok (.iadd, 1) := by decide +kernel
theorem dX14_sign_21 : decode cX14_sign 21 = .ok (.aload_n 0, 1) := by decide +kernel
theorem dX14_sign_22 : decode cX14_sign 22 = .ok (.getfield 260, 3) := by decide +kernel
theorem dX14_sign_25 : decode cX14_sign 25 = .ok (.if_icmp .gt 7, 3) := by decide +kernel
theorem dX14_sign_32 : decode cX14_sign 32 = .ok (.iconst 0, 1) := by decide +kernel
theorem dX14_sign_33 : decode cX14_sign 33 = .ok (.istore_n 2, 1) := by decide +kernel
theorem dX14_sign_34 : decode cX14_sign 34 = .ok (.aload_n 1, 1) := by decide +kernel
theorem dX14_sign_35 : decode cX14_sign 35 = .ok (.invokevirtual 290, 3) := by decide +kernel
theorem dX14_sign_38 : decode cX14_sign 38 = .ok (.iconst 1, 1) := by decide +kernel
theorem dX14_sign_39 : decode cX14_sign 39 = .ok (.if_icmp .ne 45, 3) := by decide +kernel
theorem dX14_sign_84 : decode cX14_sign 84 = .ok (.iconst 0, 1) := by decide +kernel
theorem dX14_sign_85 : decode cX14_sign 85 = .ok (.istore_n 3, 1) := by decide +kernel
theorem dX14_sign_86 : decode cX14_sign 86 = .ok (.iload_n 3, 1) := by decide +kernel
theorem dX14_sign_87 : decode cX14_sign 87 = .ok (.aload_n 1, 1) := by decide +kernel
theorem dX14_sign_88 : decode cX14_sign 88 = .ok (.invokevirtual 290, 3) := by decide +kernel
theorem dX14_sign_91 : decode cX14_sign 91 = .ok (.if_icmp .ge 38, 3) := by decide +kernel
theorem dX14_sign_129 : decode cX14_sign 129 = .ok (.iload_n 2, 1) := by decide +kernel
theorem dX14_sign_130 : decode cX14_sign 130 = .ok (.ifCond .eq 19, 3) := by decide +kernel
theorem dX14_sign_149 : decode cX14_sign 149 = .ok (.aload_n 0, 1) := by decide +kernel
theorem dX14_sign_150 : decode cX14_sign 150 = .ok (.iconst 1, 1) := by decide +kernel
theorem dX14_sign_151 : decode cX14_sign 151 = .ok (.aload_n 0, 1) := by decide +kernel
theorem dX14_sign_152 : decode cX14_sign 152 = .ok (.getfield 274, 3) := by decide +kernel
theorem dX14_sign_155 : decode cX14_sign 155 = .ok (.invokevirtual 280, 3) := by decide +kernel
theorem dX14_sign_158 : decode cX14_sign 158 = .ok (.return_, 1) := by decide +kernel
theorem dX14_sign_133 : decode cX14_sign 133 = .ok (.aload_n 0, 1) := by decide +kernel
theorem dX14_sign_134 : decode cX14_sign 134 = .ok (.dup, 1) := by decide +kernel
theorem dX14_sign_135 : decode cX14_sign 135 = .ok (.getfield 274, 3) := by decide +kernel
theorem dX14_sign_138 : decode cX14_sign 138 = .ok (.aload_n 1, 1) := by decide +kernel
theorem dX14_sign_139 : decode cX14_sign 139 = .ok (.invokevirtual 290, 3) := by decide +kernel
theorem dX14_sign_142 : decode cX14_sign 142 = .ok (.iadd, 1) := by decide +kernel
theorem dX14_sign_143 : decode cX14_sign 143 = .ok (.putfield 274, 3) := by decide +kernel
theorem dX14_sign_146 : decode cX14_sign 146 = .ok (.goto 12, 3) := by decide +kernel
theorem dX14_sign_94 : decode cX14_sign 94 = .ok (.iload_n 2, 1) := by decide +kernel
theorem dX14_sign_95 : decode cX14_sign 95 = .ok (.ifCond .eq 34, 3) := by decide +kernel
theorem dX14_sign_98 : decode cX14_sign 98 = .ok (.aload_n 0, 1) := by decide +kernel
theorem dX14_sign_99 : decode cX14_sign 99 = .ok (.getfield 263, 3) := by decide +kernel
theorem dX14_sign_102 : decode cX14_sign 102 = .ok (.aload_n 0, 1) := by decide +kernel
theorem dX14_sign_103 : decode cX14_sign 103 = .ok (.getfield 274, 3) := by decide +kernel
theorem dX14_sign_106 : decode cX14_sign 106 = .ok (.iload_n 3, 1) := by decide +kernel
theorem dX14_sign_107 : decode cX14_sign 107 = .ok (.iadd, 1) := by decide +kernel
theorem dX14_sign_108 : decode cX14_sign 108 = .ok (.baload, 1) := by decide +kernel
theorem dX14_sign_109 : decode cX14_sign 109 = .ok (.aload_n 1, 1) := by decide +kernel
theorem dX14_sign_110 : decode cX14_sign 110 = .ok (.iload_n 3, 1) := by decide +kernel
theorem dX14_sign_111 : decode cX14_sign 111 = .ok (.invokevirtual 296, 3) := by decide +kernel
theorem dX14_sign_114 : decode cX14_sign 114 = .ok (.if_icmp .ne 7, 3) := by decide +kernel
theorem dX14_sign_121 : decode cX14_sign 121 = .ok (.iconst 0, 1) := by decide +kernel
theorem dX14_sign_122 : decode cX14_sign 122 = .ok (.istore_n 2, 1) := by decide +kernel
theorem dX14_sign_123 : decode cX14_sign 123 = .ok (.iinc 3 1, 3) := by decide +kernel
theorem dX14_sign_126 : decode cX14_sign 126 = .ok (.goto (-40), 3) := by decide +kernel
theorem dX14_sign_117 : decode cX14_sign 117 = .ok (.iconst 1, 1) := by decide +kernel
theorem dX14_sign_118 : decode cX14_sign 118 = .ok (.goto 4, 3) := by decide +kernel
theorem dX14_sign_42 : decode cX14_sign 42 = .ok (.aload_n 1, 1) := by decide +kernel
theorem dX14_sign_43 : decode cX14_sign 43 = .ok (.iconst 0, 1) := by decide +kernel
theorem dX14_sign_44 : decode cX14_sign 44 = .ok (.invokevirtual 296, 3) := by decide +kernel
theorem dX14_sign_47 : decode cX14_sign 47 = .ok (.bipush 58, 2) := by decide +kernel
theorem dX14_sign_49 : decode cX14_sign 49 = .ok (.if_icmp .ne 35, 3) := by decide +kernel
theorem dX14_sign_52 : decode cX14_sign 52 = .ok (.aload_n 0, 1) := by decide +kernel
theorem dX14_sign_53 : decode cX14_sign 53 = .ok (.aload_n 0, 1) := by decide +kernel
theorem dX14_sign_54 : decode cX14_sign 54 = .ok (.getfield 274, 3) := by decide +kernel
theorem dX14_sign_57 : decode cX14_sign 57 = .ok (.iconst 1, 1) := by decide +kernel
theorem dX14_sign_58 : decode cX14_sign 58 = .ok (.iadd, 1) := by decide +kernel
theorem dX14_sign_59 : decode cX14_sign 59 = .ok (.invokevirtual 266, 3) := by decide +kernel
theorem dX14_sign_62 : decode cX14_sign 62 = .ok (.bipush 58, 2) := by decide +kernel
theorem dX14_sign_64 : decode cX14_sign 64 = .ok (.if_icmp .ne 20, 3) := by decide +kernel
theorem dX14_sign_67 : decode cX14_sign 67 = .ok (.aload_n 0, 1) := by decide +kernel
theorem dX14_sign_68 : decode cX14_sign 68 = .ok (.aload_n 0, 1) := by decide +kernel
theorem dX14_sign_69 : decode cX14_sign 69 = .ok (.getfield 274, 3) := by decide +kernel
theorem dX14_sign_72 : decode cX14_sign 72 = .ok (.iconst 2, 1) := by decide +kernel
theorem dX14_sign_73 : decode cX14_sign 73 = .ok (.iadd, 1) := by decide +kernel
theorem dX14_sign_74 : decode cX14_sign 74 = .ok (.invokevirtual 266, 3) := by decide +kernel
theorem dX14_sign_77 : decode cX14_sign 77 = .ok (.bipush 61, 2) := by decide +kernel
theorem dX14_sign_79 : decode cX14_sign 79 = .ok (.if_icmp .ne 5, 3) := by decide +kernel
theorem dX14_sign_82 : decode cX14_sign 82 = .ok (.iconst 0, 1) := by decide +kernel
theorem dX14_sign_83 : decode cX14_sign 83 = .ok (.istore_n 2, 1) := by decide +kernel
theorem dX14_sign_28 : decode cX14_sign 28 = .ok (.iconst 1, 1) := by decide +kernel
theorem dX14_sign_29 : decode cX14_sign 29 = .ok (.goto 4, 3) := by decide +kernel
theorem dX14_sign_11 : decode cX14_sign 11 = .ok (.return_, 1) := by decide +kernel
def pre_X14_is (σ : rS) (p0 n0 : Nat) (x1 : Int) (x2 : Int) (n3 : Nat) : Prop := 0 ≤ x1 ∧ x1 ≤ x2 ∧ x2 ≤ n0 ∧ n0 ≤ 100000
def post_X14_is (σ : rS) (p0 n0 : Nat) (x1 : Int) (x2 : Int) (n3 : Nat) (r : Int) : Prop := (r = 0 ∨ r = 1) ∧ (r = 1 → x2 - x1 = (n3 : Int))
def inv_X14_is_20 (σ : rS) (p0 n0 : Nat) (x1 : Int) (x2 : Int) (n3 : Nat)  (s : rS) (b : Int) (kk : Int) : Prop := (b = 0 ∨ b = 1) ∧ (b = 1 → x2 - x1 = (n3 : Int)) ∧ 0 ≤ kk ∧ kk ≤ (n3 : Int)
def mu_X14_is_20 (σ : rS) (p0 n0 : Nat) (x1 : Int) (x2 : Int) (n3 : Nat) (s : rS) (b : Int) (kk : Int) : Nat := (1 + ((n3 : Int) - kk).toNat)
def VC_X14_is (σ : rS) (p0 n0 : Nat) (x1 : Int) (x2 : Int) (n3 : Nat) (Q : Int → Prop) : Prop := rng (x2 - x1) ∧ ((¬ (x2 - x1) = (n3 : Int) → (inv_X14_is_20 σ p0 n0 x1 x2 n3 σ 0 0)) ∧ ((x2 - x1) = (n3 : Int) → (inv_X14_is_20 σ p0 n0 x1 x2 n3 σ 1 0)))
def VC_X14_is_20 (σ : rS) (p0 n0 : Nat) (x1 : Int) (x2 : Int) (n3 : Nat) (Q : Int → Prop) : Prop := ∀ (y11 : Int) (y12 : Int), rng y11 → rng y12 → inv_X14_is_20 σ p0 n0 x1 x2 n3 σ y11 y12 → ((((n3 : Int) ≤ y12 → (y11 = 0 ∨ y11 = 1) ∧ Q y11) ∧ (¬ (n3 : Int) ≤ y12 → ((y11 = 0 → (y11 = 0 ∨ y11 = 1) ∧ Q y11) ∧ (¬ y11 = 0 → (0 ≤ (x1 + y12) ∧ (x1 + y12) < n0) ∧ (rng (rA σ p0 (x1 + y12)) → ((0 : Int) ≤ y12 ∧ y12 < (n3 : Int)) ∧ (∀ (x17 : Int), (0 ≤ x17 ∧ x17 ≤ 255) → ((¬ (rA σ p0 (x1 + y12)) = x17 → rng (y12 + 1) ∧ (inv_X14_is_20 σ p0 n0 x1 x2 n3 σ 0 (y12 + 1) ∧ (mu_X14_is_20 σ p0 n0 x1 x2 n3 σ 0 (y12 + 1)) < (mu_X14_is_20 σ p0 n0 x1 x2 n3 σ y11 y12))) ∧ ((rA σ p0 (x1 + y12)) = x17 → rng (y12 + 1) ∧ (inv_X14_is_20 σ p0 n0 x1 x2 n3 σ 1 (y12 + 1) ∧ (mu_X14_is_20 σ p0 n0 x1 x2 n3 σ 1 (y12 + 1)) < (mu_X14_is_20 σ p0 n0 x1 x2 n3 σ y11 y12)))))))))))
def VC_X14_is_20m (σ : rS) (p0 n0 : Nat) (x1 : Int) (x2 : Int) (n3 : Nat) : Prop := ∀ (y11 : Int) (y12 : Int), rng y11 → rng y12 → inv_X14_is_20 σ p0 n0 x1 x2 n3 σ y11 y12 → 0 < (mu_X14_is_20 σ p0 n0 x1 x2 n3 σ y11 y12)
set_option maxHeartbeats 400000 in
theorem vX14_is (σ : rS) (p0 n0 : Nat) (x1 : Int) (x2 : Int) (n3 : Nat) (hwf : rWF σ) (ha0 : rAr 3 n0 p0) (hx1 : rng x1) (hx2 : rng x2) (hs3 : n3 < 1000) (hp : pre_X14_is σ p0 n0 x1 x2 n3) : VC_X14_is σ p0 n0 x1 x2 n3 (post_X14_is σ p0 n0 x1 x2 n3) := by
  simp only [VC_X14_is, pre_X14_is, post_X14_is, inv_X14_is_20, mu_X14_is_20, rng, rfk, rNMp, rF_sF, rF_sA, rF_sL, rF_sR, rA_sA, rA_sF, rA_sL, rA_sR, rR_sF, rR_sA, rR_sL, rR_sR, reduceIte, and_true, true_and, and_false, false_and, and_self] at *
  (repeat' (first | with_reducible intro _ | with_reducible apply And.intro))
  all_goals (first | assumption | omega | grind (splits := 20) [rNM_sF0])
set_option maxHeartbeats 400000 in
theorem vX14_is_20 (σ : rS) (p0 n0 : Nat) (x1 : Int) (x2 : Int) (n3 : Nat) (hwf : rWF σ) (ha0 : rAr 3 n0 p0) (hx1 : rng x1) (hx2 : rng x2) (hs3 : n3 < 1000) (hp : pre_X14_is σ p0 n0 x1 x2 n3) : VC_X14_is_20 σ p0 n0 x1 x2 n3 (post_X14_is σ p0 n0 x1 x2 n3) := by
  simp only [VC_X14_is_20, pre_X14_is, post_X14_is, inv_X14_is_20, mu_X14_is_20, rng, rfk, rNMp, rF_sF, rF_sA, rF_sL, rF_sR, rA_sA, rA_sF, rA_sL, rA_sR, rR_sF, rR_sA, rR_sL, rR_sR, reduceIte, and_true, true_and, and_false, false_and, and_self] at *
  (repeat' (first | with_reducible intro _ | with_reducible apply And.intro))
  all_goals (first | assumption | omega | grind (splits := 20) [rNM_sF0])
set_option maxHeartbeats 400000 in
theorem vX14_is_20m (σ : rS) (p0 n0 : Nat) (x1 : Int) (x2 : Int) (n3 : Nat) (hwf : rWF σ) (ha0 : rAr 3 n0 p0) (hx1 : rng x1) (hx2 : rng x2) (hs3 : n3 < 1000) (hp : pre_X14_is σ p0 n0 x1 x2 n3) : VC_X14_is_20m σ p0 n0 x1 x2 n3 := by
  simp only [VC_X14_is_20m, pre_X14_is, post_X14_is, inv_X14_is_20, mu_X14_is_20, rng, rfk, rNMp, rF_sF, rF_sA, rF_sL, rF_sR, rA_sA, rA_sF, rA_sL, rA_sR, rR_sF, rR_sA, rR_sL, rR_sR, reduceIte, and_true, true_and, and_false, false_and, and_self] at *
  (repeat' (first | with_reducible intro _ | with_reducible apply And.intro))
  all_goals (first | assumption | omega | grind (splits := 20) [rNM_sF0])
theorem wX14_is (l : Launch) (G : zG) (κ : Nat → Nat) (σ : rS) (p0 n0 : Nat) (x1 : Int) (x2 : Int) (t3 n3 : Nat) (hwf : rWF σ) (ha0 : rAr 3 n0 p0) (hx1 : rng x1) (hx2 : rng x2) (hs3 : rSt G t3 n3) (Q : Int → Prop) (h : VC_X14_is σ p0 n0 x1 x2 n3 Q) (h_20 : VC_X14_is_20 σ p0 n0 x1 x2 n3 Q) (h_20m : VC_X14_is_20m σ p0 n0 x1 x2 n3) : rMi l G κ yX14_is cX14_is 6 .boolean 4 121 [.ref (κ p0), iv x1, iv x2, .ref t3] σ (fun x s => s = σ ∧ Q x) := by
  refine zMi.intro (by decide +kernel) (Nat.le_of_ble_eq_true rfl) (fun X hC hR => ?_)
  refine z_iload_n hC (pc := 0) 2 dX14_is_0 rfl rfl ?_
  refine z_iload_n hC (pc := 1) 1 dX14_is_1 rfl rfl ?_
  refine y_isub hC (pc := 2) (v := (x2 - x1)) dX14_is_2 rfl ?_
  refine z_aload_n hC (pc := 3) 3 dX14_is_3 rfl rfl ?_
  refine y_slen hC (pc := 4) hs3 dX14_is_4 zw3021 (Nat.le_of_ble_eq_true rfl) (Nat.le_of_ble_eq_true rfl) (Nat.le_of_ble_eq_true rfl) (Nat.le_of_ble_eq_true rfl) (Nat.le_of_ble_eq_true rfl) ?_
  obtain ⟨r10, h⟩ := h
  obtain ⟨hT, hF⟩ := h
  refine y_icmp_ne hC (pc := 7) 14 r10 (rSt.rng hs3) dX14_is_7 (by decide) (fun c => ?_) (fun c => ?_)
  · have h := hT c
    refine z_iconst hC (pc := 14) (v := Int32.ofInt 0) dX14_is_14 (by decide) ?_
    refine z_istore hC (pc := 15) (lv' := [(4, iv 0), (0, .ref (κ p0)), (1, iv x1), (2, iv x2), (3, .ref t3)]) dX14_is_15 (by decide) rfl ?_
    refine z_iconst hC (pc := 17) (v := Int32.ofInt 0) dX14_is_17 (by decide) ?_
    refine z_istore hC (pc := 18) (lv' := [(5, iv 0), (4, iv 0), (0, .ref (κ p0)), (1, iv x1), (2, iv x2), (3, .ref t3)]) dX14_is_18 (by decide) rfl ?_
    have j20 : ∀ (d20 : Nat), ∀ (y11 : Int) (y12 : Int), rng y11 → rng y12 → inv_X14_is_20 σ p0 n0 x1 x2 n3 σ y11 y12 → (mu_X14_is_20 σ p0 n0 x1 x2 n3 σ y11 y12) ≤ d20 → zS X G 6 (rW G κ σ) [(0, .ref (κ p0)), (1, iv x1), (3, .ref t3), (4, iv y11), (5, iv y12)] 0 0 20 [] := by
      intro d20
      induction d20 with
      | zero =>
        intro y11 y12 hy11 hy12 hI hmu
        exact absurd hmu (by have := h_20m   y11 y12  hy11 hy12  hI; omega)
      | succ d20 ih20 =>
        intro y11 y12 hy11 hy12 hI hmu20
        have h := h_20   y11 y12  hy11 hy12  hI
        refine z_iload hC (pc := 20) 4 dX14_is_20 rfl ?_
        refine z_aload_n hC (pc := 22) 2 dX14_is_22 rfl rfl ?_
        refine y_slen hC (pc := 23) hs3 dX14_is_23 zw3021 (Nat.le_of_ble_eq_true rfl) (Nat.le_of_ble_eq_true rfl) (Nat.le_of_ble_eq_true rfl) (Nat.le_of_ble_eq_true rfl) (Nat.le_of_ble_eq_true rfl) ?_
        obtain ⟨hT, hF⟩ := h
        refine y_icmp_ge hC (pc := 26) 62 hy12 (rSt.rng hs3) dX14_is_26 (by decide) (fun c => ?_) (fun c => ?_)
        · have h := hT c
          refine z_iload hC (pc := 62) 3 dX14_is_62 rfl ?_
          obtain ⟨z13, h⟩ := h
          exact y_reti hR dX14_is_64 (r_nZ z13) hy11 hwf (Nat.le_of_ble_eq_true rfl) (Nat.le_of_ble_eq_true rfl) ⟨rfl, h⟩
        · have h := hF c
          refine z_iload hC (pc := 29) 3 dX14_is_29 rfl ?_
          obtain ⟨hT, hF⟩ := h
          refine y_if_eq hC (pc := 31) 62 hy11 dX14_is_31 (by decide) (fun c => ?_) (fun c => ?_)
          · have h := hT c
            refine z_iload hC (pc := 62) 3 dX14_is_62 rfl ?_
            obtain ⟨z14, h⟩ := h
            exact y_reti hR dX14_is_64 (r_nZ z14) hy11 hwf (Nat.le_of_ble_eq_true rfl) (Nat.le_of_ble_eq_true rfl) ⟨rfl, h⟩
          · have h := hF c
            refine z_aload_n hC (pc := 34) 0 dX14_is_34 rfl rfl ?_
            refine z_iload_n hC (pc := 35) 1 dX14_is_35 rfl rfl ?_
            refine z_iload hC (pc := 36) 4 dX14_is_36 rfl ?_
            refine y_iadd hC (pc := 38) (v := (x1 + y12)) dX14_is_38 rfl ?_
            obtain ⟨b15, h⟩ := h
            refine y_bald hC (pc := 39) ha0 dX14_is_39 b15 (v := (rA σ p0 (x1 + y12))) rfl (kk := ?_)
            have h := h (hwf.a _ _)
            refine z_aload_n hC (pc := 40) 2 dX14_is_40 rfl rfl ?_
            refine z_iload hC (pc := 41) 4 dX14_is_41 rfl ?_
            obtain ⟨b16, h⟩ := h
            refine y_char hC (pc := 43) (i := y12) hs3 b16 dX14_is_43 zw3022 (Nat.le_of_ble_eq_true rfl) (Nat.le_of_ble_eq_true rfl) (Nat.le_of_ble_eq_true rfl) (Nat.le_of_ble_eq_true rfl) (Nat.le_of_ble_eq_true rfl) (fun x17 hx17 => ?_)
            have h := h x17 hx17
            obtain ⟨hT, hF⟩ := h
            refine y_icmp_ne hC (pc := 46) 53 (hwf.a _ _) (r_255 hx17) dX14_is_46 (by decide) (fun c => ?_) (fun c => ?_)
            · have h := hT c
              refine z_iconst hC (pc := 53) (v := Int32.ofInt 0) dX14_is_53 (by decide) ?_
              refine z_istore hC (pc := 54) (lv' := [(4, iv 0), (0, .ref (κ p0)), (1, iv x1), (3, .ref t3), (5, iv y12)]) dX14_is_54 (by decide) rfl ?_
              refine y_iinc hC (pc := 56) (v := (y12 + 1)) (lv' := [(5, iv (y12 + 1)), (4, iv 0), (0, .ref (κ p0)), (1, iv x1), (3, .ref t3)]) 4 dX14_is_56 rfl rfl (by decide) rfl ?_
              refine z_goto hC (pc := 59) 20 dX14_is_59 (by decide) ?_
              refine z_lvs [2, 3, 4, 1, 0] rfl ?_
              obtain ⟨r18, h⟩ := h
              obtain ⟨hI, hm⟩ := h
              exact ih20  0 (y12 + 1)  (r_lit rfl) r18  hI (by omega)
            · have h := hF c
              refine z_iconst hC (pc := 49) (v := Int32.ofInt 1) dX14_is_49 (by decide) ?_
              refine z_goto hC (pc := 50) 54 dX14_is_50 (by decide) ?_
              refine z_istore hC (pc := 54) (lv' := [(4, iv 1), (0, .ref (κ p0)), (1, iv x1), (3, .ref t3), (5, iv y12)]) dX14_is_54 (by decide) rfl ?_
              refine y_iinc hC (pc := 56) (v := (y12 + 1)) (lv' := [(5, iv (y12 + 1)), (4, iv 1), (0, .ref (κ p0)), (1, iv x1), (3, .ref t3)]) 4 dX14_is_56 rfl rfl (by decide) rfl ?_
              refine z_goto hC (pc := 59) 20 dX14_is_59 (by decide) ?_
              refine z_lvs [2, 3, 4, 1, 0] rfl ?_
              obtain ⟨r19, h⟩ := h
              obtain ⟨hI, hm⟩ := h
              exact ih20  1 (y12 + 1)  (r_lit rfl) r19  hI (by omega)
    refine z_lvs [2, 3, 5, 1, 0] rfl ?_
    exact j20 _  0 0  (r_lit rfl) (r_lit rfl)  h (Nat.le_refl _)
  · have h := hF c
    refine z_iconst hC (pc := 10) (v := Int32.ofInt 1) dX14_is_10 (by decide) ?_
    refine z_goto hC (pc := 11) 15 dX14_is_11 (by decide) ?_
    refine z_istore hC (pc := 15) (lv' := [(4, iv 1), (0, .ref (κ p0)), (1, iv x1), (2, iv x2), (3, .ref t3)]) dX14_is_15 (by decide) rfl ?_
    refine z_iconst hC (pc := 17) (v := Int32.ofInt 0) dX14_is_17 (by decide) ?_
    refine z_istore hC (pc := 18) (lv' := [(5, iv 0), (4, iv 1), (0, .ref (κ p0)), (1, iv x1), (2, iv x2), (3, .ref t3)]) dX14_is_18 (by decide) rfl ?_
    have j20 : ∀ (d20 : Nat), ∀ (y20 : Int) (y21 : Int), rng y20 → rng y21 → inv_X14_is_20 σ p0 n0 x1 x2 n3 σ y20 y21 → (mu_X14_is_20 σ p0 n0 x1 x2 n3 σ y20 y21) ≤ d20 → zS X G 6 (rW G κ σ) [(0, .ref (κ p0)), (1, iv x1), (3, .ref t3), (4, iv y20), (5, iv y21)] 0 0 20 [] := by
      intro d20
      induction d20 with
      | zero =>
        intro y20 y21 hy20 hy21 hI hmu
        exact absurd hmu (by have := h_20m   y20 y21  hy20 hy21  hI; omega)
      | succ d20 ih20 =>
        intro y20 y21 hy20 hy21 hI hmu20
        have h := h_20   y20 y21  hy20 hy21  hI
        refine z_iload hC (pc := 20) 4 dX14_is_20 rfl ?_
        refine z_aload_n hC (pc := 22) 2 dX14_is_22 rfl rfl ?_
        refine y_slen hC (pc := 23) hs3 dX14_is_23 zw3021 (Nat.le_of_ble_eq_true rfl) (Nat.le_of_ble_eq_true rfl) (Nat.le_of_ble_eq_true rfl) (Nat.le_of_ble_eq_true rfl) (Nat.le_of_ble_eq_true rfl) ?_
        obtain ⟨hT, hF⟩ := h
        refine y_icmp_ge hC (pc := 26) 62 hy21 (rSt.rng hs3) dX14_is_26 (by decide) (fun c => ?_) (fun c => ?_)
        · have h := hT c
          refine z_iload hC (pc := 62) 3 dX14_is_62 rfl ?_
          obtain ⟨z22, h⟩ := h
          exact y_reti hR dX14_is_64 (r_nZ z22) hy20 hwf (Nat.le_of_ble_eq_true rfl) (Nat.le_of_ble_eq_true rfl) ⟨rfl, h⟩
        · have h := hF c
          refine z_iload hC (pc := 29) 3 dX14_is_29 rfl ?_
          obtain ⟨hT, hF⟩ := h
          refine y_if_eq hC (pc := 31) 62 hy20 dX14_is_31 (by decide) (fun c => ?_) (fun c => ?_)
          · have h := hT c
            refine z_iload hC (pc := 62) 3 dX14_is_62 rfl ?_
            obtain ⟨z23, h⟩ := h
            exact y_reti hR dX14_is_64 (r_nZ z23) hy20 hwf (Nat.le_of_ble_eq_true rfl) (Nat.le_of_ble_eq_true rfl) ⟨rfl, h⟩
          · have h := hF c
            refine z_aload_n hC (pc := 34) 0 dX14_is_34 rfl rfl ?_
            refine z_iload_n hC (pc := 35) 1 dX14_is_35 rfl rfl ?_
            refine z_iload hC (pc := 36) 4 dX14_is_36 rfl ?_
            refine y_iadd hC (pc := 38) (v := (x1 + y21)) dX14_is_38 rfl ?_
            obtain ⟨b24, h⟩ := h
            refine y_bald hC (pc := 39) ha0 dX14_is_39 b24 (v := (rA σ p0 (x1 + y21))) rfl (kk := ?_)
            have h := h (hwf.a _ _)
            refine z_aload_n hC (pc := 40) 2 dX14_is_40 rfl rfl ?_
            refine z_iload hC (pc := 41) 4 dX14_is_41 rfl ?_
            obtain ⟨b25, h⟩ := h
            refine y_char hC (pc := 43) (i := y21) hs3 b25 dX14_is_43 zw3022 (Nat.le_of_ble_eq_true rfl) (Nat.le_of_ble_eq_true rfl) (Nat.le_of_ble_eq_true rfl) (Nat.le_of_ble_eq_true rfl) (Nat.le_of_ble_eq_true rfl) (fun x26 hx26 => ?_)
            have h := h x26 hx26
            obtain ⟨hT, hF⟩ := h
            refine y_icmp_ne hC (pc := 46) 53 (hwf.a _ _) (r_255 hx26) dX14_is_46 (by decide) (fun c => ?_) (fun c => ?_)
            · have h := hT c
              refine z_iconst hC (pc := 53) (v := Int32.ofInt 0) dX14_is_53 (by decide) ?_
              refine z_istore hC (pc := 54) (lv' := [(4, iv 0), (0, .ref (κ p0)), (1, iv x1), (3, .ref t3), (5, iv y21)]) dX14_is_54 (by decide) rfl ?_
              refine y_iinc hC (pc := 56) (v := (y21 + 1)) (lv' := [(5, iv (y21 + 1)), (4, iv 0), (0, .ref (κ p0)), (1, iv x1), (3, .ref t3)]) 4 dX14_is_56 rfl rfl (by decide) rfl ?_
              refine z_goto hC (pc := 59) 20 dX14_is_59 (by decide) ?_
              refine z_lvs [2, 3, 4, 1, 0] rfl ?_
              obtain ⟨r27, h⟩ := h
              obtain ⟨hI, hm⟩ := h
              exact ih20  0 (y21 + 1)  (r_lit rfl) r27  hI (by omega)
            · have h := hF c
              refine z_iconst hC (pc := 49) (v := Int32.ofInt 1) dX14_is_49 (by decide) ?_
              refine z_goto hC (pc := 50) 54 dX14_is_50 (by decide) ?_
              refine z_istore hC (pc := 54) (lv' := [(4, iv 1), (0, .ref (κ p0)), (1, iv x1), (3, .ref t3), (5, iv y21)]) dX14_is_54 (by decide) rfl ?_
              refine y_iinc hC (pc := 56) (v := (y21 + 1)) (lv' := [(5, iv (y21 + 1)), (4, iv 1), (0, .ref (κ p0)), (1, iv x1), (3, .ref t3)]) 4 dX14_is_56 rfl rfl (by decide) rfl ?_
              refine z_goto hC (pc := 59) 20 dX14_is_59 (by decide) ?_
              refine z_lvs [2, 3, 4, 1, 0] rfl ?_
              obtain ⟨r28, h⟩ := h
              obtain ⟨hI, hm⟩ := h
              exact ih20  1 (y21 + 1)  (r_lit rfl) r28  hI (by omega)
    refine z_lvs [2, 3, 5, 1, 0] rfl ?_
    exact j20 _  1 0  (r_lit rfl) (r_lit rfl)  h (Nat.le_refl _)
theorem kX14_is (l : Launch) (G : zG) (κ : Nat → Nat) (σ : rS) (p0 n0 : Nat) (x1 : Int) (x2 : Int) (t3 n3 : Nat) (hwf : rWF σ) (ha0 : rAr 3 n0 p0) (hx1 : rng x1) (hx2 : rng x2) (hs3 : rSt G t3 n3) (hp : pre_X14_is σ p0 n0 x1 x2 n3) : rMi l G κ yX14_is cX14_is 6 .boolean 4 121 [.ref (κ p0), iv x1, iv x2, .ref t3] σ (fun x s => s = σ ∧ post_X14_is σ p0 n0 x1 x2 n3 x) := wX14_is l G κ σ p0 n0 x1 x2 t3 n3 hwf ha0 hx1 hx2 hs3 (post_X14_is σ p0 n0 x1 x2 n3) (vX14_is σ p0 n0 x1 x2 n3 hwf ha0 hx1 hx2 hs3.1 hp) (vX14_is_20 σ p0 n0 x1 x2 n3 hwf ha0 hx1 hx2 hs3.1 hp) (vX14_is_20m σ p0 n0 x1 x2 n3 hwf ha0 hx1 hx2 hs3.1 hp)
def pre_X14_isFileWord (σ : rS) (n1 : Nat) : Prop := 0 ≤ (rF σ 0 17) ∧ 0 ≤ (rF σ 0 16) ∧ (rF σ 0 16) ≤ 4000 ∧ rfk (rR σ 15) ∧ (rF σ 0 17) ≤ (rF σ 0 16)
def post_X14_isFileWord (σ : rS) (n1 : Nat) (r : Int) : Prop := (r = 0 ∨ r = 1) ∧ (r = 1 → (rF σ 0 17) + (n1 : Int) ≤ (rF σ 0 16) ∨ n1 = 0)
def VC_X14_isFileWord (σ : rS) (n1 : Nat) (Q : Int → Prop) : Prop := rfk (rR σ 15) ∧ (rng (rF σ 0 17) → (rng (rF σ 0 16) → pre_X14_wordEnd σ (rR σ 15) 4000 (rF σ 0 16) (rF σ 0 17) ∧ (∀ (x13 : Int), rng x13 → post_X14_wordEnd σ (rR σ 15) 4000 (rF σ 0 16) (rF σ 0 17) x13 → pre_X14_is σ (rR σ 15) 4000 (rF σ 0 17) x13 n1 ∧ (∀ (x16 : Int), rng x16 → post_X14_is σ (rR σ 15) 4000 (rF σ 0 17) x13 n1 x16 → (x16 = 0 ∨ x16 = 1) ∧ Q x16))))
set_option maxHeartbeats 400000 in
theorem vX14_isFileWord (σ : rS) (n1 : Nat) (hwf : rWF σ) (hs1 : n1 < 1000) (hp : pre_X14_isFileWord σ n1) : VC_X14_isFileWord σ n1 (post_X14_isFileWord σ n1) := by
  simp only [VC_X14_isFileWord, pre_X14_isFileWord, post_X14_isFileWord, pre_X14_wordEnd, pre_X14_is, post_X14_wordEnd, post_X14_is, rng, rfk, rNMp, rF_sF, rF_sA, rF_sL, rF_sR, rA_sA, rA_sF, rA_sL, rA_sR, rR_sF, rR_sA, rR_sL, rR_sR, reduceIte, and_true, true_and, and_false, false_and, and_self] at *
  (repeat' (first | with_reducible intro _ | with_reducible apply And.intro))
  all_goals (first | assumption | omega | grind (splits := 20) [rNM_sF0])
theorem wX14_isFileWord (l : Launch) (G : zG) (κ : Nat → Nat) (σ : rS) (t1 n1 : Nat) (hwf : rWF σ) (hs1 : rSt G t1 n1) (Q : Int → Prop) (h : VC_X14_isFileWord σ n1 Q) : rMi l G κ yX14_isFileWord cX14_isFileWord 2 .boolean 5 146 [.ref (κ 0), .ref t1] σ (fun x s => s = σ ∧ Q x) := by
  refine zMi.intro (by decide +kernel) (Nat.le_of_ble_eq_true rfl) (fun X hC hR => ?_)
  refine z_aload_n hC (pc := 0) 0 dX14_isFileWord_0 rfl rfl ?_
  obtain ⟨g10, h⟩ := h
  refine y_get hC (pc := 1) zf14 rOb_0 15 (v := .ref (κ (rR σ 15))) dX14_isFileWord_1 zw2482 (rv_b rfl rfl g10) (kk := ?_)
  refine z_aload_n hC (pc := 4) 0 dX14_isFileWord_4 rfl rfl ?_
  refine y_get hC (pc := 5) zf14 rOb_0 17 (v := iv (rF σ 0 17)) dX14_isFileWord_5 zw2484 (rv_i (Or.inl rfl) rfl) (kk := ?_)
  have h := h (hwf.f _ _)
  refine z_aload_n hC (pc := 8) 0 dX14_isFileWord_8 rfl rfl ?_
  refine y_get hC (pc := 9) zf14 rOb_0 15 (v := .ref (κ (rR σ 15))) dX14_isFileWord_9 zw2482 (rv_b rfl rfl g10) (kk := ?_)
  refine z_aload_n hC (pc := 12) 0 dX14_isFileWord_12 rfl rfl ?_
  refine y_get hC (pc := 13) zf14 rOb_0 16 (v := iv (rF σ 0 16)) dX14_isFileWord_13 zw2483 (rv_i (Or.inl rfl) rfl) (kk := ?_)
  have h := h (hwf.f _ _)
  refine z_aload_n hC (pc := 16) 0 dX14_isFileWord_16 rfl rfl ?_
  refine y_get hC (pc := 17) zf14 rOb_0 17 (v := iv (rF σ 0 17)) dX14_isFileWord_17 zw2484 (rv_i (Or.inl rfl) rfl) (kk := ?_)
  obtain ⟨p11, h⟩ := h
  refine y_callSi hC (pc := 20) (As := [.ref (κ (rR σ 15)), iv (rF σ 0 16), iv (rF σ 0 17)]) (kX14_wordEnd l G κ σ (rR σ 15) 4000 (rF σ 0 16) (rF σ 0 17) hwf (rAr_f g10) (hwf.f _ _) (hwf.f _ _) p11) dmX14_wordEnd dX14_isFileWord_20 zw3009 rfl rfl (Nat.le_of_ble_eq_true rfl) (Nat.le_of_ble_eq_true rfl) (Nat.le_of_ble_eq_true rfl) (Nat.le_of_ble_eq_true rfl) (Nat.le_of_ble_eq_true rfl) (kk := fun x13 s12 hx13 Ws12 qs12 => ?_)
  obtain ⟨es12, qs12⟩ := qs12
  have es12 := es12.symm
  subst es12
  have h := h x13 hx13 qs12
  refine z_aload_n hC (pc := 23) 1 dX14_isFileWord_23 rfl rfl ?_
  obtain ⟨p14, h⟩ := h
  refine y_callSi hC (pc := 24) (As := [.ref (κ (rR σ 15)), iv (rF σ 0 17), iv x13, .ref t1]) (kX14_is l G κ σ (rR σ 15) 4000 (rF σ 0 17) x13 t1 n1 hwf (rAr_f g10) (hwf.f _ _) hx13 hs1 p14) dmX14_is dX14_isFileWord_24 zw3018 rfl rfl (Nat.le_of_ble_eq_true rfl) (Nat.le_of_ble_eq_true rfl) (Nat.le_of_ble_eq_true rfl) (Nat.le_of_ble_eq_true rfl) (Nat.le_of_ble_eq_true rfl) (kk := fun x16 s15 hx16 Ws15 qs15 => ?_)
  obtain ⟨es15, qs15⟩ := qs15
  have es15 := es15.symm
  subst es15
  have h := h x16 hx16 qs15
  obtain ⟨z17, h⟩ := h
  exact y_reti hR dX14_isFileWord_27 (r_nZ z17) hx16 hwf (Nat.le_of_ble_eq_true rfl) (Nat.le_of_ble_eq_true rfl) ⟨rfl, h⟩
theorem kX14_isFileWord (l : Launch) (G : zG) (κ : Nat → Nat) (σ : rS) (t1 n1 : Nat) (hwf : rWF σ) (hs1 : rSt G t1 n1) (hp : pre_X14_isFileWord σ n1) : rMi l G κ yX14_isFileWord cX14_isFileWord 2 .boolean 5 146 [.ref (κ 0), .ref t1] σ (fun x s => s = σ ∧ post_X14_isFileWord σ n1 x) := wX14_isFileWord l G κ σ t1 n1 hwf hs1 (post_X14_isFileWord σ n1) (vX14_isFileWord σ n1 hwf hs1.1 hp) 
def pre_X14_isWord (σ : rS) (n1 : Nat) : Prop := 0 ≤ (rF σ 0 29) ∧ (rF σ 0 29) ≤ (rF σ 0 28) ∧ (rF σ 0 28) ≤ 4001
def post_X14_isWord (σ : rS) (n1 : Nat) (r : Int) : Prop := (r = 0 ∨ r = 1) ∧ (r = 1 → (rF σ 0 29) + (n1 : Int) ≤ (rF σ 0 28) ∨ n1 = 0)
def VC_X14_isWord (σ : rS) (n1 : Nat) (Q : Int → Prop) : Prop := (rng (rF σ 0 29) → (rng (rF σ 0 28) → pre_X14_wordEnd σ 1026 4001 (rF σ 0 28) (rF σ 0 29) ∧ (∀ (x12 : Int), rng x12 → post_X14_wordEnd σ 1026 4001 (rF σ 0 28) (rF σ 0 29) x12 → pre_X14_is σ 1026 4001 (rF σ 0 29) x12 n1 ∧ (∀ (x15 : Int), rng x15 → post_X14_is σ 1026 4001 (rF σ 0 29) x12 n1 x15 → (x15 = 0 ∨ x15 = 1) ∧ Q x15))))
set_option maxHeartbeats 400000 in
theorem vX14_isWord (σ : rS) (n1 : Nat) (hwf : rWF σ) (hs1 : n1 < 1000) (hp : pre_X14_isWord σ n1) : VC_X14_isWord σ n1 (post_X14_isWord σ n1) := by
  simp only [VC_X14_isWord, pre_X14_isWord, post_X14_isWord, pre_X14_wordEnd, pre_X14_is, post_X14_wordEnd, post_X14_is, rng, rfk, rNMp, rF_sF, rF_sA, rF_sL, rF_sR, rA_sA, rA_sF, rA_sL, rA_sR, rR_sF, rR_sA, rR_sL, rR_sR, reduceIte, and_true, true_and, and_false, false_and, and_self] at *
  (repeat' (first | with_reducible intro _ | with_reducible apply And.intro))
  all_goals (first | assumption | omega | grind (splits := 20) [rNM_sF0])
theorem wX14_isWord (l : Launch) (G : zG) (κ : Nat → Nat) (σ : rS) (t1 n1 : Nat) (hwf : rWF σ) (hs1 : rSt G t1 n1) (Q : Int → Prop) (h : VC_X14_isWord σ n1 Q) : rMi l G κ yX14_isWord cX14_isWord 2 .boolean 5 146 [.ref (κ 0), .ref t1] σ (fun x s => s = σ ∧ Q x) := by
  refine zMi.intro (by decide +kernel) (Nat.le_of_ble_eq_true rfl) (fun X hC hR => ?_)
  refine z_aload_n hC (pc := 0) 0 dX14_isWord_0 rfl rfl ?_
  refine y_get hC (pc := 1) zf14 rOb_0 26 (v := .ref (κ 1026)) dX14_isWord_1 zw2493 (rv_c rfl) (kk := ?_)
  refine z_aload_n hC (pc := 4) 0 dX14_isWord_4 rfl rfl ?_
  refine y_get hC (pc := 5) zf14 rOb_0 29 (v := iv (rF σ 0 29)) dX14_isWord_5 zw2496 (rv_i (Or.inl rfl) rfl) (kk := ?_)
  have h := h (hwf.f _ _)
  refine z_aload_n hC (pc := 8) 0 dX14_isWord_8 rfl rfl ?_
  refine y_get hC (pc := 9) zf14 rOb_0 26 (v := .ref (κ 1026)) dX14_isWord_9 zw2493 (rv_c rfl) (kk := ?_)
  refine z_aload_n hC (pc := 12) 0 dX14_isWord_12 rfl rfl ?_
  refine y_get hC (pc := 13) zf14 rOb_0 28 (v := iv (rF σ 0 28)) dX14_isWord_13 zw2495 (rv_i (Or.inl rfl) rfl) (kk := ?_)
  have h := h (hwf.f _ _)
  refine z_aload_n hC (pc := 16) 0 dX14_isWord_16 rfl rfl ?_
  refine y_get hC (pc := 17) zf14 rOb_0 29 (v := iv (rF σ 0 29)) dX14_isWord_17 zw2496 (rv_i (Or.inl rfl) rfl) (kk := ?_)
  obtain ⟨p10, h⟩ := h
  refine y_callSi hC (pc := 20) (As := [.ref (κ 1026), iv (rF σ 0 28), iv (rF σ 0 29)]) (kX14_wordEnd l G κ σ 1026 4001 (rF σ 0 28) (rF σ 0 29) hwf (rAr_m rfl) (hwf.f _ _) (hwf.f _ _) p10) dmX14_wordEnd dX14_isWord_20 zw3009 rfl rfl (Nat.le_of_ble_eq_true rfl) (Nat.le_of_ble_eq_true rfl) (Nat.le_of_ble_eq_true rfl) (Nat.le_of_ble_eq_true rfl) (Nat.le_of_ble_eq_true rfl) (kk := fun x12 s11 hx12 Ws11 qs11 => ?_)
  obtain ⟨es11, qs11⟩ := qs11
  have es11 := es11.symm
  subst es11
  have h := h x12 hx12 qs11
  refine z_aload_n hC (pc := 23) 1 dX14_isWord_23 rfl rfl ?_
  obtain ⟨p13, h⟩ := h
  refine y_callSi hC (pc := 24) (As := [.ref (κ 1026), iv (rF σ 0 29), iv x12, .ref t1]) (kX14_is l G κ σ 1026 4001 (rF σ 0 29) x12 t1 n1 hwf (rAr_m rfl) (hwf.f _ _) hx12 hs1 p13) dmX14_is dX14_isWord_24 zw3018 rfl rfl (Nat.le_of_ble_eq_true rfl) (Nat.le_of_ble_eq_true rfl) (Nat.le_of_ble_eq_true rfl) (Nat.le_of_ble_eq_true rfl) (Nat.le_of_ble_eq_true rfl) (kk := fun x15 s14 hx15 Ws14 qs14 => ?_)
  obtain ⟨es14, qs14⟩ := qs14
  have es14 := es14.symm
  subst es14
  have h := h x15 hx15 qs14
  obtain ⟨z16, h⟩ := h
  exact y_reti hR dX14_isWord_27 (r_nZ z16) hx15 hwf (Nat.le_of_ble_eq_true rfl) (Nat.le_of_ble_eq_true rfl) ⟨rfl, h⟩
theorem kX14_isWord (l : Launch) (G : zG) (κ : Nat → Nat) (σ : rS) (t1 n1 : Nat) (hwf : rWF σ) (hs1 : rSt G t1 n1) (hp : pre_X14_isWord σ n1) : rMi l G κ yX14_isWord cX14_isWord 2 .boolean 5 146 [.ref (κ 0), .ref t1] σ (fun x s => s = σ ∧ post_X14_isWord σ n1 x) := wX14_isWord l G κ σ t1 n1 hwf hs1 (post_X14_isWord σ n1) (vX14_isWord σ n1 hwf hs1.1 hp) 
def pre_X14_isFileReserved (σ : rS)  : Prop := 0 ≤ (rF σ 0 17) ∧ 0 ≤ (rF σ 0 16) ∧ (rF σ 0 16) ≤ 4000 ∧ rfk (rR σ 15) ∧ (rF σ 0 17) ≤ (rF σ 0 16)
def post_X14_isFileReserved (σ : rS)  (r : Int) : Prop := r = 0 ∨ r = 1
def VC_X14_isFileReserved (σ : rS) (Q : Int → Prop) : Prop := pre_X14_isFileWord σ 10 ∧ (∀ (x12 : Int), rng x12 → post_X14_isFileWord σ 10 x12 → ((¬ x12 = 0 → Q 1) ∧ (x12 = 0 → pre_X14_isFileWord σ 6 ∧ (∀ (x15 : Int), rng x15 → post_X14_isFileWord σ 6 x15 → ((¬ x15 = 0 → Q 1) ∧ (x15 = 0 → pre_X14_isFileWord σ 7 ∧ (∀ (x18 : Int), rng x18 → post_X14_isFileWord σ 7 x18 → ((¬ x18 = 0 → Q 1) ∧ (x18 = 0 → pre_X14_isFileWord σ 3 ∧ (∀ (x21 : Int), rng x21 → post_X14_isFileWord σ 3 x21 → ((¬ x21 = 0 → Q 1) ∧ (x21 = 0 → pre_X14_isFileWord σ 4 ∧ (∀ (x24 : Int), rng x24 → post_X14_isFileWord σ 4 x24 → ((¬ x24 = 0 → Q 1) ∧ (x24 = 0 → pre_X14_isFileWord σ 5 ∧ (∀ (x27 : Int), rng x27 → post_X14_isFileWord σ 5 x27 → ((x27 = 0 → Q 0) ∧ (¬ x27 = 0 → Q 1))))))))))))))))))
set_option maxHeartbeats 400000 in
theorem vX14_isFileReserved (σ : rS) (hwf : rWF σ) (hp : pre_X14_isFileReserved σ ) : VC_X14_isFileReserved σ (post_X14_isFileReserved σ ) := by
  simp only [VC_X14_isFileReserved, pre_X14_isFileReserved, post_X14_isFileReserved, pre_X14_isFileWord, post_X14_isFileWord, rng, rfk, rNMp, rF_sF, rF_sA, rF_sL, rF_sR, rA_sA, rA_sF, rA_sL, rA_sR, rR_sF, rR_sA, rR_sL, rR_sR, reduceIte, and_true, true_and, and_false, false_and, and_self] at *
  (repeat' (first | with_reducible intro _ | with_reducible apply And.intro))
  all_goals (first | assumption | omega | grind (splits := 20) [rNM_sF0])
theorem wX14_isFileReserved (l : Launch) (G : zG) (κ : Nat → Nat) (σ : rS) (hwf : rWF σ) (Q : Int → Prop) (h : VC_X14_isFileReserved σ Q) : rMi l G κ yX14_isFileReserved cX14_isFileReserved 1 .boolean 6 167 [.ref (κ 0)] σ (fun x s => s = σ ∧ Q x) := by
  refine zMi.intro (by decide +kernel) (Nat.le_of_ble_eq_true rfl) (fun X hC hR => ?_)
  refine z_aload_n hC (pc := 0) 0 dX14_isFileReserved_0 rfl rfl ?_
  refine z_ldcSw hC (pc := 1) dX14_isFileReserved_1 zS_22 ?_
  obtain ⟨p10, h⟩ := h
  refine y_callVi hC (pc := 4) (As := [.ref (G.2.2 45)]) (kX14_isFileWord l G κ σ (G.2.2 45) 10 hwf (rSt_22 G) p10) dmX14_isFileWord zf14 rOb_0 dX14_isFileReserved_4 zw3005 rfl rfl (Nat.le_of_ble_eq_true rfl) (Nat.le_of_ble_eq_true rfl) (Nat.le_of_ble_eq_true rfl) (Nat.le_of_ble_eq_true rfl) (Nat.le_of_ble_eq_true rfl) (kk := fun x12 s11 hx12 Ws11 qs11 => ?_)
  obtain ⟨es11, qs11⟩ := qs11
  have es11 := es11.symm
  subst es11
  have h := h x12 hx12 qs11
  obtain ⟨hT, hF⟩ := h
  refine y_if_ne hC (pc := 7) 60 hx12 dX14_isFileReserved_7 (by decide) (fun c => ?_) (fun c => ?_)
  · have h := hT c
    refine z_iconst hC (pc := 60) (v := Int32.ofInt 1) dX14_isFileReserved_60 (by decide) ?_
    refine z_goto hC (pc := 61) 65 dX14_isFileReserved_61 (by decide) ?_
    exact y_reti hR dX14_isFileReserved_65 rfl (r_lit rfl) hwf (Nat.le_of_ble_eq_true rfl) (Nat.le_of_ble_eq_true rfl) ⟨rfl, h⟩
  · have h := hF c
    refine z_aload_n hC (pc := 10) 0 dX14_isFileReserved_10 rfl rfl ?_
    refine z_ldcSw hC (pc := 11) dX14_isFileReserved_11 zS_23 ?_
    obtain ⟨p13, h⟩ := h
    refine y_callVi hC (pc := 14) (As := [.ref (G.2.2 47)]) (kX14_isFileWord l G κ σ (G.2.2 47) 6 hwf (rSt_23 G) p13) dmX14_isFileWord zf14 rOb_0 dX14_isFileReserved_14 zw3005 rfl rfl (Nat.le_of_ble_eq_true rfl) (Nat.le_of_ble_eq_true rfl) (Nat.le_of_ble_eq_true rfl) (Nat.le_of_ble_eq_true rfl) (Nat.le_of_ble_eq_true rfl) (kk := fun x15 s14 hx15 Ws14 qs14 => ?_)
    obtain ⟨es14, qs14⟩ := qs14
    have es14 := es14.symm
    subst es14
    have h := h x15 hx15 qs14
    obtain ⟨hT, hF⟩ := h
    refine y_if_ne hC (pc := 17) 60 hx15 dX14_isFileReserved_17 (by decide) (fun c => ?_) (fun c => ?_)
    · have h := hT c
      refine z_iconst hC (pc := 60) (v := Int32.ofInt 1) dX14_isFileReserved_60 (by decide) ?_
      refine z_goto hC (pc := 61) 65 dX14_isFileReserved_61 (by decide) ?_
      exact y_reti hR dX14_isFileReserved_65 rfl (r_lit rfl) hwf (Nat.le_of_ble_eq_true rfl) (Nat.le_of_ble_eq_true rfl) ⟨rfl, h⟩
    · have h := hF c
      refine z_aload_n hC (pc := 20) 0 dX14_isFileReserved_20 rfl rfl ?_
      refine z_ldcSw hC (pc := 21) dX14_isFileReserved_21 zS_24 ?_
      obtain ⟨p16, h⟩ := h
      refine y_callVi hC (pc := 24) (As := [.ref (G.2.2 49)]) (kX14_isFileWord l G κ σ (G.2.2 49) 7 hwf (rSt_24 G) p16) dmX14_isFileWord zf14 rOb_0 dX14_isFileReserved_24 zw3005 rfl rfl (Nat.le_of_ble_eq_true rfl) (Nat.le_of_ble_eq_true rfl) (Nat.le_of_ble_eq_true rfl) (Nat.le_of_ble_eq_true rfl) (Nat.le_of_ble_eq_true rfl) (kk := fun x18 s17 hx18 Ws17 qs17 => ?_)
      obtain ⟨es17, qs17⟩ := qs17
      have es17 := es17.symm
      subst es17
      have h := h x18 hx18 qs17
      obtain ⟨hT, hF⟩ := h
      refine y_if_ne hC (pc := 27) 60 hx18 dX14_isFileReserved_27 (by decide) (fun c => ?_) (fun c => ?_)
      · have h := hT c
        refine z_iconst hC (pc := 60) (v := Int32.ofInt 1) dX14_isFileReserved_60 (by decide) ?_
        refine z_goto hC (pc := 61) 65 dX14_isFileReserved_61 (by decide) ?_
        exact y_reti hR dX14_isFileReserved_65 rfl (r_lit rfl) hwf (Nat.le_of_ble_eq_true rfl) (Nat.le_of_ble_eq_true rfl) ⟨rfl, h⟩
      · have h := hF c
        refine z_aload_n hC (pc := 30) 0 dX14_isFileReserved_30 rfl rfl ?_
        refine z_ldcSw hC (pc := 31) dX14_isFileReserved_31 zS_25 ?_
        obtain ⟨p19, h⟩ := h
        refine y_callVi hC (pc := 34) (As := [.ref (G.2.2 51)]) (kX14_isFileWord l G κ σ (G.2.2 51) 3 hwf (rSt_25 G) p19) dmX14_isFileWord zf14 rOb_0 dX14_isFileReserved_34 zw3005 rfl rfl (Nat.le_of_ble_eq_true rfl) (Nat.le_of_ble_eq_true rfl) (Nat.le_of_ble_eq_true rfl) (Nat.le_of_ble_eq_true rfl) (Nat.le_of_ble_eq_true rfl) (kk := fun x21 s20 hx21 Ws20 qs20 => ?_)
        obtain ⟨es20, qs20⟩ := qs20
        have es20 := es20.symm
        subst es20
        have h := h x21 hx21 qs20
        obtain ⟨hT, hF⟩ := h
        refine y_if_ne hC (pc := 37) 60 hx21 dX14_isFileReserved_37 (by decide) (fun c => ?_) (fun c => ?_)
        · have h := hT c
          refine z_iconst hC (pc := 60) (v := Int32.ofInt 1) dX14_isFileReserved_60 (by decide) ?_
          refine z_goto hC (pc := 61) 65 dX14_isFileReserved_61 (by decide) ?_
          exact y_reti hR dX14_isFileReserved_65 rfl (r_lit rfl) hwf (Nat.le_of_ble_eq_true rfl) (Nat.le_of_ble_eq_true rfl) ⟨rfl, h⟩
        · have h := hF c
          refine z_aload_n hC (pc := 40) 0 dX14_isFileReserved_40 rfl rfl ?_
          refine z_ldcSw hC (pc := 41) dX14_isFileReserved_41 zS_26 ?_
          obtain ⟨p22, h⟩ := h
          refine y_callVi hC (pc := 44) (As := [.ref (G.2.2 53)]) (kX14_isFileWord l G κ σ (G.2.2 53) 4 hwf (rSt_26 G) p22) dmX14_isFileWord zf14 rOb_0 dX14_isFileReserved_44 zw3005 rfl rfl (Nat.le_of_ble_eq_true rfl) (Nat.le_of_ble_eq_true rfl) (Nat.le_of_ble_eq_true rfl) (Nat.le_of_ble_eq_true rfl) (Nat.le_of_ble_eq_true rfl) (kk := fun x24 s23 hx24 Ws23 qs23 => ?_)
          obtain ⟨es23, qs23⟩ := qs23
          have es23 := es23.symm
          subst es23
          have h := h x24 hx24 qs23
          obtain ⟨hT, hF⟩ := h
          refine y_if_ne hC (pc := 47) 60 hx24 dX14_isFileReserved_47 (by decide) (fun c => ?_) (fun c => ?_)
          · have h := hT c
            refine z_iconst hC (pc := 60) (v := Int32.ofInt 1) dX14_isFileReserved_60 (by decide) ?_
            refine z_goto hC (pc := 61) 65 dX14_isFileReserved_61 (by decide) ?_
            exact y_reti hR dX14_isFileReserved_65 rfl (r_lit rfl) hwf (Nat.le_of_ble_eq_true rfl) (Nat.le_of_ble_eq_true rfl) ⟨rfl, h⟩
          · have h := hF c
            refine z_aload_n hC (pc := 50) 0 dX14_isFileReserved_50 rfl rfl ?_
            refine z_ldcSw hC (pc := 51) dX14_isFileReserved_51 zS_27 ?_
            obtain ⟨p25, h⟩ := h
            refine y_callVi hC (pc := 54) (As := [.ref (G.2.2 55)]) (kX14_isFileWord l G κ σ (G.2.2 55) 5 hwf (rSt_27 G) p25) dmX14_isFileWord zf14 rOb_0 dX14_isFileReserved_54 zw3005 rfl rfl (Nat.le_of_ble_eq_true rfl) (Nat.le_of_ble_eq_true rfl) (Nat.le_of_ble_eq_true rfl) (Nat.le_of_ble_eq_true rfl) (Nat.le_of_ble_eq_true rfl) (kk := fun x27 s26 hx27 Ws26 qs26 => ?_)
            obtain ⟨es26, qs26⟩ := qs26
            have es26 := es26.symm
            subst es26
            have h := h x27 hx27 qs26
            obtain ⟨hT, hF⟩ := h
            refine y_if_eq hC (pc := 57) 64 hx27 dX14_isFileReserved_57 (by decide) (fun c => ?_) (fun c => ?_)
            · have h := hT c
              refine z_iconst hC (pc := 64) (v := Int32.ofInt 0) dX14_isFileReserved_64 (by decide) ?_
              exact y_reti hR dX14_isFileReserved_65 rfl (r_lit rfl) hwf (Nat.le_of_ble_eq_true rfl) (Nat.le_of_ble_eq_true rfl) ⟨rfl, h⟩
            · have h := hF c
              refine z_iconst hC (pc := 60) (v := Int32.ofInt 1) dX14_isFileReserved_60 (by decide) ?_
              refine z_goto hC (pc := 61) 65 dX14_isFileReserved_61 (by decide) ?_
              exact y_reti hR dX14_isFileReserved_65 rfl (r_lit rfl) hwf (Nat.le_of_ble_eq_true rfl) (Nat.le_of_ble_eq_true rfl) ⟨rfl, h⟩
theorem kX14_isFileReserved (l : Launch) (G : zG) (κ : Nat → Nat) (σ : rS) (hwf : rWF σ) (hp : pre_X14_isFileReserved σ ) : rMi l G κ yX14_isFileReserved cX14_isFileReserved 1 .boolean 6 167 [.ref (κ 0)] σ (fun x s => s = σ ∧ post_X14_isFileReserved σ x) := wX14_isFileReserved l G κ σ hwf (post_X14_isFileReserved σ ) (vX14_isFileReserved σ hwf hp) 
def pre_X14_function (σ : rS)  : Prop := 0 ≤ (rF σ 0 29) ∧ (rF σ 0 29) ≤ (rF σ 0 28) ∧ (rF σ 0 28) ≤ 4001
def post_X14_function (σ : rS)  (r : Int) : Prop := -1 ≤ r ∧ r ≤ 8 ∧ (0 ≤ r → (rF σ 0 29) < (rF σ 0 28))
def VC_X14_function (σ : rS) (Q : Int → Prop) : Prop := pre_X14_isWord σ 5 ∧ (∀ (x12 : Int), rng x12 → post_X14_isWord σ 5 x12 → ((x12 = 0 → pre_X14_isWord σ 4 ∧ (∀ (x15 : Int), rng x15 → post_X14_isWord σ 4 x15 → ((x15 = 0 → pre_X14_isWord σ 4 ∧ (∀ (x18 : Int), rng x18 → post_X14_isWord σ 4 x18 → ((x18 = 0 → pre_X14_isWord σ 5 ∧ (∀ (x21 : Int), rng x21 → post_X14_isWord σ 5 x21 → ((x21 = 0 → pre_X14_isWord σ 5 ∧ (∀ (x24 : Int), rng x24 → post_X14_isWord σ 5 x24 → ((x24 = 0 → pre_X14_isWord σ 7 ∧ (∀ (x27 : Int), rng x27 → post_X14_isWord σ 7 x27 → ((x27 = 0 → pre_X14_isWord σ 6 ∧ (∀ (x30 : Int), rng x30 → post_X14_isWord σ 6 x30 → ((x30 = 0 → pre_X14_isWord σ 6 ∧ (∀ (x33 : Int), rng x33 → post_X14_isWord σ 6 x33 → ((x33 = 0 → pre_X14_isWord σ 4 ∧ (∀ (x36 : Int), rng x36 → post_X14_isWord σ 4 x36 → ((x36 = 0 → Q (-1)) ∧ (¬ x36 = 0 → Q 8)))) ∧ (¬ x33 = 0 → Q 7)))) ∧ (¬ x30 = 0 → Q 6)))) ∧ (¬ x27 = 0 → Q 5)))) ∧ (¬ x24 = 0 → Q 4)))) ∧ (¬ x21 = 0 → Q 3)))) ∧ (¬ x18 = 0 → Q 2)))) ∧ (¬ x15 = 0 → Q 1)))) ∧ (¬ x12 = 0 → Q 0)))
set_option maxHeartbeats 400000 in
theorem vX14_function (σ : rS) (hwf : rWF σ) (hp : pre_X14_function σ ) : VC_X14_function σ (post_X14_function σ ) := by
  simp only [VC_X14_function, pre_X14_function, post_X14_function, pre_X14_isWord, post_X14_isWord, rng, rfk, rNMp, rF_sF, rF_sA, rF_sL, rF_sR, rA_sA, rA_sF, rA_sL, rA_sR, rR_sF, rR_sA, rR_sL, rR_sR, reduceIte, and_true, true_and, and_false, false_and, and_self] at *
  (repeat' (first | with_reducible intro _ | with_reducible apply And.intro))
  all_goals (first | assumption | omega | grind (splits := 20) [rNM_sF0])
theorem wX14_function (l : Launch) (G : zG) (κ : Nat → Nat) (σ : rS) (hwf : rWF σ) (Q : Int → Prop) (h : VC_X14_function σ Q) : rMi l G κ yX14_function cX14_function 1 .int 6 167 [.ref (κ 0)] σ (fun x s => s = σ ∧ Q x) := by
  refine zMi.intro (by decide +kernel) (Nat.le_of_ble_eq_true rfl) (fun X hC hR => ?_)
  refine z_aload_n hC (pc := 0) 0 dX14_function_0 rfl rfl ?_
  refine z_ldcSw hC (pc := 1) dX14_function_1 zS_37 ?_
  obtain ⟨p10, h⟩ := h
  refine y_callVi hC (pc := 4) (As := [.ref (G.2.2 75)]) (kX14_isWord l G κ σ (G.2.2 75) 5 hwf (rSt_37 G) p10) dmX14_isWord zf14 rOb_0 dX14_function_4 zw3128 rfl rfl (Nat.le_of_ble_eq_true rfl) (Nat.le_of_ble_eq_true rfl) (Nat.le_of_ble_eq_true rfl) (Nat.le_of_ble_eq_true rfl) (Nat.le_of_ble_eq_true rfl) (kk := fun x12 s11 hx12 Ws11 qs11 => ?_)
  obtain ⟨es11, qs11⟩ := qs11
  have es11 := es11.symm
  subst es11
  have h := h x12 hx12 qs11
  obtain ⟨hT, hF⟩ := h
  refine y_if_eq hC (pc := 7) 14 hx12 dX14_function_7 (by decide) (fun c => ?_) (fun c => ?_)
  · have h := hT c
    refine z_aload_n hC (pc := 14) 0 dX14_function_14 rfl rfl ?_
    refine z_ldcSw hC (pc := 15) dX14_function_15 zS_38 ?_
    obtain ⟨p13, h⟩ := h
    refine y_callVi hC (pc := 18) (As := [.ref (G.2.2 77)]) (kX14_isWord l G κ σ (G.2.2 77) 4 hwf (rSt_38 G) p13) dmX14_isWord zf14 rOb_0 dX14_function_18 zw3128 rfl rfl (Nat.le_of_ble_eq_true rfl) (Nat.le_of_ble_eq_true rfl) (Nat.le_of_ble_eq_true rfl) (Nat.le_of_ble_eq_true rfl) (Nat.le_of_ble_eq_true rfl) (kk := fun x15 s14 hx15 Ws14 qs14 => ?_)
    obtain ⟨es14, qs14⟩ := qs14
    have es14 := es14.symm
    subst es14
    have h := h x15 hx15 qs14
    obtain ⟨hT, hF⟩ := h
    refine y_if_eq hC (pc := 21) 28 hx15 dX14_function_21 (by decide) (fun c => ?_) (fun c => ?_)
    · have h := hT c
      refine z_aload_n hC (pc := 28) 0 dX14_function_28 rfl rfl ?_
      refine z_ldcSw hC (pc := 29) dX14_function_29 zS_39 ?_
      obtain ⟨p16, h⟩ := h
      refine y_callVi hC (pc := 32) (As := [.ref (G.2.2 79)]) (kX14_isWord l G κ σ (G.2.2 79) 4 hwf (rSt_39 G) p16) dmX14_isWord zf14 rOb_0 dX14_function_32 zw3128 rfl rfl (Nat.le_of_ble_eq_true rfl) (Nat.le_of_ble_eq_true rfl) (Nat.le_of_ble_eq_true rfl) (Nat.le_of_ble_eq_true rfl) (Nat.le_of_ble_eq_true rfl) (kk := fun x18 s17 hx18 Ws17 qs17 => ?_)
      obtain ⟨es17, qs17⟩ := qs17
      have es17 := es17.symm
      subst es17
      have h := h x18 hx18 qs17
      obtain ⟨hT, hF⟩ := h
      refine y_if_eq hC (pc := 35) 42 hx18 dX14_function_35 (by decide) (fun c => ?_) (fun c => ?_)
      · have h := hT c
        refine z_aload_n hC (pc := 42) 0 dX14_function_42 rfl rfl ?_
        refine z_ldcSw hC (pc := 43) dX14_function_43 zS_40 ?_
        obtain ⟨p19, h⟩ := h
        refine y_callVi hC (pc := 46) (As := [.ref (G.2.2 81)]) (kX14_isWord l G κ σ (G.2.2 81) 5 hwf (rSt_40 G) p19) dmX14_isWord zf14 rOb_0 dX14_function_46 zw3128 rfl rfl (Nat.le_of_ble_eq_true rfl) (Nat.le_of_ble_eq_true rfl) (Nat.le_of_ble_eq_true rfl) (Nat.le_of_ble_eq_true rfl) (Nat.le_of_ble_eq_true rfl) (kk := fun x21 s20 hx21 Ws20 qs20 => ?_)
        obtain ⟨es20, qs20⟩ := qs20
        have es20 := es20.symm
        subst es20
        have h := h x21 hx21 qs20
        obtain ⟨hT, hF⟩ := h
        refine y_if_eq hC (pc := 49) 56 hx21 dX14_function_49 (by decide) (fun c => ?_) (fun c => ?_)
        · have h := hT c
          refine z_aload_n hC (pc := 56) 0 dX14_function_56 rfl rfl ?_
          refine z_ldcSw hC (pc := 57) dX14_function_57 zS_41 ?_
          obtain ⟨p22, h⟩ := h
          refine y_callVi hC (pc := 60) (As := [.ref (G.2.2 83)]) (kX14_isWord l G κ σ (G.2.2 83) 5 hwf (rSt_41 G) p22) dmX14_isWord zf14 rOb_0 dX14_function_60 zw3128 rfl rfl (Nat.le_of_ble_eq_true rfl) (Nat.le_of_ble_eq_true rfl) (Nat.le_of_ble_eq_true rfl) (Nat.le_of_ble_eq_true rfl) (Nat.le_of_ble_eq_true rfl) (kk := fun x24 s23 hx24 Ws23 qs23 => ?_)
          obtain ⟨es23, qs23⟩ := qs23
          have es23 := es23.symm
          subst es23
          have h := h x24 hx24 qs23
          obtain ⟨hT, hF⟩ := h
          refine y_if_eq hC (pc := 63) 70 hx24 dX14_function_63 (by decide) (fun c => ?_) (fun c => ?_)
          · have h := hT c
            refine z_aload_n hC (pc := 70) 0 dX14_function_70 rfl rfl ?_
            refine z_ldcSw hC (pc := 71) dX14_function_71 zS_42 ?_
            obtain ⟨p25, h⟩ := h
            refine y_callVi hC (pc := 74) (As := [.ref (G.2.2 85)]) (kX14_isWord l G κ σ (G.2.2 85) 7 hwf (rSt_42 G) p25) dmX14_isWord zf14 rOb_0 dX14_function_74 zw3128 rfl rfl (Nat.le_of_ble_eq_true rfl) (Nat.le_of_ble_eq_true rfl) (Nat.le_of_ble_eq_true rfl) (Nat.le_of_ble_eq_true rfl) (Nat.le_of_ble_eq_true rfl) (kk := fun x27 s26 hx27 Ws26 qs26 => ?_)
            obtain ⟨es26, qs26⟩ := qs26
            have es26 := es26.symm
            subst es26
            have h := h x27 hx27 qs26
            obtain ⟨hT, hF⟩ := h
            refine y_if_eq hC (pc := 77) 84 hx27 dX14_function_77 (by decide) (fun c => ?_) (fun c => ?_)
            · have h := hT c
              refine z_aload_n hC (pc := 84) 0 dX14_function_84 rfl rfl ?_
              refine z_ldcSw hC (pc := 85) dX14_function_85 zS_43 ?_
              obtain ⟨p28, h⟩ := h
              refine y_callVi hC (pc := 88) (As := [.ref (G.2.2 87)]) (kX14_isWord l G κ σ (G.2.2 87) 6 hwf (rSt_43 G) p28) dmX14_isWord zf14 rOb_0 dX14_function_88 zw3128 rfl rfl (Nat.le_of_ble_eq_true rfl) (Nat.le_of_ble_eq_true rfl) (Nat.le_of_ble_eq_true rfl) (Nat.le_of_ble_eq_true rfl) (Nat.le_of_ble_eq_true rfl) (kk := fun x30 s29 hx30 Ws29 qs29 => ?_)
              obtain ⟨es29, qs29⟩ := qs29
              have es29 := es29.symm
              subst es29
              have h := h x30 hx30 qs29
              obtain ⟨hT, hF⟩ := h
              refine y_if_eq hC (pc := 91) 99 hx30 dX14_function_91 (by decide) (fun c => ?_) (fun c => ?_)
              · have h := hT c
                refine z_aload_n hC (pc := 99) 0 dX14_function_99 rfl rfl ?_
                refine z_ldcSw hC (pc := 100) dX14_function_100 zS_44 ?_
                obtain ⟨p31, h⟩ := h
                refine y_callVi hC (pc := 103) (As := [.ref (G.2.2 89)]) (kX14_isWord l G κ σ (G.2.2 89) 6 hwf (rSt_44 G) p31) dmX14_isWord zf14 rOb_0 dX14_function_103 zw3128 rfl rfl (Nat.le_of_ble_eq_true rfl) (Nat.le_of_ble_eq_true rfl) (Nat.le_of_ble_eq_true rfl) (Nat.le_of_ble_eq_true rfl) (Nat.le_of_ble_eq_true rfl) (kk := fun x33 s32 hx33 Ws32 qs32 => ?_)
                obtain ⟨es32, qs32⟩ := qs32
                have es32 := es32.symm
                subst es32
                have h := h x33 hx33 qs32
                obtain ⟨hT, hF⟩ := h
                refine y_if_eq hC (pc := 106) 114 hx33 dX14_function_106 (by decide) (fun c => ?_) (fun c => ?_)
                · have h := hT c
                  refine z_aload_n hC (pc := 114) 0 dX14_function_114 rfl rfl ?_
                  refine z_ldcSw hC (pc := 115) dX14_function_115 zS_45 ?_
                  obtain ⟨p34, h⟩ := h
                  refine y_callVi hC (pc := 118) (As := [.ref (G.2.2 91)]) (kX14_isWord l G κ σ (G.2.2 91) 4 hwf (rSt_45 G) p34) dmX14_isWord zf14 rOb_0 dX14_function_118 zw3128 rfl rfl (Nat.le_of_ble_eq_true rfl) (Nat.le_of_ble_eq_true rfl) (Nat.le_of_ble_eq_true rfl) (Nat.le_of_ble_eq_true rfl) (Nat.le_of_ble_eq_true rfl) (kk := fun x36 s35 hx36 Ws35 qs35 => ?_)
                  obtain ⟨es35, qs35⟩ := qs35
                  have es35 := es35.symm
                  subst es35
                  have h := h x36 hx36 qs35
                  obtain ⟨hT, hF⟩ := h
                  refine y_if_eq hC (pc := 121) 129 hx36 dX14_function_121 (by decide) (fun c => ?_) (fun c => ?_)
                  · have h := hT c
                    refine z_iconst hC (pc := 129) (v := Int32.ofInt (-1)) dX14_function_129 (by decide) ?_
                    exact y_reti hR dX14_function_130 rfl (r_lit rfl) hwf (Nat.le_of_ble_eq_true rfl) (Nat.le_of_ble_eq_true rfl) ⟨rfl, h⟩
                  · have h := hF c
                    refine z_bipush hC (pc := 124) (v := Int32.ofInt 8) dX14_function_124 (by decide) ?_
                    refine z_goto hC (pc := 126) 130 dX14_function_126 (by decide) ?_
                    exact y_reti hR dX14_function_130 rfl (r_lit rfl) hwf (Nat.le_of_ble_eq_true rfl) (Nat.le_of_ble_eq_true rfl) ⟨rfl, h⟩
                · have h := hF c
                  refine z_bipush hC (pc := 109) (v := Int32.ofInt 7) dX14_function_109 (by decide) ?_
                  refine z_goto hC (pc := 111) 130 dX14_function_111 (by decide) ?_
                  exact y_reti hR dX14_function_130 rfl (r_lit rfl) hwf (Nat.le_of_ble_eq_true rfl) (Nat.le_of_ble_eq_true rfl) ⟨rfl, h⟩
              · have h := hF c
                refine z_bipush hC (pc := 94) (v := Int32.ofInt 6) dX14_function_94 (by decide) ?_
                refine z_goto hC (pc := 96) 130 dX14_function_96 (by decide) ?_
                exact y_reti hR dX14_function_130 rfl (r_lit rfl) hwf (Nat.le_of_ble_eq_true rfl) (Nat.le_of_ble_eq_true rfl) ⟨rfl, h⟩
            · have h := hF c
              refine z_iconst hC (pc := 80) (v := Int32.ofInt 5) dX14_function_80 (by decide) ?_
              refine z_goto hC (pc := 81) 130 dX14_function_81 (by decide) ?_
              exact y_reti hR dX14_function_130 rfl (r_lit rfl) hwf (Nat.le_of_ble_eq_true rfl) (Nat.le_of_ble_eq_true rfl) ⟨rfl, h⟩
          · have h := hF c
            refine z_iconst hC (pc := 66) (v := Int32.ofInt 4) dX14_function_66 (by decide) ?_
            refine z_goto hC (pc := 67) 130 dX14_function_67 (by decide) ?_
            exact y_reti hR dX14_function_130 rfl (r_lit rfl) hwf (Nat.le_of_ble_eq_true rfl) (Nat.le_of_ble_eq_true rfl) ⟨rfl, h⟩
        · have h := hF c
          refine z_iconst hC (pc := 52) (v := Int32.ofInt 3) dX14_function_52 (by decide) ?_
          refine z_goto hC (pc := 53) 130 dX14_function_53 (by decide) ?_
          exact y_reti hR dX14_function_130 rfl (r_lit rfl) hwf (Nat.le_of_ble_eq_true rfl) (Nat.le_of_ble_eq_true rfl) ⟨rfl, h⟩
      · have h := hF c
        refine z_iconst hC (pc := 38) (v := Int32.ofInt 2) dX14_function_38 (by decide) ?_
        refine z_goto hC (pc := 39) 130 dX14_function_39 (by decide) ?_
        exact y_reti hR dX14_function_130 rfl (r_lit rfl) hwf (Nat.le_of_ble_eq_true rfl) (Nat.le_of_ble_eq_true rfl) ⟨rfl, h⟩
    · have h := hF c
      refine z_iconst hC (pc := 24) (v := Int32.ofInt 1) dX14_function_24 (by decide) ?_
      refine z_goto hC (pc := 25) 130 dX14_function_25 (by decide) ?_
      exact y_reti hR dX14_function_130 rfl (r_lit rfl) hwf (Nat.le_of_ble_eq_true rfl) (Nat.le_of_ble_eq_true rfl) ⟨rfl, h⟩
  · have h := hF c
    refine z_iconst hC (pc := 10) (v := Int32.ofInt 0) dX14_function_10 (by decide) ?_
    refine z_goto hC (pc := 11) 130 dX14_function_11 (by decide) ?_
    exact y_reti hR dX14_function_130 rfl (r_lit rfl) hwf (Nat.le_of_ble_eq_true rfl) (Nat.le_of_ble_eq_true rfl) ⟨rfl, h⟩
theorem kX14_function (l : Launch) (G : zG) (κ : Nat → Nat) (σ : rS) (hwf : rWF σ) (hp : pre_X14_function σ ) : rMi l G κ yX14_function cX14_function 1 .int 6 167 [.ref (κ 0)] σ (fun x s => s = σ ∧ post_X14_function σ x) := wX14_function l G κ σ hwf (post_X14_function σ ) (vX14_function σ hwf hp) 
def pre_X14_isSteering (σ : rS)  : Prop := 0 ≤ (rF σ 0 29) ∧ (rF σ 0 29) ≤ (rF σ 0 28) ∧ (rF σ 0 28) ≤ 4001
def post_X14_isSteering (σ : rS)  (r : Int) : Prop := (r = 0 ∨ r = 1)
def VC_X14_isSteering (σ : rS) (Q : Int → Prop) : Prop := pre_X14_isWord σ 2 ∧ (∀ (x12 : Int), rng x12 → post_X14_isWord σ 2 x12 → ((¬ x12 = 0 → Q 1) ∧ (x12 = 0 → pre_X14_isWord σ 6 ∧ (∀ (x15 : Int), rng x15 → post_X14_isWord σ 6 x15 → ((¬ x15 = 0 → Q 1) ∧ (x15 = 0 → pre_X14_isWord σ 4 ∧ (∀ (x18 : Int), rng x18 → post_X14_isWord σ 4 x18 → ((¬ x18 = 0 → Q 1) ∧ (x18 = 0 → pre_X14_isWord σ 5 ∧ (∀ (x21 : Int), rng x21 → post_X14_isWord σ 5 x21 → ((x21 = 0 → Q 0) ∧ (¬ x21 = 0 → Q 1))))))))))))
set_option maxHeartbeats 400000 in
theorem vX14_isSteering (σ : rS) (hwf : rWF σ) (hp : pre_X14_isSteering σ ) : VC_X14_isSteering σ (post_X14_isSteering σ ) := by
  simp only [VC_X14_isSteering, pre_X14_isSteering, post_X14_isSteering, pre_X14_isWord, post_X14_isWord, rng, rfk, rNMp, rF_sF, rF_sA, rF_sL, rF_sR, rA_sA, rA_sF, rA_sL, rA_sR, rR_sF, rR_sA, rR_sL, rR_sR, reduceIte, and_true, true_and, and_false, false_and, and_self] at *
  (repeat' (first | with_reducible intro _ | with_reducible apply And.intro))
  all_goals (first | assumption | omega | grind (splits := 20) [rNM_sF0])
theorem wX14_isSteering (l : Launch) (G : zG) (κ : Nat → Nat) (σ : rS) (hwf : rWF σ) (Q : Int → Prop) (h : VC_X14_isSteering σ Q) : rMi l G κ yX14_isSteering cX14_isSteering 1 .boolean 6 167 [.ref (κ 0)] σ (fun x s => s = σ ∧ Q x) := by
  refine zMi.intro (by decide +kernel) (Nat.le_of_ble_eq_true rfl) (fun X hC hR => ?_)
  refine z_aload_n hC (pc := 0) 0 dX14_isSteering_0 rfl rfl ?_
  refine z_ldcSw hC (pc := 1) dX14_isSteering_1 zS_46 ?_
  obtain ⟨p10, h⟩ := h
  refine y_callVi hC (pc := 4) (As := [.ref (G.2.2 93)]) (kX14_isWord l G κ σ (G.2.2 93) 2 hwf (rSt_46 G) p10) dmX14_isWord zf14 rOb_0 dX14_isSteering_4 zw3128 rfl rfl (Nat.le_of_ble_eq_true rfl) (Nat.le_of_ble_eq_true rfl) (Nat.le_of_ble_eq_true rfl) (Nat.le_of_ble_eq_true rfl) (Nat.le_of_ble_eq_true rfl) (kk := fun x12 s11 hx12 Ws11 qs11 => ?_)
  obtain ⟨es11, qs11⟩ := qs11
  have es11 := es11.symm
  subst es11
  have h := h x12 hx12 qs11
  obtain ⟨hT, hF⟩ := h
  refine y_if_ne hC (pc := 7) 40 hx12 dX14_isSteering_7 (by decide) (fun c => ?_) (fun c => ?_)
  · have h := hT c
    refine z_iconst hC (pc := 40) (v := Int32.ofInt 1) dX14_isSteering_40 (by decide) ?_
    refine z_goto hC (pc := 41) 45 dX14_isSteering_41 (by decide) ?_
    exact y_reti hR dX14_isSteering_45 rfl (r_lit rfl) hwf (Nat.le_of_ble_eq_true rfl) (Nat.le_of_ble_eq_true rfl) ⟨rfl, h⟩
  · have h := hF c
    refine z_aload_n hC (pc := 10) 0 dX14_isSteering_10 rfl rfl ?_
    refine z_ldcSw hC (pc := 11) dX14_isSteering_11 zS_47 ?_
    obtain ⟨p13, h⟩ := h
    refine y_callVi hC (pc := 14) (As := [.ref (G.2.2 95)]) (kX14_isWord l G κ σ (G.2.2 95) 6 hwf (rSt_47 G) p13) dmX14_isWord zf14 rOb_0 dX14_isSteering_14 zw3128 rfl rfl (Nat.le_of_ble_eq_true rfl) (Nat.le_of_ble_eq_true rfl) (Nat.le_of_ble_eq_true rfl) (Nat.le_of_ble_eq_true rfl) (Nat.le_of_ble_eq_true rfl) (kk := fun x15 s14 hx15 Ws14 qs14 => ?_)
    obtain ⟨es14, qs14⟩ := qs14
    have es14 := es14.symm
    subst es14
    have h := h x15 hx15 qs14
    obtain ⟨hT, hF⟩ := h
    refine y_if_ne hC (pc := 17) 40 hx15 dX14_isSteering_17 (by decide) (fun c => ?_) (fun c => ?_)
    · have h := hT c
      refine z_iconst hC (pc := 40) (v := Int32.ofInt 1) dX14_isSteering_40 (by decide) ?_
      refine z_goto hC (pc := 41) 45 dX14_isSteering_41 (by decide) ?_
      exact y_reti hR dX14_isSteering_45 rfl (r_lit rfl) hwf (Nat.le_of_ble_eq_true rfl) (Nat.le_of_ble_eq_true rfl) ⟨rfl, h⟩
    · have h := hF c
      refine z_aload_n hC (pc := 20) 0 dX14_isSteering_20 rfl rfl ?_
      refine z_ldcSw hC (pc := 21) dX14_isSteering_21 zS_48 ?_
      obtain ⟨p16, h⟩ := h
      refine y_callVi hC (pc := 24) (As := [.ref (G.2.2 97)]) (kX14_isWord l G κ σ (G.2.2 97) 4 hwf (rSt_48 G) p16) dmX14_isWord zf14 rOb_0 dX14_isSteering_24 zw3128 rfl rfl (Nat.le_of_ble_eq_true rfl) (Nat.le_of_ble_eq_true rfl) (Nat.le_of_ble_eq_true rfl) (Nat.le_of_ble_eq_true rfl) (Nat.le_of_ble_eq_true rfl) (kk := fun x18 s17 hx18 Ws17 qs17 => ?_)
      obtain ⟨es17, qs17⟩ := qs17
      have es17 := es17.symm
      subst es17
      have h := h x18 hx18 qs17
      obtain ⟨hT, hF⟩ := h
      refine y_if_ne hC (pc := 27) 40 hx18 dX14_isSteering_27 (by decide) (fun c => ?_) (fun c => ?_)
      · have h := hT c
        refine z_iconst hC (pc := 40) (v := Int32.ofInt 1) dX14_isSteering_40 (by decide) ?_
        refine z_goto hC (pc := 41) 45 dX14_isSteering_41 (by decide) ?_
        exact y_reti hR dX14_isSteering_45 rfl (r_lit rfl) hwf (Nat.le_of_ble_eq_true rfl) (Nat.le_of_ble_eq_true rfl) ⟨rfl, h⟩
      · have h := hF c
        refine z_aload_n hC (pc := 30) 0 dX14_isSteering_30 rfl rfl ?_
        refine z_ldcSw hC (pc := 31) dX14_isSteering_31 zS_49 ?_
        obtain ⟨p19, h⟩ := h
        refine y_callVi hC (pc := 34) (As := [.ref (G.2.2 99)]) (kX14_isWord l G κ σ (G.2.2 99) 5 hwf (rSt_49 G) p19) dmX14_isWord zf14 rOb_0 dX14_isSteering_34 zw3128 rfl rfl (Nat.le_of_ble_eq_true rfl) (Nat.le_of_ble_eq_true rfl) (Nat.le_of_ble_eq_true rfl) (Nat.le_of_ble_eq_true rfl) (Nat.le_of_ble_eq_true rfl) (kk := fun x21 s20 hx21 Ws20 qs20 => ?_)
        obtain ⟨es20, qs20⟩ := qs20
        have es20 := es20.symm
        subst es20
        have h := h x21 hx21 qs20
        obtain ⟨hT, hF⟩ := h
        refine y_if_eq hC (pc := 37) 44 hx21 dX14_isSteering_37 (by decide) (fun c => ?_) (fun c => ?_)
        · have h := hT c
          refine z_iconst hC (pc := 44) (v := Int32.ofInt 0) dX14_isSteering_44 (by decide) ?_
          exact y_reti hR dX14_isSteering_45 rfl (r_lit rfl) hwf (Nat.le_of_ble_eq_true rfl) (Nat.le_of_ble_eq_true rfl) ⟨rfl, h⟩
        · have h := hF c
          refine z_iconst hC (pc := 40) (v := Int32.ofInt 1) dX14_isSteering_40 (by decide) ?_
          refine z_goto hC (pc := 41) 45 dX14_isSteering_41 (by decide) ?_
          exact y_reti hR dX14_isSteering_45 rfl (r_lit rfl) hwf (Nat.le_of_ble_eq_true rfl) (Nat.le_of_ble_eq_true rfl) ⟨rfl, h⟩
theorem kX14_isSteering (l : Launch) (G : zG) (κ : Nat → Nat) (σ : rS) (hwf : rWF σ) (hp : pre_X14_isSteering σ ) : rMi l G κ yX14_isSteering cX14_isSteering 1 .boolean 6 167 [.ref (κ 0)] σ (fun x s => s = σ ∧ post_X14_isSteering σ x) := wX14_isSteering l G κ σ hwf (post_X14_isSteering σ ) (vX14_isSteering σ hwf hp) 
def pre_X14_isReserved (σ : rS)  : Prop := 0 ≤ (rF σ 0 29) ∧ (rF σ 0 29) ≤ (rF σ 0 28) ∧ (rF σ 0 28) ≤ 4001
def post_X14_isReserved (σ : rS)  (r : Int) : Prop := (r = 0 ∨ r = 1)
def VC_X14_isReserved (σ : rS) (Q : Int → Prop) : Prop := pre_X14_function σ ∧ (∀ (x12 : Int), rng x12 → post_X14_function σ x12 → ((0 ≤ x12 → Q 1) ∧ (¬ 0 ≤ x12 → pre_X14_isSteering σ ∧ (∀ (x15 : Int), rng x15 → post_X14_isSteering σ x15 → ((¬ x15 = 0 → Q 1) ∧ (x15 = 0 → pre_X14_isWord σ 5 ∧ (∀ (x18 : Int), rng x18 → post_X14_isWord σ 5 x18 → ((¬ x18 = 0 → Q 1) ∧ (x18 = 0 → pre_X14_isWord σ 4 ∧ (∀ (x21 : Int), rng x21 → post_X14_isWord σ 4 x21 → ((¬ x21 = 0 → Q 1) ∧ (x21 = 0 → pre_X14_isWord σ 5 ∧ (∀ (x24 : Int), rng x24 → post_X14_isWord σ 5 x24 → ((x24 = 0 → Q 0) ∧ (¬ x24 = 0 → Q 1)))))))))))))))
set_option maxHeartbeats 400000 in
theorem vX14_isReserved (σ : rS) (hwf : rWF σ) (hp : pre_X14_isReserved σ ) : VC_X14_isReserved σ (post_X14_isReserved σ ) := by
  simp only [VC_X14_isReserved, pre_X14_isReserved, post_X14_isReserved, pre_X14_isSteering, pre_X14_function, pre_X14_isWord, post_X14_isSteering, post_X14_function, post_X14_isWord, rng, rfk, rNMp, rF_sF, rF_sA, rF_sL, rF_sR, rA_sA, rA_sF, rA_sL, rA_sR, rR_sF, rR_sA, rR_sL, rR_sR, reduceIte, and_true, true_and, and_false, false_and, and_self] at *
  (repeat' (first | with_reducible intro _ | with_reducible apply And.intro))
  all_goals (first | assumption | omega | grind (splits := 20) [rNM_sF0])
theorem wX14_isReserved (l : Launch) (G : zG) (κ : Nat → Nat) (σ : rS) (hwf : rWF σ) (Q : Int → Prop) (h : VC_X14_isReserved σ Q) : rMi l G κ yX14_isReserved cX14_isReserved 1 .boolean 7 187 [.ref (κ 0)] σ (fun x s => s = σ ∧ Q x) := by
  refine zMi.intro (by decide +kernel) (Nat.le_of_ble_eq_true rfl) (fun X hC hR => ?_)
  refine z_aload_n hC (pc := 0) 0 dX14_isReserved_0 rfl rfl ?_
  obtain ⟨p10, h⟩ := h
  refine y_callVi hC (pc := 1) (As := []) (kX14_function l G κ σ  hwf  p10) dmX14_function zf14 rOb_0 dX14_isReserved_1 zw3145 rfl rfl (Nat.le_of_ble_eq_true rfl) (Nat.le_of_ble_eq_true rfl) (Nat.le_of_ble_eq_true rfl) (Nat.le_of_ble_eq_true rfl) (Nat.le_of_ble_eq_true rfl) (kk := fun x12 s11 hx12 Ws11 qs11 => ?_)
  obtain ⟨es11, qs11⟩ := qs11
  have es11 := es11.symm
  subst es11
  have h := h x12 hx12 qs11
  obtain ⟨hT, hF⟩ := h
  refine y_if_ge hC (pc := 4) 44 hx12 dX14_isReserved_4 (by decide) (fun c => ?_) (fun c => ?_)
  · have h := hT c
    refine z_iconst hC (pc := 44) (v := Int32.ofInt 1) dX14_isReserved_44 (by decide) ?_
    refine z_goto hC (pc := 45) 49 dX14_isReserved_45 (by decide) ?_
    exact y_reti hR dX14_isReserved_49 rfl (r_lit rfl) hwf (Nat.le_of_ble_eq_true rfl) (Nat.le_of_ble_eq_true rfl) ⟨rfl, h⟩
  · have h := hF c
    refine z_aload_n hC (pc := 7) 0 dX14_isReserved_7 rfl rfl ?_
    obtain ⟨p13, h⟩ := h
    refine y_callVi hC (pc := 8) (As := []) (kX14_isSteering l G κ σ  hwf  p13) dmX14_isSteering zf14 rOb_0 dX14_isReserved_8 zw3158 rfl rfl (Nat.le_of_ble_eq_true rfl) (Nat.le_of_ble_eq_true rfl) (Nat.le_of_ble_eq_true rfl) (Nat.le_of_ble_eq_true rfl) (Nat.le_of_ble_eq_true rfl) (kk := fun x15 s14 hx15 Ws14 qs14 => ?_)
    obtain ⟨es14, qs14⟩ := qs14
    have es14 := es14.symm
    subst es14
    have h := h x15 hx15 qs14
    obtain ⟨hT, hF⟩ := h
    refine y_if_ne hC (pc := 11) 44 hx15 dX14_isReserved_11 (by decide) (fun c => ?_) (fun c => ?_)
    · have h := hT c
      refine z_iconst hC (pc := 44) (v := Int32.ofInt 1) dX14_isReserved_44 (by decide) ?_
      refine z_goto hC (pc := 45) 49 dX14_isReserved_45 (by decide) ?_
      exact y_reti hR dX14_isReserved_49 rfl (r_lit rfl) hwf (Nat.le_of_ble_eq_true rfl) (Nat.le_of_ble_eq_true rfl) ⟨rfl, h⟩
    · have h := hF c
      refine z_aload_n hC (pc := 14) 0 dX14_isReserved_14 rfl rfl ?_
      refine z_ldcSw hC (pc := 15) dX14_isReserved_15 zS_50 ?_
      obtain ⟨p16, h⟩ := h
      refine y_callVi hC (pc := 18) (As := [.ref (G.2.2 101)]) (kX14_isWord l G κ σ (G.2.2 101) 5 hwf (rSt_50 G) p16) dmX14_isWord zf14 rOb_0 dX14_isReserved_18 zw3128 rfl rfl (Nat.le_of_ble_eq_true rfl) (Nat.le_of_ble_eq_true rfl) (Nat.le_of_ble_eq_true rfl) (Nat.le_of_ble_eq_true rfl) (Nat.le_of_ble_eq_true rfl) (kk := fun x18 s17 hx18 Ws17 qs17 => ?_)
      obtain ⟨es17, qs17⟩ := qs17
      have es17 := es17.symm
      subst es17
      have h := h x18 hx18 qs17
      obtain ⟨hT, hF⟩ := h
      refine y_if_ne hC (pc := 21) 44 hx18 dX14_isReserved_21 (by decide) (fun c => ?_) (fun c => ?_)
      · have h := hT c
        refine z_iconst hC (pc := 44) (v := Int32.ofInt 1) dX14_isReserved_44 (by decide) ?_
        refine z_goto hC (pc := 45) 49 dX14_isReserved_45 (by decide) ?_
        exact y_reti hR dX14_isReserved_49 rfl (r_lit rfl) hwf (Nat.le_of_ble_eq_true rfl) (Nat.le_of_ble_eq_true rfl) ⟨rfl, h⟩
      · have h := hF c
        refine z_aload_n hC (pc := 24) 0 dX14_isReserved_24 rfl rfl ?_
        refine z_ldcSw hC (pc := 25) dX14_isReserved_25 zS_26 ?_
        obtain ⟨p19, h⟩ := h
        refine y_callVi hC (pc := 28) (As := [.ref (G.2.2 53)]) (kX14_isWord l G κ σ (G.2.2 53) 4 hwf (rSt_26 G) p19) dmX14_isWord zf14 rOb_0 dX14_isReserved_28 zw3128 rfl rfl (Nat.le_of_ble_eq_true rfl) (Nat.le_of_ble_eq_true rfl) (Nat.le_of_ble_eq_true rfl) (Nat.le_of_ble_eq_true rfl) (Nat.le_of_ble_eq_true rfl) (kk := fun x21 s20 hx21 Ws20 qs20 => ?_)
        obtain ⟨es20, qs20⟩ := qs20
        have es20 := es20.symm
        subst es20
        have h := h x21 hx21 qs20
        obtain ⟨hT, hF⟩ := h
        refine y_if_ne hC (pc := 31) 44 hx21 dX14_isReserved_31 (by decide) (fun c => ?_) (fun c => ?_)
        · have h := hT c
          refine z_iconst hC (pc := 44) (v := Int32.ofInt 1) dX14_isReserved_44 (by decide) ?_
          refine z_goto hC (pc := 45) 49 dX14_isReserved_45 (by decide) ?_
          exact y_reti hR dX14_isReserved_49 rfl (r_lit rfl) hwf (Nat.le_of_ble_eq_true rfl) (Nat.le_of_ble_eq_true rfl) ⟨rfl, h⟩
        · have h := hF c
          refine z_aload_n hC (pc := 34) 0 dX14_isReserved_34 rfl rfl ?_
          refine z_ldcSw hC (pc := 35) dX14_isReserved_35 zS_27 ?_
          obtain ⟨p22, h⟩ := h
          refine y_callVi hC (pc := 38) (As := [.ref (G.2.2 55)]) (kX14_isWord l G κ σ (G.2.2 55) 5 hwf (rSt_27 G) p22) dmX14_isWord zf14 rOb_0 dX14_isReserved_38 zw3128 rfl rfl (Nat.le_of_ble_eq_true rfl) (Nat.le_of_ble_eq_true rfl) (Nat.le_of_ble_eq_true rfl) (Nat.le_of_ble_eq_true rfl) (Nat.le_of_ble_eq_true rfl) (kk := fun x24 s23 hx24 Ws23 qs23 => ?_)
          obtain ⟨es23, qs23⟩ := qs23
          have es23 := es23.symm
          subst es23
          have h := h x24 hx24 qs23
          obtain ⟨hT, hF⟩ := h
          refine y_if_eq hC (pc := 41) 48 hx24 dX14_isReserved_41 (by decide) (fun c => ?_) (fun c => ?_)
          · have h := hT c
            refine z_iconst hC (pc := 48) (v := Int32.ofInt 0) dX14_isReserved_48 (by decide) ?_
            exact y_reti hR dX14_isReserved_49 rfl (r_lit rfl) hwf (Nat.le_of_ble_eq_true rfl) (Nat.le_of_ble_eq_true rfl) ⟨rfl, h⟩
          · have h := hF c
            refine z_iconst hC (pc := 44) (v := Int32.ofInt 1) dX14_isReserved_44 (by decide) ?_
            refine z_goto hC (pc := 45) 49 dX14_isReserved_45 (by decide) ?_
            exact y_reti hR dX14_isReserved_49 rfl (r_lit rfl) hwf (Nat.le_of_ble_eq_true rfl) (Nat.le_of_ble_eq_true rfl) ⟨rfl, h⟩
theorem kX14_isReserved (l : Launch) (G : zG) (κ : Nat → Nat) (σ : rS) (hwf : rWF σ) (hp : pre_X14_isReserved σ ) : rMi l G κ yX14_isReserved cX14_isReserved 1 .boolean 7 187 [.ref (κ 0)] σ (fun x s => s = σ ∧ post_X14_isReserved σ x) := wX14_isReserved l G κ σ hwf (post_X14_isReserved σ ) (vX14_isReserved σ hwf hp) 
def pre_X14_sign (σ : rS) (n1 : Nat) : Prop := 0 ≤ (rF σ 0 17) ∧ 0 ≤ (rF σ 0 16) ∧ (rF σ 0 16) ≤ 4000 ∧ rfk (rR σ 15) ∧ (rF σ 0 17) ≤ (rF σ 0 16) ∧ 0 < n1
def post_X14_sign (σ : rS) (n1 : Nat) (σ' : rS) : Prop := (rF σ 0 17) ≤ (rF σ' 0 17) ∧ (rF σ' 0 17) ≤ (rF σ 0 16) ∧ ((rF σ 0 10) ≠ 0 → (rF σ' 0 10) = (rF σ 0 10)) ∧ ((rF σ' 0 10) = 0 → (rF σ 0 17) < (rF σ' 0 17))
def inv_X14_sign_86 (σ : rS) (n1 : Nat)  (s : rS) (b : Int) (kk : Int) : Prop := rF s 0 10 = 0 ∧ (rF σ 0 10) = 0 ∧ (rF σ 0 17) ≤ (rF s 0 17) ∧ (rF s 0 17) ≤ (rF σ 0 16) ∧ (b = 0 ∨ b = 1) ∧ (b = 1 → (rF s 0 17) + (n1 : Int) ≤ (rF σ 0 16)) ∧ 0 ≤ kk ∧ kk ≤ (n1 : Int)
def mu_X14_sign_86 (σ : rS) (n1 : Nat) (s : rS) (b : Int) (kk : Int) : Nat := (1 + ((n1 : Int) - kk).toNat)
def VC_X14_sign (σ : rS) (n1 : Nat) (Q : rS → Prop) : Prop := pre_X14_skip σ ∧ (∀ (s11 : rS), rWF s11 → rR s11 15 = rR σ 15 → rF s11 0 16 = rF σ 0 16 → post_X14_skip σ s11 → (rng (rF s11 0 10) → (((rF s11 0 10) = 0 → (rng (rF s11 0 17) → (rng (rF s11 0 16) → rng ((rF s11 0 17) + (n1 : Int)) ∧ (((rF s11 0 16) < ((rF s11 0 17) + (n1 : Int)) → ((¬ (n1 : Int) = 1 → (inv_X14_sign_86 σ n1 s11 0 0)) ∧ ((n1 : Int) = 1 → ((0 : Int) ≤ 0 ∧ 0 < (n1 : Int)) ∧ (∀ (x34 : Int), (0 ≤ x34 ∧ x34 ≤ 255) → ((¬ x34 = 58 → (inv_X14_sign_86 σ n1 s11 0 0)) ∧ (x34 = 58 → rng ((rF s11 0 17) + 1) ∧ pre_X14_fc s11 ((rF s11 0 17) + 1) ∧ (∀ (x57 : Int), rng x57 → post_X14_fc s11 ((rF s11 0 17) + 1) x57 → ((¬ x57 = 58 → (inv_X14_sign_86 σ n1 s11 0 0)) ∧ (x57 = 58 → rng ((rF s11 0 17) + 2) ∧ pre_X14_fc s11 ((rF s11 0 17) + 2) ∧ (∀ (x80 : Int), rng x80 → post_X14_fc s11 ((rF s11 0 17) + 2) x80 → ((¬ x80 = 61 → (inv_X14_sign_86 σ n1 s11 0 0)) ∧ (x80 = 61 → (inv_X14_sign_86 σ n1 s11 0 0))))))))))))) ∧ (¬ (rF s11 0 16) < ((rF s11 0 17) + (n1 : Int)) → ((¬ (n1 : Int) = 1 → (inv_X14_sign_86 σ n1 s11 1 0)) ∧ ((n1 : Int) = 1 → ((0 : Int) ≤ 0 ∧ 0 < (n1 : Int)) ∧ (∀ (x139 : Int), (0 ≤ x139 ∧ x139 ≤ 255) → ((¬ x139 = 58 → (inv_X14_sign_86 σ n1 s11 1 0)) ∧ (x139 = 58 → rng ((rF s11 0 17) + 1) ∧ pre_X14_fc s11 ((rF s11 0 17) + 1) ∧ (∀ (x162 : Int), rng x162 → post_X14_fc s11 ((rF s11 0 17) + 1) x162 → ((¬ x162 = 58 → (inv_X14_sign_86 σ n1 s11 1 0)) ∧ (x162 = 58 → rng ((rF s11 0 17) + 2) ∧ pre_X14_fc s11 ((rF s11 0 17) + 2) ∧ (∀ (x185 : Int), rng x185 → post_X14_fc s11 ((rF s11 0 17) + 2) x185 → ((¬ x185 = 61 → (inv_X14_sign_86 σ n1 s11 1 0)) ∧ (x185 = 61 → (inv_X14_sign_86 σ n1 s11 0 0))))))))))))))))) ∧ (¬ (rF s11 0 10) = 0 → Q s11))))
def VC_X14_sign_86 (σ : rS) (n1 : Nat) (Q : rS → Prop) : Prop := ∀ (s14 : rS) (y15 : Int) (y16 : Int), rWF s14 → rng y15 → rng y16 → rR s14 15 = rR σ 15 → rF s14 0 16 = rF σ 0 16 → inv_X14_sign_86 σ n1 s14 y15 y16 → ((((n1 : Int) ≤ y16 → ((y15 = 0 → (rng (rF s14 0 17) → pre_X14_bad s14 1 (rF s14 0 17) ∧ (∀ (s18 : rS), rWF s18 → rR s18 15 = rR s14 15 → rF s18 0 16 = rF s14 0 16 → rF s18 0 17 = rF s14 0 17 → post_X14_bad s14 1 (rF s14 0 17) s18 → Q s18))) ∧ (¬ y15 = 0 → (rng (rF s14 0 17) → rng ((rF s14 0 17) + (n1 : Int)) ∧ Q (sF s14 0 17 ((rF s14 0 17) + (n1 : Int))))))) ∧ (¬ (n1 : Int) ≤ y16 → ((y15 = 0 → ((y15 = 0 → (rng (rF s14 0 17) → pre_X14_bad s14 1 (rF s14 0 17) ∧ (∀ (s23 : rS), rWF s23 → rR s23 15 = rR s14 15 → rF s23 0 16 = rF s14 0 16 → rF s23 0 17 = rF s14 0 17 → post_X14_bad s14 1 (rF s14 0 17) s23 → Q s23))) ∧ (¬ y15 = 0 → (rng (rF s14 0 17) → rng ((rF s14 0 17) + (n1 : Int)) ∧ Q (sF s14 0 17 ((rF s14 0 17) + (n1 : Int))))))) ∧ (¬ y15 = 0 → rfk (rR s14 15) ∧ (rng (rF s14 0 17) → (0 ≤ ((rF s14 0 17) + y16) ∧ ((rF s14 0 17) + y16) < 4000) ∧ (rng (rA s14 (rR s14 15) ((rF s14 0 17) + y16)) → ((0 : Int) ≤ y16 ∧ y16 < (n1 : Int)) ∧ (∀ (x30 : Int), (0 ≤ x30 ∧ x30 ≤ 255) → ((¬ (rA s14 (rR s14 15) ((rF s14 0 17) + y16)) = x30 → rng (y16 + 1) ∧ (inv_X14_sign_86 σ n1 s14 0 (y16 + 1) ∧ (mu_X14_sign_86 σ n1 s14 0 (y16 + 1)) < (mu_X14_sign_86 σ n1 s14 y15 y16))) ∧ ((rA s14 (rR s14 15) ((rF s14 0 17) + y16)) = x30 → rng (y16 + 1) ∧ (inv_X14_sign_86 σ n1 s14 1 (y16 + 1) ∧ (mu_X14_sign_86 σ n1 s14 1 (y16 + 1)) < (mu_X14_sign_86 σ n1 s14 y15 y16))))))))))))
def VC_X14_sign_86m (σ : rS) (n1 : Nat) : Prop := ∀ (s14 : rS) (y15 : Int) (y16 : Int), rWF s14 → rng y15 → rng y16 → rR s14 15 = rR σ 15 → rF s14 0 16 = rF σ 0 16 → inv_X14_sign_86 σ n1 s14 y15 y16 → 0 < (mu_X14_sign_86 σ n1 s14 y15 y16)
set_option maxHeartbeats 400000 in
theorem vX14_sign (σ : rS) (n1 : Nat) (hwf : rWF σ) (hs1 : n1 < 1000) (hp : pre_X14_sign σ n1) : VC_X14_sign σ n1 (post_X14_sign σ n1) := by
  simp only [VC_X14_sign, pre_X14_sign, post_X14_sign, inv_X14_sign_86, mu_X14_sign_86, pre_X14_skip, pre_X14_bad, pre_X14_fc, post_X14_skip, post_X14_bad, post_X14_fc, rng, rfk, rNMp, rF_sF, rF_sA, rF_sL, rF_sR, rA_sA, rA_sF, rA_sL, rA_sR, rR_sF, rR_sA, rR_sL, rR_sR, reduceIte, and_true, true_and, and_false, false_and, and_self] at *
  (repeat' (first | with_reducible intro _ | with_reducible apply And.intro))
  all_goals (first | assumption | omega | grind (splits := 20) [rNM_sF0])
set_option maxHeartbeats 400000 in
theorem vX14_sign_86 (σ : rS) (n1 : Nat) (hwf : rWF σ) (hs1 : n1 < 1000) (hp : pre_X14_sign σ n1) : VC_X14_sign_86 σ n1 (post_X14_sign σ n1) := by
  simp only [VC_X14_sign_86, pre_X14_sign, post_X14_sign, inv_X14_sign_86, mu_X14_sign_86, pre_X14_skip, pre_X14_bad, pre_X14_fc, post_X14_skip, post_X14_bad, post_X14_fc, rng, rfk, rNMp, rF_sF, rF_sA, rF_sL, rF_sR, rA_sA, rA_sF, rA_sL, rA_sR, rR_sF, rR_sA, rR_sL, rR_sR, reduceIte, and_true, true_and, and_false, false_and, and_self] at *
  (repeat' (first | with_reducible intro _ | with_reducible apply And.intro))
  all_goals (first | assumption | omega | grind (splits := 20) [rNM_sF0])
set_option maxHeartbeats 400000 in
theorem vX14_sign_86m (σ : rS) (n1 : Nat) (hwf : rWF σ) (hs1 : n1 < 1000) (hp : pre_X14_sign σ n1) : VC_X14_sign_86m σ n1 := by
  simp only [VC_X14_sign_86m, pre_X14_sign, post_X14_sign, inv_X14_sign_86, mu_X14_sign_86, pre_X14_skip, pre_X14_bad, pre_X14_fc, post_X14_skip, post_X14_bad, post_X14_fc, rng, rfk, rNMp, rF_sF, rF_sA, rF_sL, rF_sR, rA_sA, rA_sF, rA_sL, rA_sR, rR_sF, rR_sA, rR_sL, rR_sR, reduceIte, and_true, true_and, and_false, false_and, and_self] at *
  (repeat' (first | with_reducible intro _ | with_reducible apply And.intro))
  all_goals (first | assumption | omega | grind (splits := 20) [rNM_sF0])
theorem wX14_sign (l : Launch) (G : zG) (κ : Nat → Nat) (σ : rS) (t1 n1 : Nat) (hwf : rWF σ) (hs1 : rSt G t1 n1) (Q : rS → Prop) (h : VC_X14_sign σ n1 Q) (h_86 : VC_X14_sign_86 σ n1 Q) (h_86m : VC_X14_sign_86m σ n1) : rMv l G κ yX14_sign cX14_sign 4 4 121 [.ref (κ 0), .ref t1] σ (fun s => rKeep 0x21c00 0 0 0 0 σ s ∧ Q s) := by
  refine zMv.intro (by decide +kernel) (Nat.le_of_ble_eq_true rfl) (fun X hC hR => ?_)
  refine z_aload_n hC (pc := 0) 0 dX14_sign_0 rfl rfl ?_
  obtain ⟨p10, h⟩ := h
  refine y_callVv hC (pc := 1) (As := []) (kX14_skip l G κ σ  hwf  p10) dmX14_skip zf14 rOb_0 dX14_sign_1 zw2985 rfl rfl (Nat.le_of_ble_eq_true rfl) (Nat.le_of_ble_eq_true rfl) (Nat.le_of_ble_eq_true rfl) (Nat.le_of_ble_eq_true rfl) (Nat.le_of_ble_eq_true rfl) (kk := fun s11 Ws11 qs11 => ?_)
  have h := h s11 Ws11 (qs11.1.R rfl) (qs11.1.F rfl) qs11.2
  refine z_aload_n hC (pc := 4) 0 dX14_sign_4 rfl rfl ?_
  refine y_get hC (pc := 5) zf14 rOb_0 10 (v := iv (rF s11 0 10)) dX14_sign_5 zw2478 (rv_i (Or.inl rfl) rfl) (kk := ?_)
  have h := h (Ws11.f _ _)
  obtain ⟨hT, hF⟩ := h
  refine y_if_eq hC (pc := 8) 12 (Ws11.f _ _) dX14_sign_8 (by decide) (fun c => ?_) (fun c => ?_)
  · have h := hT c
    refine z_aload_n hC (pc := 12) 0 dX14_sign_12 rfl rfl ?_
    refine y_get hC (pc := 13) zf14 rOb_0 17 (v := iv (rF s11 0 17)) dX14_sign_13 zw2484 (rv_i (Or.inl rfl) rfl) (kk := ?_)
    have h := h (Ws11.f _ _)
    refine z_aload_n hC (pc := 16) 1 dX14_sign_16 rfl rfl ?_
    refine y_slen hC (pc := 17) hs1 dX14_sign_17 zw3021 (Nat.le_of_ble_eq_true rfl) (Nat.le_of_ble_eq_true rfl) (Nat.le_of_ble_eq_true rfl) (Nat.le_of_ble_eq_true rfl) (Nat.le_of_ble_eq_true rfl) ?_
    refine y_iadd hC (pc := 20) (v := ((rF s11 0 17) + (n1 : Int))) dX14_sign_20 rfl ?_
    refine z_aload_n hC (pc := 21) 0 dX14_sign_21 rfl rfl ?_
    refine y_get hC (pc := 22) zf14 rOb_0 16 (v := iv (rF s11 0 16)) dX14_sign_22 zw2483 (rv_i (Or.inl rfl) rfl) (kk := ?_)
    have h := h (Ws11.f _ _)
    obtain ⟨r13, h⟩ := h
    obtain ⟨hT, hF⟩ := h
    refine y_icmp_gt hC (pc := 25) 32 r13 (Ws11.f _ _) dX14_sign_25 (by decide) (fun c => ?_) (fun c => ?_)
    · have h := hT c
      refine z_iconst hC (pc := 32) (v := Int32.ofInt 0) dX14_sign_32 (by decide) ?_
      refine z_istore_n hC (pc := 33) (lv' := [(2, iv 0), (0, .ref (κ 0)), (1, .ref t1)]) dX14_sign_33 rfl (by decide) rfl ?_
      refine z_aload_n hC (pc := 34) 2 dX14_sign_34 rfl rfl ?_
      refine y_slen hC (pc := 35) hs1 dX14_sign_35 zw3021 (Nat.le_of_ble_eq_true rfl) (Nat.le_of_ble_eq_true rfl) (Nat.le_of_ble_eq_true rfl) (Nat.le_of_ble_eq_true rfl) (Nat.le_of_ble_eq_true rfl) ?_
      refine z_iconst hC (pc := 38) (v := Int32.ofInt 1) dX14_sign_38 (by decide) ?_
      obtain ⟨hT, hF⟩ := h
      refine y_icmp_ne hC (pc := 39) 84 (rSt.rng hs1) (r_lit rfl) dX14_sign_39 (by decide) (fun c => ?_) (fun c => ?_)
      · have h := hT c
        refine z_iconst hC (pc := 84) (v := Int32.ofInt 0) dX14_sign_84 (by decide) ?_
        refine z_istore_n hC (pc := 85) (lv' := [(3, iv 0), (2, iv 0), (0, .ref (κ 0)), (1, .ref t1)]) dX14_sign_85 rfl (by decide) rfl ?_
        have j86 : ∀ (d86 : Nat), ∀ (s14 : rS) (y15 : Int) (y16 : Int), rWF s14 → rng y15 → rng y16 → rKeep 0x21c00 0 0 0 0 σ s14 → inv_X14_sign_86 σ n1 s14 y15 y16 → (mu_X14_sign_86 σ n1 s14 y15 y16) ≤ d86 → zS X G 4 (rW G κ s14) [(0, .ref (κ 0)), (1, .ref t1), (2, iv y15), (3, iv y16)] 0 0 86 [] := by
          intro d86
          induction d86 with
          | zero =>
            intro s14 y15 y16 Ws14 hy15 hy16 kJ hI hmu
            exact absurd hmu (by have := h_86m  s14 y15 y16 Ws14 hy15 hy16 (kJ.R rfl) (kJ.F rfl) hI; omega)
          | succ d86 ih86 =>
            intro s14 y15 y16 Ws14 hy15 hy16 kJ hI hmu86
            have h := h_86  s14 y15 y16 Ws14 hy15 hy16 (kJ.R rfl) (kJ.F rfl) hI
            refine z_iload_n hC (pc := 86) 3 dX14_sign_86 rfl rfl ?_
            refine z_aload_n hC (pc := 87) 1 dX14_sign_87 rfl rfl ?_
            refine y_slen hC (pc := 88) hs1 dX14_sign_88 zw3021 (Nat.le_of_ble_eq_true rfl) (Nat.le_of_ble_eq_true rfl) (Nat.le_of_ble_eq_true rfl) (Nat.le_of_ble_eq_true rfl) (Nat.le_of_ble_eq_true rfl) ?_
            obtain ⟨hT, hF⟩ := h
            refine y_icmp_ge hC (pc := 91) 129 hy16 (rSt.rng hs1) dX14_sign_91 (by decide) (fun c => ?_) (fun c => ?_)
            · have h := hT c
              refine z_iload_n hC (pc := 129) 2 dX14_sign_129 rfl rfl ?_
              obtain ⟨hT, hF⟩ := h
              refine y_if_eq hC (pc := 130) 149 hy15 dX14_sign_130 (by decide) (fun c => ?_) (fun c => ?_)
              · have h := hT c
                refine z_aload_n hC (pc := 149) 0 dX14_sign_149 rfl rfl ?_
                refine z_iconst hC (pc := 150) (v := Int32.ofInt 1) dX14_sign_150 (by decide) ?_
                refine z_aload_n hC (pc := 151) 0 dX14_sign_151 rfl rfl ?_
                refine y_get hC (pc := 152) zf14 rOb_0 17 (v := iv (rF s14 0 17)) dX14_sign_152 zw2484 (rv_i (Or.inl rfl) rfl) (kk := ?_)
                have h := h (Ws14.f _ _)
                obtain ⟨p17, h⟩ := h
                refine y_callVv hC (pc := 155) (As := [iv 1, iv (rF s14 0 17)]) (kX14_bad l G κ s14 1 (rF s14 0 17) Ws14 (r_lit rfl) (Ws14.f _ _) p17) dmX14_bad zf14 rOb_0 dX14_sign_155 zw3000 rfl rfl (Nat.le_of_ble_eq_true rfl) (Nat.le_of_ble_eq_true rfl) (Nat.le_of_ble_eq_true rfl) (Nat.le_of_ble_eq_true rfl) (Nat.le_of_ble_eq_true rfl) (kk := fun s18 Ws18 qs18 => ?_)
                have h := h s18 Ws18 (qs18.1.R rfl) (qs18.1.F rfl) (qs18.1.F rfl) qs18.2
                exact y_retv hR dX14_sign_158 Ws18 (Nat.le_of_ble_eq_true rfl) (Nat.le_of_ble_eq_true rfl) ⟨(rKeep.tr (rKeep.tr rKeep.rf kJ rfl rfl rfl rfl rfl) qs18.1 rfl rfl rfl rfl rfl), h⟩
              · have h := hF c
                refine z_aload_n hC (pc := 133) 0 dX14_sign_133 rfl rfl ?_
                refine z_dup hC (pc := 134) dX14_sign_134 rfl ?_
                refine y_get hC (pc := 135) zf14 rOb_0 17 (v := iv (rF s14 0 17)) dX14_sign_135 zw2484 (rv_i (Or.inl rfl) rfl) (kk := ?_)
                have h := h (Ws14.f _ _)
                refine z_aload_n hC (pc := 138) 1 dX14_sign_138 rfl rfl ?_
                refine y_slen hC (pc := 139) hs1 dX14_sign_139 zw3021 (Nat.le_of_ble_eq_true rfl) (Nat.le_of_ble_eq_true rfl) (Nat.le_of_ble_eq_true rfl) (Nat.le_of_ble_eq_true rfl) (Nat.le_of_ble_eq_true rfl) ?_
                refine y_iadd hC (pc := 142) (v := ((rF s14 0 17) + (n1 : Int))) dX14_sign_142 rfl ?_
                obtain ⟨r20, h⟩ := h
                refine y_putI hC (pc := 143) zf14 rOb_0 17 (x := ((rF s14 0 17) + (n1 : Int))) dX14_sign_143 zw2484 (Or.inl rfl) rfl rfl (kk := ?_)
                have W21 := Ws14.sF (q := 0) (f := 17) (x := ((rF s14 0 17) + (n1 : Int))) r20
                refine z_goto hC (pc := 146) 158 dX14_sign_146 (by decide) ?_
                exact y_retv hR dX14_sign_158 W21 (Nat.le_of_ble_eq_true rfl) (Nat.le_of_ble_eq_true rfl) ⟨(rKeep.tr (rKeep.tr rKeep.rf kJ rfl rfl rfl rfl rfl) (rKeep.sF0 (f := 17)) rfl rfl rfl rfl rfl), h⟩
            · have h := hF c
              refine z_iload_n hC (pc := 94) 2 dX14_sign_94 rfl rfl ?_
              obtain ⟨hT, hF⟩ := h
              refine y_if_eq hC (pc := 95) 129 hy15 dX14_sign_95 (by decide) (fun c => ?_) (fun c => ?_)
              · have h := hT c
                refine z_iload_n hC (pc := 129) 2 dX14_sign_129 rfl rfl ?_
                obtain ⟨hT, hF⟩ := h
                refine y_if_eq hC (pc := 130) 149 hy15 dX14_sign_130 (by decide) (fun c => ?_) (fun c => ?_)
                · have h := hT c
                  refine z_aload_n hC (pc := 149) 0 dX14_sign_149 rfl rfl ?_
                  refine z_iconst hC (pc := 150) (v := Int32.ofInt 1) dX14_sign_150 (by decide) ?_
                  refine z_aload_n hC (pc := 151) 0 dX14_sign_151 rfl rfl ?_
                  refine y_get hC (pc := 152) zf14 rOb_0 17 (v := iv (rF s14 0 17)) dX14_sign_152 zw2484 (rv_i (Or.inl rfl) rfl) (kk := ?_)
                  have h := h (Ws14.f _ _)
                  obtain ⟨p22, h⟩ := h
                  refine y_callVv hC (pc := 155) (As := [iv 1, iv (rF s14 0 17)]) (kX14_bad l G κ s14 1 (rF s14 0 17) Ws14 (r_lit rfl) (Ws14.f _ _) p22) dmX14_bad zf14 rOb_0 dX14_sign_155 zw3000 rfl rfl (Nat.le_of_ble_eq_true rfl) (Nat.le_of_ble_eq_true rfl) (Nat.le_of_ble_eq_true rfl) (Nat.le_of_ble_eq_true rfl) (Nat.le_of_ble_eq_true rfl) (kk := fun s23 Ws23 qs23 => ?_)
                  have h := h s23 Ws23 (qs23.1.R rfl) (qs23.1.F rfl) (qs23.1.F rfl) qs23.2
                  exact y_retv hR dX14_sign_158 Ws23 (Nat.le_of_ble_eq_true rfl) (Nat.le_of_ble_eq_true rfl) ⟨(rKeep.tr (rKeep.tr rKeep.rf kJ rfl rfl rfl rfl rfl) qs23.1 rfl rfl rfl rfl rfl), h⟩
                · have h := hF c
                  refine z_aload_n hC (pc := 133) 0 dX14_sign_133 rfl rfl ?_
                  refine z_dup hC (pc := 134) dX14_sign_134 rfl ?_
                  refine y_get hC (pc := 135) zf14 rOb_0 17 (v := iv (rF s14 0 17)) dX14_sign_135 zw2484 (rv_i (Or.inl rfl) rfl) (kk := ?_)
                  have h := h (Ws14.f _ _)
                  refine z_aload_n hC (pc := 138) 1 dX14_sign_138 rfl rfl ?_
                  refine y_slen hC (pc := 139) hs1 dX14_sign_139 zw3021 (Nat.le_of_ble_eq_true rfl) (Nat.le_of_ble_eq_true rfl) (Nat.le_of_ble_eq_true rfl) (Nat.le_of_ble_eq_true rfl) (Nat.le_of_ble_eq_true rfl) ?_
                  refine y_iadd hC (pc := 142) (v := ((rF s14 0 17) + (n1 : Int))) dX14_sign_142 rfl ?_
                  obtain ⟨r25, h⟩ := h
                  refine y_putI hC (pc := 143) zf14 rOb_0 17 (x := ((rF s14 0 17) + (n1 : Int))) dX14_sign_143 zw2484 (Or.inl rfl) rfl rfl (kk := ?_)
                  have W26 := Ws14.sF (q := 0) (f := 17) (x := ((rF s14 0 17) + (n1 : Int))) r25
                  refine z_goto hC (pc := 146) 158 dX14_sign_146 (by decide) ?_
                  exact y_retv hR dX14_sign_158 W26 (Nat.le_of_ble_eq_true rfl) (Nat.le_of_ble_eq_true rfl) ⟨(rKeep.tr (rKeep.tr rKeep.rf kJ rfl rfl rfl rfl rfl) (rKeep.sF0 (f := 17)) rfl rfl rfl rfl rfl), h⟩
              · have h := hF c
                refine z_aload_n hC (pc := 98) 0 dX14_sign_98 rfl rfl ?_
                obtain ⟨g27, h⟩ := h
                refine y_get hC (pc := 99) zf14 rOb_0 15 (v := .ref (κ (rR s14 15))) dX14_sign_99 zw2482 (rv_b rfl rfl g27) (kk := ?_)
                refine z_aload_n hC (pc := 102) 0 dX14_sign_102 rfl rfl ?_
                refine y_get hC (pc := 103) zf14 rOb_0 17 (v := iv (rF s14 0 17)) dX14_sign_103 zw2484 (rv_i (Or.inl rfl) rfl) (kk := ?_)
                have h := h (Ws14.f _ _)
                refine z_iload_n hC (pc := 106) 3 dX14_sign_106 rfl rfl ?_
                refine y_iadd hC (pc := 107) (v := ((rF s14 0 17) + y16)) dX14_sign_107 rfl ?_
                obtain ⟨b28, h⟩ := h
                refine y_bald hC (pc := 108) (rAr_f g27) dX14_sign_108 b28 (v := (rA s14 (rR s14 15) ((rF s14 0 17) + y16))) rfl (kk := ?_)
                have h := h (Ws14.a _ _)
                refine z_aload_n hC (pc := 109) 1 dX14_sign_109 rfl rfl ?_
                refine z_iload_n hC (pc := 110) 3 dX14_sign_110 rfl rfl ?_
                obtain ⟨b29, h⟩ := h
                refine y_char hC (pc := 111) (i := y16) hs1 b29 dX14_sign_111 zw3022 (Nat.le_of_ble_eq_true rfl) (Nat.le_of_ble_eq_true rfl) (Nat.le_of_ble_eq_true rfl) (Nat.le_of_ble_eq_true rfl) (Nat.le_of_ble_eq_true rfl) (fun x30 hx30 => ?_)
                have h := h x30 hx30
                obtain ⟨hT, hF⟩ := h
                refine y_icmp_ne hC (pc := 114) 121 (Ws14.a _ _) (r_255 hx30) dX14_sign_114 (by decide) (fun c => ?_) (fun c => ?_)
                · have h := hT c
                  refine z_iconst hC (pc := 121) (v := Int32.ofInt 0) dX14_sign_121 (by decide) ?_
                  refine z_istore_n hC (pc := 122) (lv' := [(2, iv 0), (0, .ref (κ 0)), (1, .ref t1), (3, iv y16)]) dX14_sign_122 rfl (by decide) rfl ?_
                  refine y_iinc hC (pc := 123) (v := (y16 + 1)) (lv' := [(3, iv (y16 + 1)), (2, iv 0), (0, .ref (κ 0)), (1, .ref t1)]) 3 dX14_sign_123 rfl rfl (by decide) rfl ?_
                  refine z_goto hC (pc := 126) 86 dX14_sign_126 (by decide) ?_
                  refine z_lvs [2, 3, 1, 0] rfl ?_
                  obtain ⟨r31, h⟩ := h
                  obtain ⟨hI, hm⟩ := h
                  exact ih86 s14 0 (y16 + 1) Ws14 (r_lit rfl) r31 (rKeep.tr rKeep.rf kJ rfl rfl rfl rfl rfl) hI (by omega)
                · have h := hF c
                  refine z_iconst hC (pc := 117) (v := Int32.ofInt 1) dX14_sign_117 (by decide) ?_
                  refine z_goto hC (pc := 118) 122 dX14_sign_118 (by decide) ?_
                  refine z_istore_n hC (pc := 122) (lv' := [(2, iv 1), (0, .ref (κ 0)), (1, .ref t1), (3, iv y16)]) dX14_sign_122 rfl (by decide) rfl ?_
                  refine y_iinc hC (pc := 123) (v := (y16 + 1)) (lv' := [(3, iv (y16 + 1)), (2, iv 1), (0, .ref (κ 0)), (1, .ref t1)]) 3 dX14_sign_123 rfl rfl (by decide) rfl ?_
                  refine z_goto hC (pc := 126) 86 dX14_sign_126 (by decide) ?_
                  refine z_lvs [2, 3, 1, 0] rfl ?_
                  obtain ⟨r32, h⟩ := h
                  obtain ⟨hI, hm⟩ := h
                  exact ih86 s14 1 (y16 + 1) Ws14 (r_lit rfl) r32 (rKeep.tr rKeep.rf kJ rfl rfl rfl rfl rfl) hI (by omega)
        refine z_lvs [2, 3, 1, 0] rfl ?_
        exact j86 _ s11 0 0 Ws11 (r_lit rfl) (r_lit rfl) (rKeep.tr rKeep.rf qs11.1 rfl rfl rfl rfl rfl) h (Nat.le_refl _)
      · have h := hF c
        refine z_aload_n hC (pc := 42) 2 dX14_sign_42 rfl rfl ?_
        refine z_iconst hC (pc := 43) (v := Int32.ofInt 0) dX14_sign_43 (by decide) ?_
        obtain ⟨b33, h⟩ := h
        refine y_char hC (pc := 44) (i := 0) hs1 b33 dX14_sign_44 zw3022 (Nat.le_of_ble_eq_true rfl) (Nat.le_of_ble_eq_true rfl) (Nat.le_of_ble_eq_true rfl) (Nat.le_of_ble_eq_true rfl) (Nat.le_of_ble_eq_true rfl) (fun x34 hx34 => ?_)
        have h := h x34 hx34
        refine z_bipush hC (pc := 47) (v := Int32.ofInt 58) dX14_sign_47 (by decide) ?_
        obtain ⟨hT, hF⟩ := h
        refine y_icmp_ne hC (pc := 49) 84 (r_255 hx34) (r_lit rfl) dX14_sign_49 (by decide) (fun c => ?_) (fun c => ?_)
        · have h := hT c
          refine z_iconst hC (pc := 84) (v := Int32.ofInt 0) dX14_sign_84 (by decide) ?_
          refine z_istore_n hC (pc := 85) (lv' := [(3, iv 0), (2, iv 0), (0, .ref (κ 0)), (1, .ref t1)]) dX14_sign_85 rfl (by decide) rfl ?_
          have j86 : ∀ (d86 : Nat), ∀ (s35 : rS) (y36 : Int) (y37 : Int), rWF s35 → rng y36 → rng y37 → rKeep 0x21c00 0 0 0 0 σ s35 → inv_X14_sign_86 σ n1 s35 y36 y37 → (mu_X14_sign_86 σ n1 s35 y36 y37) ≤ d86 → zS X G 4 (rW G κ s35) [(0, .ref (κ 0)), (1, .ref t1), (2, iv y36), (3, iv y37)] 0 0 86 [] := by
            intro d86
            induction d86 with
            | zero =>
              intro s35 y36 y37 Ws35 hy36 hy37 kJ hI hmu
              exact absurd hmu (by have := h_86m  s35 y36 y37 Ws35 hy36 hy37 (kJ.R rfl) (kJ.F rfl) hI; omega)
            | succ d86 ih86 =>
              intro s35 y36 y37 Ws35 hy36 hy37 kJ hI hmu86
              have h := h_86  s35 y36 y37 Ws35 hy36 hy37 (kJ.R rfl) (kJ.F rfl) hI
              refine z_iload_n hC (pc := 86) 3 dX14_sign_86 rfl rfl ?_
              refine z_aload_n hC (pc := 87) 1 dX14_sign_87 rfl rfl ?_
              refine y_slen hC (pc := 88) hs1 dX14_sign_88 zw3021 (Nat.le_of_ble_eq_true rfl) (Nat.le_of_ble_eq_true rfl) (Nat.le_of_ble_eq_true rfl) (Nat.le_of_ble_eq_true rfl) (Nat.le_of_ble_eq_true rfl) ?_
              obtain ⟨hT, hF⟩ := h
              refine y_icmp_ge hC (pc := 91) 129 hy37 (rSt.rng hs1) dX14_sign_91 (by decide) (fun c => ?_) (fun c => ?_)
              · have h := hT c
                refine z_iload_n hC (pc := 129) 2 dX14_sign_129 rfl rfl ?_
                obtain ⟨hT, hF⟩ := h
                refine y_if_eq hC (pc := 130) 149 hy36 dX14_sign_130 (by decide) (fun c => ?_) (fun c => ?_)
                · have h := hT c
                  refine z_aload_n hC (pc := 149) 0 dX14_sign_149 rfl rfl ?_
                  refine z_iconst hC (pc := 150) (v := Int32.ofInt 1) dX14_sign_150 (by decide) ?_
                  refine z_aload_n hC (pc := 151) 0 dX14_sign_151 rfl rfl ?_
                  refine y_get hC (pc := 152) zf14 rOb_0 17 (v := iv (rF s35 0 17)) dX14_sign_152 zw2484 (rv_i (Or.inl rfl) rfl) (kk := ?_)
                  have h := h (Ws35.f _ _)
                  obtain ⟨p38, h⟩ := h
                  refine y_callVv hC (pc := 155) (As := [iv 1, iv (rF s35 0 17)]) (kX14_bad l G κ s35 1 (rF s35 0 17) Ws35 (r_lit rfl) (Ws35.f _ _) p38) dmX14_bad zf14 rOb_0 dX14_sign_155 zw3000 rfl rfl (Nat.le_of_ble_eq_true rfl) (Nat.le_of_ble_eq_true rfl) (Nat.le_of_ble_eq_true rfl) (Nat.le_of_ble_eq_true rfl) (Nat.le_of_ble_eq_true rfl) (kk := fun s39 Ws39 qs39 => ?_)
                  have h := h s39 Ws39 (qs39.1.R rfl) (qs39.1.F rfl) (qs39.1.F rfl) qs39.2
                  exact y_retv hR dX14_sign_158 Ws39 (Nat.le_of_ble_eq_true rfl) (Nat.le_of_ble_eq_true rfl) ⟨(rKeep.tr (rKeep.tr rKeep.rf kJ rfl rfl rfl rfl rfl) qs39.1 rfl rfl rfl rfl rfl), h⟩
                · have h := hF c
                  refine z_aload_n hC (pc := 133) 0 dX14_sign_133 rfl rfl ?_
                  refine z_dup hC (pc := 134) dX14_sign_134 rfl ?_
                  refine y_get hC (pc := 135) zf14 rOb_0 17 (v := iv (rF s35 0 17)) dX14_sign_135 zw2484 (rv_i (Or.inl rfl) rfl) (kk := ?_)
                  have h := h (Ws35.f _ _)
                  refine z_aload_n hC (pc := 138) 1 dX14_sign_138 rfl rfl ?_
                  refine y_slen hC (pc := 139) hs1 dX14_sign_139 zw3021 (Nat.le_of_ble_eq_true rfl) (Nat.le_of_ble_eq_true rfl) (Nat.le_of_ble_eq_true rfl) (Nat.le_of_ble_eq_true rfl) (Nat.le_of_ble_eq_true rfl) ?_
                  refine y_iadd hC (pc := 142) (v := ((rF s35 0 17) + (n1 : Int))) dX14_sign_142 rfl ?_
                  obtain ⟨r41, h⟩ := h
                  refine y_putI hC (pc := 143) zf14 rOb_0 17 (x := ((rF s35 0 17) + (n1 : Int))) dX14_sign_143 zw2484 (Or.inl rfl) rfl rfl (kk := ?_)
                  have W42 := Ws35.sF (q := 0) (f := 17) (x := ((rF s35 0 17) + (n1 : Int))) r41
                  refine z_goto hC (pc := 146) 158 dX14_sign_146 (by decide) ?_
                  exact y_retv hR dX14_sign_158 W42 (Nat.le_of_ble_eq_true rfl) (Nat.le_of_ble_eq_true rfl) ⟨(rKeep.tr (rKeep.tr rKeep.rf kJ rfl rfl rfl rfl rfl) (rKeep.sF0 (f := 17)) rfl rfl rfl rfl rfl), h⟩
              · have h := hF c
                refine z_iload_n hC (pc := 94) 2 dX14_sign_94 rfl rfl ?_
                obtain ⟨hT, hF⟩ := h
                refine y_if_eq hC (pc := 95) 129 hy36 dX14_sign_95 (by decide) (fun c => ?_) (fun c => ?_)
                · have h := hT c
                  refine z_iload_n hC (pc := 129) 2 dX14_sign_129 rfl rfl ?_
                  obtain ⟨hT, hF⟩ := h
                  refine y_if_eq hC (pc := 130) 149 hy36 dX14_sign_130 (by decide) (fun c => ?_) (fun c => ?_)
                  · have h := hT c
                    refine z_aload_n hC (pc := 149) 0 dX14_sign_149 rfl rfl ?_
                    refine z_iconst hC (pc := 150) (v := Int32.ofInt 1) dX14_sign_150 (by decide) ?_
                    refine z_aload_n hC (pc := 151) 0 dX14_sign_151 rfl rfl ?_
                    refine y_get hC (pc := 152) zf14 rOb_0 17 (v := iv (rF s35 0 17)) dX14_sign_152 zw2484 (rv_i (Or.inl rfl) rfl) (kk := ?_)
                    have h := h (Ws35.f _ _)
                    obtain ⟨p43, h⟩ := h
                    refine y_callVv hC (pc := 155) (As := [iv 1, iv (rF s35 0 17)]) (kX14_bad l G κ s35 1 (rF s35 0 17) Ws35 (r_lit rfl) (Ws35.f _ _) p43) dmX14_bad zf14 rOb_0 dX14_sign_155 zw3000 rfl rfl (Nat.le_of_ble_eq_true rfl) (Nat.le_of_ble_eq_true rfl) (Nat.le_of_ble_eq_true rfl) (Nat.le_of_ble_eq_true rfl) (Nat.le_of_ble_eq_true rfl) (kk := fun s44 Ws44 qs44 => ?_)
                    have h := h s44 Ws44 (qs44.1.R rfl) (qs44.1.F rfl) (qs44.1.F rfl) qs44.2
                    exact y_retv hR dX14_sign_158 Ws44 (Nat.le_of_ble_eq_true rfl) (Nat.le_of_ble_eq_true rfl) ⟨(rKeep.tr (rKeep.tr rKeep.rf kJ rfl rfl rfl rfl rfl) qs44.1 rfl rfl rfl rfl rfl), h⟩
                  · have h := hF c
                    refine z_aload_n hC (pc := 133) 0 dX14_sign_133 rfl rfl ?_
                    refine z_dup hC (pc := 134) dX14_sign_134 rfl ?_
                    refine y_get hC (pc := 135) zf14 rOb_0 17 (v := iv (rF s35 0 17)) dX14_sign_135 zw2484 (rv_i (Or.inl rfl) rfl) (kk := ?_)
                    have h := h (Ws35.f _ _)
                    refine z_aload_n hC (pc := 138) 1 dX14_sign_138 rfl rfl ?_
                    refine y_slen hC (pc := 139) hs1 dX14_sign_139 zw3021 (Nat.le_of_ble_eq_true rfl) (Nat.le_of_ble_eq_true rfl) (Nat.le_of_ble_eq_true rfl) (Nat.le_of_ble_eq_true rfl) (Nat.le_of_ble_eq_true rfl) ?_
                    refine y_iadd hC (pc := 142) (v := ((rF s35 0 17) + (n1 : Int))) dX14_sign_142 rfl ?_
                    obtain ⟨r46, h⟩ := h
                    refine y_putI hC (pc := 143) zf14 rOb_0 17 (x := ((rF s35 0 17) + (n1 : Int))) dX14_sign_143 zw2484 (Or.inl rfl) rfl rfl (kk := ?_)
                    have W47 := Ws35.sF (q := 0) (f := 17) (x := ((rF s35 0 17) + (n1 : Int))) r46
                    refine z_goto hC (pc := 146) 158 dX14_sign_146 (by decide) ?_
                    exact y_retv hR dX14_sign_158 W47 (Nat.le_of_ble_eq_true rfl) (Nat.le_of_ble_eq_true rfl) ⟨(rKeep.tr (rKeep.tr rKeep.rf kJ rfl rfl rfl rfl rfl) (rKeep.sF0 (f := 17)) rfl rfl rfl rfl rfl), h⟩
                · have h := hF c
                  refine z_aload_n hC (pc := 98) 0 dX14_sign_98 rfl rfl ?_
                  obtain ⟨g48, h⟩ := h
                  refine y_get hC (pc := 99) zf14 rOb_0 15 (v := .ref (κ (rR s35 15))) dX14_sign_99 zw2482 (rv_b rfl rfl g48) (kk := ?_)
                  refine z_aload_n hC (pc := 102) 0 dX14_sign_102 rfl rfl ?_
                  refine y_get hC (pc := 103) zf14 rOb_0 17 (v := iv (rF s35 0 17)) dX14_sign_103 zw2484 (rv_i (Or.inl rfl) rfl) (kk := ?_)
                  have h := h (Ws35.f _ _)
                  refine z_iload_n hC (pc := 106) 3 dX14_sign_106 rfl rfl ?_
                  refine y_iadd hC (pc := 107) (v := ((rF s35 0 17) + y37)) dX14_sign_107 rfl ?_
                  obtain ⟨b49, h⟩ := h
                  refine y_bald hC (pc := 108) (rAr_f g48) dX14_sign_108 b49 (v := (rA s35 (rR s35 15) ((rF s35 0 17) + y37))) rfl (kk := ?_)
                  have h := h (Ws35.a _ _)
                  refine z_aload_n hC (pc := 109) 1 dX14_sign_109 rfl rfl ?_
                  refine z_iload_n hC (pc := 110) 3 dX14_sign_110 rfl rfl ?_
                  obtain ⟨b50, h⟩ := h
                  refine y_char hC (pc := 111) (i := y37) hs1 b50 dX14_sign_111 zw3022 (Nat.le_of_ble_eq_true rfl) (Nat.le_of_ble_eq_true rfl) (Nat.le_of_ble_eq_true rfl) (Nat.le_of_ble_eq_true rfl) (Nat.le_of_ble_eq_true rfl) (fun x51 hx51 => ?_)
                  have h := h x51 hx51
                  obtain ⟨hT, hF⟩ := h
                  refine y_icmp_ne hC (pc := 114) 121 (Ws35.a _ _) (r_255 hx51) dX14_sign_114 (by decide) (fun c => ?_) (fun c => ?_)
                  · have h := hT c
                    refine z_iconst hC (pc := 121) (v := Int32.ofInt 0) dX14_sign_121 (by decide) ?_
                    refine z_istore_n hC (pc := 122) (lv' := [(2, iv 0), (0, .ref (κ 0)), (1, .ref t1), (3, iv y37)]) dX14_sign_122 rfl (by decide) rfl ?_
                    refine y_iinc hC (pc := 123) (v := (y37 + 1)) (lv' := [(3, iv (y37 + 1)), (2, iv 0), (0, .ref (κ 0)), (1, .ref t1)]) 3 dX14_sign_123 rfl rfl (by decide) rfl ?_
                    refine z_goto hC (pc := 126) 86 dX14_sign_126 (by decide) ?_
                    refine z_lvs [2, 3, 1, 0] rfl ?_
                    obtain ⟨r52, h⟩ := h
                    obtain ⟨hI, hm⟩ := h
                    exact ih86 s35 0 (y37 + 1) Ws35 (r_lit rfl) r52 (rKeep.tr rKeep.rf kJ rfl rfl rfl rfl rfl) hI (by omega)
                  · have h := hF c
                    refine z_iconst hC (pc := 117) (v := Int32.ofInt 1) dX14_sign_117 (by decide) ?_
                    refine z_goto hC (pc := 118) 122 dX14_sign_118 (by decide) ?_
                    refine z_istore_n hC (pc := 122) (lv' := [(2, iv 1), (0, .ref (κ 0)), (1, .ref t1), (3, iv y37)]) dX14_sign_122 rfl (by decide) rfl ?_
                    refine y_iinc hC (pc := 123) (v := (y37 + 1)) (lv' := [(3, iv (y37 + 1)), (2, iv 1), (0, .ref (κ 0)), (1, .ref t1)]) 3 dX14_sign_123 rfl rfl (by decide) rfl ?_
                    refine z_goto hC (pc := 126) 86 dX14_sign_126 (by decide) ?_
                    refine z_lvs [2, 3, 1, 0] rfl ?_
                    obtain ⟨r53, h⟩ := h
                    obtain ⟨hI, hm⟩ := h
                    exact ih86 s35 1 (y37 + 1) Ws35 (r_lit rfl) r53 (rKeep.tr rKeep.rf kJ rfl rfl rfl rfl rfl) hI (by omega)
          refine z_lvs [2, 3, 1, 0] rfl ?_
          exact j86 _ s11 0 0 Ws11 (r_lit rfl) (r_lit rfl) (rKeep.tr rKeep.rf qs11.1 rfl rfl rfl rfl rfl) h (Nat.le_refl _)
        · have h := hF c
          refine z_aload_n hC (pc := 52) 1 dX14_sign_52 rfl rfl ?_
          refine z_aload_n hC (pc := 53) 1 dX14_sign_53 rfl rfl ?_
          refine y_get hC (pc := 54) zf14 rOb_0 17 (v := iv (rF s11 0 17)) dX14_sign_54 zw2484 (rv_i (Or.inl rfl) rfl) (kk := ?_)
          refine z_iconst hC (pc := 57) (v := Int32.ofInt 1) dX14_sign_57 (by decide) ?_
          refine y_iadd hC (pc := 58) (v := ((rF s11 0 17) + 1)) dX14_sign_58 rfl ?_
          obtain ⟨r54, h⟩ := h
          obtain ⟨p55, h⟩ := h
          refine y_callVi hC (pc := 59) (As := [iv ((rF s11 0 17) + 1)]) (kX14_fc l G κ s11 ((rF s11 0 17) + 1) Ws11 r54 p55) dmX14_fc zf14 rOb_0 dX14_sign_59 zw2993 rfl rfl (Nat.le_of_ble_eq_true rfl) (Nat.le_of_ble_eq_true rfl) (Nat.le_of_ble_eq_true rfl) (Nat.le_of_ble_eq_true rfl) (Nat.le_of_ble_eq_true rfl) (kk := fun x57 s56 hx57 Ws56 qs56 => ?_)
          obtain ⟨es56, qs56⟩ := qs56
          have es56 := es56.symm
          subst es56
          have h := h x57 hx57 qs56
          refine z_bipush hC (pc := 62) (v := Int32.ofInt 58) dX14_sign_62 (by decide) ?_
          obtain ⟨hT, hF⟩ := h
          refine y_icmp_ne hC (pc := 64) 84 hx57 (r_lit rfl) dX14_sign_64 (by decide) (fun c => ?_) (fun c => ?_)
          · have h := hT c
            refine z_iconst hC (pc := 84) (v := Int32.ofInt 0) dX14_sign_84 (by decide) ?_
            refine z_istore_n hC (pc := 85) (lv' := [(3, iv 0), (2, iv 0), (0, .ref (κ 0)), (1, .ref t1)]) dX14_sign_85 rfl (by decide) rfl ?_
            have j86 : ∀ (d86 : Nat), ∀ (s58 : rS) (y59 : Int) (y60 : Int), rWF s58 → rng y59 → rng y60 → rKeep 0x21c00 0 0 0 0 σ s58 → inv_X14_sign_86 σ n1 s58 y59 y60 → (mu_X14_sign_86 σ n1 s58 y59 y60) ≤ d86 → zS X G 4 (rW G κ s58) [(0, .ref (κ 0)), (1, .ref t1), (2, iv y59), (3, iv y60)] 0 0 86 [] := by
              intro d86
              induction d86 with
              | zero =>
                intro s58 y59 y60 Ws58 hy59 hy60 kJ hI hmu
                exact absurd hmu (by have := h_86m  s58 y59 y60 Ws58 hy59 hy60 (kJ.R rfl) (kJ.F rfl) hI; omega)
              | succ d86 ih86 =>
                intro s58 y59 y60 Ws58 hy59 hy60 kJ hI hmu86
                have h := h_86  s58 y59 y60 Ws58 hy59 hy60 (kJ.R rfl) (kJ.F rfl) hI
                refine z_iload_n hC (pc := 86) 3 dX14_sign_86 rfl rfl ?_
                refine z_aload_n hC (pc := 87) 1 dX14_sign_87 rfl rfl ?_
                refine y_slen hC (pc := 88) hs1 dX14_sign_88 zw3021 (Nat.le_of_ble_eq_true rfl) (Nat.le_of_ble_eq_true rfl) (Nat.le_of_ble_eq_true rfl) (Nat.le_of_ble_eq_true rfl) (Nat.le_of_ble_eq_true rfl) ?_
                obtain ⟨hT, hF⟩ := h
                refine y_icmp_ge hC (pc := 91) 129 hy60 (rSt.rng hs1) dX14_sign_91 (by decide) (fun c => ?_) (fun c => ?_)
                · have h := hT c
                  refine z_iload_n hC (pc := 129) 2 dX14_sign_129 rfl rfl ?_
                  obtain ⟨hT, hF⟩ := h
                  refine y_if_eq hC (pc := 130) 149 hy59 dX14_sign_130 (by decide) (fun c => ?_) (fun c => ?_)
                  · have h := hT c
                    refine z_aload_n hC (pc := 149) 0 dX14_sign_149 rfl rfl ?_
                    refine z_iconst hC (pc := 150) (v := Int32.ofInt 1) dX14_sign_150 (by decide) ?_
                    refine z_aload_n hC (pc := 151) 0 dX14_sign_151 rfl rfl ?_
                    refine y_get hC (pc := 152) zf14 rOb_0 17 (v := iv (rF s58 0 17)) dX14_sign_152 zw2484 (rv_i (Or.inl rfl) rfl) (kk := ?_)
                    have h := h (Ws58.f _ _)
                    obtain ⟨p61, h⟩ := h
                    refine y_callVv hC (pc := 155) (As := [iv 1, iv (rF s58 0 17)]) (kX14_bad l G κ s58 1 (rF s58 0 17) Ws58 (r_lit rfl) (Ws58.f _ _) p61) dmX14_bad zf14 rOb_0 dX14_sign_155 zw3000 rfl rfl (Nat.le_of_ble_eq_true rfl) (Nat.le_of_ble_eq_true rfl) (Nat.le_of_ble_eq_true rfl) (Nat.le_of_ble_eq_true rfl) (Nat.le_of_ble_eq_true rfl) (kk := fun s62 Ws62 qs62 => ?_)
                    have h := h s62 Ws62 (qs62.1.R rfl) (qs62.1.F rfl) (qs62.1.F rfl) qs62.2
                    exact y_retv hR dX14_sign_158 Ws62 (Nat.le_of_ble_eq_true rfl) (Nat.le_of_ble_eq_true rfl) ⟨(rKeep.tr (rKeep.tr rKeep.rf kJ rfl rfl rfl rfl rfl) qs62.1 rfl rfl rfl rfl rfl), h⟩
                  · have h := hF c
                    refine z_aload_n hC (pc := 133) 0 dX14_sign_133 rfl rfl ?_
                    refine z_dup hC (pc := 134) dX14_sign_134 rfl ?_
                    refine y_get hC (pc := 135) zf14 rOb_0 17 (v := iv (rF s58 0 17)) dX14_sign_135 zw2484 (rv_i (Or.inl rfl) rfl) (kk := ?_)
                    have h := h (Ws58.f _ _)
                    refine z_aload_n hC (pc := 138) 1 dX14_sign_138 rfl rfl ?_
                    refine y_slen hC (pc := 139) hs1 dX14_sign_139 zw3021 (Nat.le_of_ble_eq_true rfl) (Nat.le_of_ble_eq_true rfl) (Nat.le_of_ble_eq_true rfl) (Nat.le_of_ble_eq_true rfl) (Nat.le_of_ble_eq_true rfl) ?_
                    refine y_iadd hC (pc := 142) (v := ((rF s58 0 17) + (n1 : Int))) dX14_sign_142 rfl ?_
                    obtain ⟨r64, h⟩ := h
                    refine y_putI hC (pc := 143) zf14 rOb_0 17 (x := ((rF s58 0 17) + (n1 : Int))) dX14_sign_143 zw2484 (Or.inl rfl) rfl rfl (kk := ?_)
                    have W65 := Ws58.sF (q := 0) (f := 17) (x := ((rF s58 0 17) + (n1 : Int))) r64
                    refine z_goto hC (pc := 146) 158 dX14_sign_146 (by decide) ?_
                    exact y_retv hR dX14_sign_158 W65 (Nat.le_of_ble_eq_true rfl) (Nat.le_of_ble_eq_true rfl) ⟨(rKeep.tr (rKeep.tr rKeep.rf kJ rfl rfl rfl rfl rfl) (rKeep.sF0 (f := 17)) rfl rfl rfl rfl rfl), h⟩
                · have h := hF c
                  refine z_iload_n hC (pc := 94) 2 dX14_sign_94 rfl rfl ?_
                  obtain ⟨hT, hF⟩ := h
                  refine y_if_eq hC (pc := 95) 129 hy59 dX14_sign_95 (by decide) (fun c => ?_) (fun c => ?_)
                  · have h := hT c
                    refine z_iload_n hC (pc := 129) 2 dX14_sign_129 rfl rfl ?_
                    obtain ⟨hT, hF⟩ := h
                    refine y_if_eq hC (pc := 130) 149 hy59 dX14_sign_130 (by decide) (fun c => ?_) (fun c => ?_)
                    · have h := hT c
                      refine z_aload_n hC (pc := 149) 0 dX14_sign_149 rfl rfl ?_
                      refine z_iconst hC (pc := 150) (v := Int32.ofInt 1) dX14_sign_150 (by decide) ?_
                      refine z_aload_n hC (pc := 151) 0 dX14_sign_151 rfl rfl ?_
                      refine y_get hC (pc := 152) zf14 rOb_0 17 (v := iv (rF s58 0 17)) dX14_sign_152 zw2484 (rv_i (Or.inl rfl) rfl) (kk := ?_)
                      have h := h (Ws58.f _ _)
                      obtain ⟨p66, h⟩ := h
                      refine y_callVv hC (pc := 155) (As := [iv 1, iv (rF s58 0 17)]) (kX14_bad l G κ s58 1 (rF s58 0 17) Ws58 (r_lit rfl) (Ws58.f _ _) p66) dmX14_bad zf14 rOb_0 dX14_sign_155 zw3000 rfl rfl (Nat.le_of_ble_eq_true rfl) (Nat.le_of_ble_eq_true rfl) (Nat.le_of_ble_eq_true rfl) (Nat.le_of_ble_eq_true rfl) (Nat.le_of_ble_eq_true rfl) (kk := fun s67 Ws67 qs67 => ?_)
                      have h := h s67 Ws67 (qs67.1.R rfl) (qs67.1.F rfl) (qs67.1.F rfl) qs67.2
                      exact y_retv hR dX14_sign_158 Ws67 (Nat.le_of_ble_eq_true rfl) (Nat.le_of_ble_eq_true rfl) ⟨(rKeep.tr (rKeep.tr rKeep.rf kJ rfl rfl rfl rfl rfl) qs67.1 rfl rfl rfl rfl rfl), h⟩
                    · have h := hF c
                      refine z_aload_n hC (pc := 133) 0 dX14_sign_133 rfl rfl ?_
                      refine z_dup hC (pc := 134) dX14_sign_134 rfl ?_
                      refine y_get hC (pc := 135) zf14 rOb_0 17 (v := iv (rF s58 0 17)) dX14_sign_135 zw2484 (rv_i (Or.inl rfl) rfl) (kk := ?_)
                      have h := h (Ws58.f _ _)
                      refine z_aload_n hC (pc := 138) 1 dX14_sign_138 rfl rfl ?_
                      refine y_slen hC (pc := 139) hs1 dX14_sign_139 zw3021 (Nat.le_of_ble_eq_true rfl) (Nat.le_of_ble_eq_true rfl) (Nat.le_of_ble_eq_true rfl) (Nat.le_of_ble_eq_true rfl) (Nat.le_of_ble_eq_true rfl) ?_
                      refine y_iadd hC (pc := 142) (v := ((rF s58 0 17) + (n1 : Int))) dX14_sign_142 rfl ?_
                      obtain ⟨r69, h⟩ := h
                      refine y_putI hC (pc := 143) zf14 rOb_0 17 (x := ((rF s58 0 17) + (n1 : Int))) dX14_sign_143 zw2484 (Or.inl rfl) rfl rfl (kk := ?_)
                      have W70 := Ws58.sF (q := 0) (f := 17) (x := ((rF s58 0 17) + (n1 : Int))) r69
                      refine z_goto hC (pc := 146) 158 dX14_sign_146 (by decide) ?_
                      exact y_retv hR dX14_sign_158 W70 (Nat.le_of_ble_eq_true rfl) (Nat.le_of_ble_eq_true rfl) ⟨(rKeep.tr (rKeep.tr rKeep.rf kJ rfl rfl rfl rfl rfl) (rKeep.sF0 (f := 17)) rfl rfl rfl rfl rfl), h⟩
                  · have h := hF c
                    refine z_aload_n hC (pc := 98) 0 dX14_sign_98 rfl rfl ?_
                    obtain ⟨g71, h⟩ := h
                    refine y_get hC (pc := 99) zf14 rOb_0 15 (v := .ref (κ (rR s58 15))) dX14_sign_99 zw2482 (rv_b rfl rfl g71) (kk := ?_)
                    refine z_aload_n hC (pc := 102) 0 dX14_sign_102 rfl rfl ?_
                    refine y_get hC (pc := 103) zf14 rOb_0 17 (v := iv (rF s58 0 17)) dX14_sign_103 zw2484 (rv_i (Or.inl rfl) rfl) (kk := ?_)
                    have h := h (Ws58.f _ _)
                    refine z_iload_n hC (pc := 106) 3 dX14_sign_106 rfl rfl ?_
                    refine y_iadd hC (pc := 107) (v := ((rF s58 0 17) + y60)) dX14_sign_107 rfl ?_
                    obtain ⟨b72, h⟩ := h
                    refine y_bald hC (pc := 108) (rAr_f g71) dX14_sign_108 b72 (v := (rA s58 (rR s58 15) ((rF s58 0 17) + y60))) rfl (kk := ?_)
                    have h := h (Ws58.a _ _)
                    refine z_aload_n hC (pc := 109) 1 dX14_sign_109 rfl rfl ?_
                    refine z_iload_n hC (pc := 110) 3 dX14_sign_110 rfl rfl ?_
                    obtain ⟨b73, h⟩ := h
                    refine y_char hC (pc := 111) (i := y60) hs1 b73 dX14_sign_111 zw3022 (Nat.le_of_ble_eq_true rfl) (Nat.le_of_ble_eq_true rfl) (Nat.le_of_ble_eq_true rfl) (Nat.le_of_ble_eq_true rfl) (Nat.le_of_ble_eq_true rfl) (fun x74 hx74 => ?_)
                    have h := h x74 hx74
                    obtain ⟨hT, hF⟩ := h
                    refine y_icmp_ne hC (pc := 114) 121 (Ws58.a _ _) (r_255 hx74) dX14_sign_114 (by decide) (fun c => ?_) (fun c => ?_)
                    · have h := hT c
                      refine z_iconst hC (pc := 121) (v := Int32.ofInt 0) dX14_sign_121 (by decide) ?_
                      refine z_istore_n hC (pc := 122) (lv' := [(2, iv 0), (0, .ref (κ 0)), (1, .ref t1), (3, iv y60)]) dX14_sign_122 rfl (by decide) rfl ?_
                      refine y_iinc hC (pc := 123) (v := (y60 + 1)) (lv' := [(3, iv (y60 + 1)), (2, iv 0), (0, .ref (κ 0)), (1, .ref t1)]) 3 dX14_sign_123 rfl rfl (by decide) rfl ?_
                      refine z_goto hC (pc := 126) 86 dX14_sign_126 (by decide) ?_
                      refine z_lvs [2, 3, 1, 0] rfl ?_
                      obtain ⟨r75, h⟩ := h
                      obtain ⟨hI, hm⟩ := h
                      exact ih86 s58 0 (y60 + 1) Ws58 (r_lit rfl) r75 (rKeep.tr rKeep.rf kJ rfl rfl rfl rfl rfl) hI (by omega)
                    · have h := hF c
                      refine z_iconst hC (pc := 117) (v := Int32.ofInt 1) dX14_sign_117 (by decide) ?_
                      refine z_goto hC (pc := 118) 122 dX14_sign_118 (by decide) ?_
                      refine z_istore_n hC (pc := 122) (lv' := [(2, iv 1), (0, .ref (κ 0)), (1, .ref t1), (3, iv y60)]) dX14_sign_122 rfl (by decide) rfl ?_
                      refine y_iinc hC (pc := 123) (v := (y60 + 1)) (lv' := [(3, iv (y60 + 1)), (2, iv 1), (0, .ref (κ 0)), (1, .ref t1)]) 3 dX14_sign_123 rfl rfl (by decide) rfl ?_
                      refine z_goto hC (pc := 126) 86 dX14_sign_126 (by decide) ?_
                      refine z_lvs [2, 3, 1, 0] rfl ?_
                      obtain ⟨r76, h⟩ := h
                      obtain ⟨hI, hm⟩ := h
                      exact ih86 s58 1 (y60 + 1) Ws58 (r_lit rfl) r76 (rKeep.tr rKeep.rf kJ rfl rfl rfl rfl rfl) hI (by omega)
            refine z_lvs [2, 3, 1, 0] rfl ?_
            exact j86 _ s11 0 0 Ws11 (r_lit rfl) (r_lit rfl) (rKeep.tr rKeep.rf qs11.1 rfl rfl rfl rfl rfl) h (Nat.le_refl _)
          · have h := hF c
            refine z_aload_n hC (pc := 67) 1 dX14_sign_67 rfl rfl ?_
            refine z_aload_n hC (pc := 68) 1 dX14_sign_68 rfl rfl ?_
            refine y_get hC (pc := 69) zf14 rOb_0 17 (v := iv (rF s11 0 17)) dX14_sign_69 zw2484 (rv_i (Or.inl rfl) rfl) (kk := ?_)
            refine z_iconst hC (pc := 72) (v := Int32.ofInt 2) dX14_sign_72 (by decide) ?_
            refine y_iadd hC (pc := 73) (v := ((rF s11 0 17) + 2)) dX14_sign_73 rfl ?_
            obtain ⟨r77, h⟩ := h
            obtain ⟨p78, h⟩ := h
            refine y_callVi hC (pc := 74) (As := [iv ((rF s11 0 17) + 2)]) (kX14_fc l G κ s11 ((rF s11 0 17) + 2) Ws11 r77 p78) dmX14_fc zf14 rOb_0 dX14_sign_74 zw2993 rfl rfl (Nat.le_of_ble_eq_true rfl) (Nat.le_of_ble_eq_true rfl) (Nat.le_of_ble_eq_true rfl) (Nat.le_of_ble_eq_true rfl) (Nat.le_of_ble_eq_true rfl) (kk := fun x80 s79 hx80 Ws79 qs79 => ?_)
            obtain ⟨es79, qs79⟩ := qs79
            have es79 := es79.symm
            subst es79
            have h := h x80 hx80 qs79
            refine z_bipush hC (pc := 77) (v := Int32.ofInt 61) dX14_sign_77 (by decide) ?_
            obtain ⟨hT, hF⟩ := h
            refine y_icmp_ne hC (pc := 79) 84 hx80 (r_lit rfl) dX14_sign_79 (by decide) (fun c => ?_) (fun c => ?_)
            · have h := hT c
              refine z_iconst hC (pc := 84) (v := Int32.ofInt 0) dX14_sign_84 (by decide) ?_
              refine z_istore_n hC (pc := 85) (lv' := [(3, iv 0), (2, iv 0), (0, .ref (κ 0)), (1, .ref t1)]) dX14_sign_85 rfl (by decide) rfl ?_
              have j86 : ∀ (d86 : Nat), ∀ (s81 : rS) (y82 : Int) (y83 : Int), rWF s81 → rng y82 → rng y83 → rKeep 0x21c00 0 0 0 0 σ s81 → inv_X14_sign_86 σ n1 s81 y82 y83 → (mu_X14_sign_86 σ n1 s81 y82 y83) ≤ d86 → zS X G 4 (rW G κ s81) [(0, .ref (κ 0)), (1, .ref t1), (2, iv y82), (3, iv y83)] 0 0 86 [] := by
                intro d86
                induction d86 with
                | zero =>
                  intro s81 y82 y83 Ws81 hy82 hy83 kJ hI hmu
                  exact absurd hmu (by have := h_86m  s81 y82 y83 Ws81 hy82 hy83 (kJ.R rfl) (kJ.F rfl) hI; omega)
                | succ d86 ih86 =>
                  intro s81 y82 y83 Ws81 hy82 hy83 kJ hI hmu86
                  have h := h_86  s81 y82 y83 Ws81 hy82 hy83 (kJ.R rfl) (kJ.F rfl) hI
                  refine z_iload_n hC (pc := 86) 3 dX14_sign_86 rfl rfl ?_
                  refine z_aload_n hC (pc := 87) 1 dX14_sign_87 rfl rfl ?_
                  refine y_slen hC (pc := 88) hs1 dX14_sign_88 zw3021 (Nat.le_of_ble_eq_true rfl) (Nat.le_of_ble_eq_true rfl) (Nat.le_of_ble_eq_true rfl) (Nat.le_of_ble_eq_true rfl) (Nat.le_of_ble_eq_true rfl) ?_
                  obtain ⟨hT, hF⟩ := h
                  refine y_icmp_ge hC (pc := 91) 129 hy83 (rSt.rng hs1) dX14_sign_91 (by decide) (fun c => ?_) (fun c => ?_)
                  · have h := hT c
                    refine z_iload_n hC (pc := 129) 2 dX14_sign_129 rfl rfl ?_
                    obtain ⟨hT, hF⟩ := h
                    refine y_if_eq hC (pc := 130) 149 hy82 dX14_sign_130 (by decide) (fun c => ?_) (fun c => ?_)
                    · have h := hT c
                      refine z_aload_n hC (pc := 149) 0 dX14_sign_149 rfl rfl ?_
                      refine z_iconst hC (pc := 150) (v := Int32.ofInt 1) dX14_sign_150 (by decide) ?_
                      refine z_aload_n hC (pc := 151) 0 dX14_sign_151 rfl rfl ?_
                      refine y_get hC (pc := 152) zf14 rOb_0 17 (v := iv (rF s81 0 17)) dX14_sign_152 zw2484 (rv_i (Or.inl rfl) rfl) (kk := ?_)
                      have h := h (Ws81.f _ _)
                      obtain ⟨p84, h⟩ := h
                      refine y_callVv hC (pc := 155) (As := [iv 1, iv (rF s81 0 17)]) (kX14_bad l G κ s81 1 (rF s81 0 17) Ws81 (r_lit rfl) (Ws81.f _ _) p84) dmX14_bad zf14 rOb_0 dX14_sign_155 zw3000 rfl rfl (Nat.le_of_ble_eq_true rfl) (Nat.le_of_ble_eq_true rfl) (Nat.le_of_ble_eq_true rfl) (Nat.le_of_ble_eq_true rfl) (Nat.le_of_ble_eq_true rfl) (kk := fun s85 Ws85 qs85 => ?_)
                      have h := h s85 Ws85 (qs85.1.R rfl) (qs85.1.F rfl) (qs85.1.F rfl) qs85.2
                      exact y_retv hR dX14_sign_158 Ws85 (Nat.le_of_ble_eq_true rfl) (Nat.le_of_ble_eq_true rfl) ⟨(rKeep.tr (rKeep.tr rKeep.rf kJ rfl rfl rfl rfl rfl) qs85.1 rfl rfl rfl rfl rfl), h⟩
                    · have h := hF c
                      refine z_aload_n hC (pc := 133) 0 dX14_sign_133 rfl rfl ?_
                      refine z_dup hC (pc := 134) dX14_sign_134 rfl ?_
                      refine y_get hC (pc := 135) zf14 rOb_0 17 (v := iv (rF s81 0 17)) dX14_sign_135 zw2484 (rv_i (Or.inl rfl) rfl) (kk := ?_)
                      have h := h (Ws81.f _ _)
                      refine z_aload_n hC (pc := 138) 1 dX14_sign_138 rfl rfl ?_
                      refine y_slen hC (pc := 139) hs1 dX14_sign_139 zw3021 (Nat.le_of_ble_eq_true rfl) (Nat.le_of_ble_eq_true rfl) (Nat.le_of_ble_eq_true rfl) (Nat.le_of_ble_eq_true rfl) (Nat.le_of_ble_eq_true rfl) ?_
                      refine y_iadd hC (pc := 142) (v := ((rF s81 0 17) + (n1 : Int))) dX14_sign_142 rfl ?_
                      obtain ⟨r87, h⟩ := h
                      refine y_putI hC (pc := 143) zf14 rOb_0 17 (x := ((rF s81 0 17) + (n1 : Int))) dX14_sign_143 zw2484 (Or.inl rfl) rfl rfl (kk := ?_)
                      have W88 := Ws81.sF (q := 0) (f := 17) (x := ((rF s81 0 17) + (n1 : Int))) r87
                      refine z_goto hC (pc := 146) 158 dX14_sign_146 (by decide) ?_
                      exact y_retv hR dX14_sign_158 W88 (Nat.le_of_ble_eq_true rfl) (Nat.le_of_ble_eq_true rfl) ⟨(rKeep.tr (rKeep.tr rKeep.rf kJ rfl rfl rfl rfl rfl) (rKeep.sF0 (f := 17)) rfl rfl rfl rfl rfl), h⟩
                  · have h := hF c
                    refine z_iload_n hC (pc := 94) 2 dX14_sign_94 rfl rfl ?_
                    obtain ⟨hT, hF⟩ := h
                    refine y_if_eq hC (pc := 95) 129 hy82 dX14_sign_95 (by decide) (fun c => ?_) (fun c => ?_)
                    · have h := hT c
                      refine z_iload_n hC (pc := 129) 2 dX14_sign_129 rfl rfl ?_
                      obtain ⟨hT, hF⟩ := h
                      refine y_if_eq hC (pc := 130) 149 hy82 dX14_sign_130 (by decide) (fun c => ?_) (fun c => ?_)
                      · have h := hT c
                        refine z_aload_n hC (pc := 149) 0 dX14_sign_149 rfl rfl ?_
                        refine z_iconst hC (pc := 150) (v := Int32.ofInt 1) dX14_sign_150 (by decide) ?_
                        refine z_aload_n hC (pc := 151) 0 dX14_sign_151 rfl rfl ?_
                        refine y_get hC (pc := 152) zf14 rOb_0 17 (v := iv (rF s81 0 17)) dX14_sign_152 zw2484 (rv_i (Or.inl rfl) rfl) (kk := ?_)
                        have h := h (Ws81.f _ _)
                        obtain ⟨p89, h⟩ := h
                        refine y_callVv hC (pc := 155) (As := [iv 1, iv (rF s81 0 17)]) (kX14_bad l G κ s81 1 (rF s81 0 17) Ws81 (r_lit rfl) (Ws81.f _ _) p89) dmX14_bad zf14 rOb_0 dX14_sign_155 zw3000 rfl rfl (Nat.le_of_ble_eq_true rfl) (Nat.le_of_ble_eq_true rfl) (Nat.le_of_ble_eq_true rfl) (Nat.le_of_ble_eq_true rfl) (Nat.le_of_ble_eq_true rfl) (kk := fun s90 Ws90 qs90 => ?_)
                        have h := h s90 Ws90 (qs90.1.R rfl) (qs90.1.F rfl) (qs90.1.F rfl) qs90.2
                        exact y_retv hR dX14_sign_158 Ws90 (Nat.le_of_ble_eq_true rfl) (Nat.le_of_ble_eq_true rfl) ⟨(rKeep.tr (rKeep.tr rKeep.rf kJ rfl rfl rfl rfl rfl) qs90.1 rfl rfl rfl rfl rfl), h⟩
                      · have h := hF c
                        refine z_aload_n hC (pc := 133) 0 dX14_sign_133 rfl rfl ?_
                        refine z_dup hC (pc := 134) dX14_sign_134 rfl ?_
                        refine y_get hC (pc := 135) zf14 rOb_0 17 (v := iv (rF s81 0 17)) dX14_sign_135 zw2484 (rv_i (Or.inl rfl) rfl) (kk := ?_)
                        have h := h (Ws81.f _ _)
                        refine z_aload_n hC (pc := 138) 1 dX14_sign_138 rfl rfl ?_
                        refine y_slen hC (pc := 139) hs1 dX14_sign_139 zw3021 (Nat.le_of_ble_eq_true rfl) (Nat.le_of_ble_eq_true rfl) (Nat.le_of_ble_eq_true rfl) (Nat.le_of_ble_eq_true rfl) (Nat.le_of_ble_eq_true rfl) ?_
                        refine y_iadd hC (pc := 142) (v := ((rF s81 0 17) + (n1 : Int))) dX14_sign_142 rfl ?_
                        obtain ⟨r92, h⟩ := h
                        refine y_putI hC (pc := 143) zf14 rOb_0 17 (x := ((rF s81 0 17) + (n1 : Int))) dX14_sign_143 zw2484 (Or.inl rfl) rfl rfl (kk := ?_)
                        have W93 := Ws81.sF (q := 0) (f := 17) (x := ((rF s81 0 17) + (n1 : Int))) r92
                        refine z_goto hC (pc := 146) 158 dX14_sign_146 (by decide) ?_
                        exact y_retv hR dX14_sign_158 W93 (Nat.le_of_ble_eq_true rfl) (Nat.le_of_ble_eq_true rfl) ⟨(rKeep.tr (rKeep.tr rKeep.rf kJ rfl rfl rfl rfl rfl) (rKeep.sF0 (f := 17)) rfl rfl rfl rfl rfl), h⟩
                    · have h := hF c
                      refine z_aload_n hC (pc := 98) 0 dX14_sign_98 rfl rfl ?_
                      obtain ⟨g94, h⟩ := h
                      refine y_get hC (pc := 99) zf14 rOb_0 15 (v := .ref (κ (rR s81 15))) dX14_sign_99 zw2482 (rv_b rfl rfl g94) (kk := ?_)
                      refine z_aload_n hC (pc := 102) 0 dX14_sign_102 rfl rfl ?_
                      refine y_get hC (pc := 103) zf14 rOb_0 17 (v := iv (rF s81 0 17)) dX14_sign_103 zw2484 (rv_i (Or.inl rfl) rfl) (kk := ?_)
                      have h := h (Ws81.f _ _)
                      refine z_iload_n hC (pc := 106) 3 dX14_sign_106 rfl rfl ?_
                      refine y_iadd hC (pc := 107) (v := ((rF s81 0 17) + y83)) dX14_sign_107 rfl ?_
                      obtain ⟨b95, h⟩ := h
                      refine y_bald hC (pc := 108) (rAr_f g94) dX14_sign_108 b95 (v := (rA s81 (rR s81 15) ((rF s81 0 17) + y83))) rfl (kk := ?_)
                      have h := h (Ws81.a _ _)
                      refine z_aload_n hC (pc := 109) 1 dX14_sign_109 rfl rfl ?_
                      refine z_iload_n hC (pc := 110) 3 dX14_sign_110 rfl rfl ?_
                      obtain ⟨b96, h⟩ := h
                      refine y_char hC (pc := 111) (i := y83) hs1 b96 dX14_sign_111 zw3022 (Nat.le_of_ble_eq_true rfl) (Nat.le_of_ble_eq_true rfl) (Nat.le_of_ble_eq_true rfl) (Nat.le_of_ble_eq_true rfl) (Nat.le_of_ble_eq_true rfl) (fun x97 hx97 => ?_)
                      have h := h x97 hx97
                      obtain ⟨hT, hF⟩ := h
                      refine y_icmp_ne hC (pc := 114) 121 (Ws81.a _ _) (r_255 hx97) dX14_sign_114 (by decide) (fun c => ?_) (fun c => ?_)
                      · have h := hT c
                        refine z_iconst hC (pc := 121) (v := Int32.ofInt 0) dX14_sign_121 (by decide) ?_
                        refine z_istore_n hC (pc := 122) (lv' := [(2, iv 0), (0, .ref (κ 0)), (1, .ref t1), (3, iv y83)]) dX14_sign_122 rfl (by decide) rfl ?_
                        refine y_iinc hC (pc := 123) (v := (y83 + 1)) (lv' := [(3, iv (y83 + 1)), (2, iv 0), (0, .ref (κ 0)), (1, .ref t1)]) 3 dX14_sign_123 rfl rfl (by decide) rfl ?_
                        refine z_goto hC (pc := 126) 86 dX14_sign_126 (by decide) ?_
                        refine z_lvs [2, 3, 1, 0] rfl ?_
                        obtain ⟨r98, h⟩ := h
                        obtain ⟨hI, hm⟩ := h
                        exact ih86 s81 0 (y83 + 1) Ws81 (r_lit rfl) r98 (rKeep.tr rKeep.rf kJ rfl rfl rfl rfl rfl) hI (by omega)
                      · have h := hF c
                        refine z_iconst hC (pc := 117) (v := Int32.ofInt 1) dX14_sign_117 (by decide) ?_
                        refine z_goto hC (pc := 118) 122 dX14_sign_118 (by decide) ?_
                        refine z_istore_n hC (pc := 122) (lv' := [(2, iv 1), (0, .ref (κ 0)), (1, .ref t1), (3, iv y83)]) dX14_sign_122 rfl (by decide) rfl ?_
                        refine y_iinc hC (pc := 123) (v := (y83 + 1)) (lv' := [(3, iv (y83 + 1)), (2, iv 1), (0, .ref (κ 0)), (1, .ref t1)]) 3 dX14_sign_123 rfl rfl (by decide) rfl ?_
                        refine z_goto hC (pc := 126) 86 dX14_sign_126 (by decide) ?_
                        refine z_lvs [2, 3, 1, 0] rfl ?_
                        obtain ⟨r99, h⟩ := h
                        obtain ⟨hI, hm⟩ := h
                        exact ih86 s81 1 (y83 + 1) Ws81 (r_lit rfl) r99 (rKeep.tr rKeep.rf kJ rfl rfl rfl rfl rfl) hI (by omega)
              refine z_lvs [2, 3, 1, 0] rfl ?_
              exact j86 _ s11 0 0 Ws11 (r_lit rfl) (r_lit rfl) (rKeep.tr rKeep.rf qs11.1 rfl rfl rfl rfl rfl) h (Nat.le_refl _)
            · have h := hF c
              refine z_iconst hC (pc := 82) (v := Int32.ofInt 0) dX14_sign_82 (by decide) ?_
              refine z_istore_n hC (pc := 83) (lv' := [(2, iv 0), (0, .ref (κ 0)), (1, .ref t1)]) dX14_sign_83 rfl (by decide) rfl ?_
              refine z_iconst hC (pc := 84) (v := Int32.ofInt 0) dX14_sign_84 (by decide) ?_
              refine z_istore_n hC (pc := 85) (lv' := [(3, iv 0), (2, iv 0), (0, .ref (κ 0)), (1, .ref t1)]) dX14_sign_85 rfl (by decide) rfl ?_
              have j86 : ∀ (d86 : Nat), ∀ (s100 : rS) (y101 : Int) (y102 : Int), rWF s100 → rng y101 → rng y102 → rKeep 0x21c00 0 0 0 0 σ s100 → inv_X14_sign_86 σ n1 s100 y101 y102 → (mu_X14_sign_86 σ n1 s100 y101 y102) ≤ d86 → zS X G 4 (rW G κ s100) [(0, .ref (κ 0)), (1, .ref t1), (2, iv y101), (3, iv y102)] 0 0 86 [] := by
                intro d86
                induction d86 with
                | zero =>
                  intro s100 y101 y102 Ws100 hy101 hy102 kJ hI hmu
                  exact absurd hmu (by have := h_86m  s100 y101 y102 Ws100 hy101 hy102 (kJ.R rfl) (kJ.F rfl) hI; omega)
                | succ d86 ih86 =>
                  intro s100 y101 y102 Ws100 hy101 hy102 kJ hI hmu86
                  have h := h_86  s100 y101 y102 Ws100 hy101 hy102 (kJ.R rfl) (kJ.F rfl) hI
                  refine z_iload_n hC (pc := 86) 3 dX14_sign_86 rfl rfl ?_
                  refine z_aload_n hC (pc := 87) 1 dX14_sign_87 rfl rfl ?_
                  refine y_slen hC (pc := 88) hs1 dX14_sign_88 zw3021 (Nat.le_of_ble_eq_true rfl) (Nat.le_of_ble_eq_true rfl) (Nat.le_of_ble_eq_true rfl) (Nat.le_of_ble_eq_true rfl) (Nat.le_of_ble_eq_true rfl) ?_
                  obtain ⟨hT, hF⟩ := h
                  refine y_icmp_ge hC (pc := 91) 129 hy102 (rSt.rng hs1) dX14_sign_91 (by decide) (fun c => ?_) (fun c => ?_)
                  · have h := hT c
                    refine z_iload_n hC (pc := 129) 2 dX14_sign_129 rfl rfl ?_
                    obtain ⟨hT, hF⟩ := h
                    refine y_if_eq hC (pc := 130) 149 hy101 dX14_sign_130 (by decide) (fun c => ?_) (fun c => ?_)
                    · have h := hT c
                      refine z_aload_n hC (pc := 149) 0 dX14_sign_149 rfl rfl ?_
                      refine z_iconst hC (pc := 150) (v := Int32.ofInt 1) dX14_sign_150 (by decide) ?_
                      refine z_aload_n hC (pc := 151) 0 dX14_sign_151 rfl rfl ?_
                      refine y_get hC (pc := 152) zf14 rOb_0 17 (v := iv (rF s100 0 17)) dX14_sign_152 zw2484 (rv_i (Or.inl rfl) rfl) (kk := ?_)
                      have h := h (Ws100.f _ _)
                      obtain ⟨p103, h⟩ := h
                      refine y_callVv hC (pc := 155) (As := [iv 1, iv (rF s100 0 17)]) (kX14_bad l G κ s100 1 (rF s100 0 17) Ws100 (r_lit rfl) (Ws100.f _ _) p103) dmX14_bad zf14 rOb_0 dX14_sign_155 zw3000 rfl rfl (Nat.le_of_ble_eq_true rfl) (Nat.le_of_ble_eq_true rfl) (Nat.le_of_ble_eq_true rfl) (Nat.le_of_ble_eq_true rfl) (Nat.le_of_ble_eq_true rfl) (kk := fun s104 Ws104 qs104 => ?_)
                      have h := h s104 Ws104 (qs104.1.R rfl) (qs104.1.F rfl) (qs104.1.F rfl) qs104.2
                      exact y_retv hR dX14_sign_158 Ws104 (Nat.le_of_ble_eq_true rfl) (Nat.le_of_ble_eq_true rfl) ⟨(rKeep.tr (rKeep.tr rKeep.rf kJ rfl rfl rfl rfl rfl) qs104.1 rfl rfl rfl rfl rfl), h⟩
                    · have h := hF c
                      refine z_aload_n hC (pc := 133) 0 dX14_sign_133 rfl rfl ?_
                      refine z_dup hC (pc := 134) dX14_sign_134 rfl ?_
                      refine y_get hC (pc := 135) zf14 rOb_0 17 (v := iv (rF s100 0 17)) dX14_sign_135 zw2484 (rv_i (Or.inl rfl) rfl) (kk := ?_)
                      have h := h (Ws100.f _ _)
                      refine z_aload_n hC (pc := 138) 1 dX14_sign_138 rfl rfl ?_
                      refine y_slen hC (pc := 139) hs1 dX14_sign_139 zw3021 (Nat.le_of_ble_eq_true rfl) (Nat.le_of_ble_eq_true rfl) (Nat.le_of_ble_eq_true rfl) (Nat.le_of_ble_eq_true rfl) (Nat.le_of_ble_eq_true rfl) ?_
                      refine y_iadd hC (pc := 142) (v := ((rF s100 0 17) + (n1 : Int))) dX14_sign_142 rfl ?_
                      obtain ⟨r106, h⟩ := h
                      refine y_putI hC (pc := 143) zf14 rOb_0 17 (x := ((rF s100 0 17) + (n1 : Int))) dX14_sign_143 zw2484 (Or.inl rfl) rfl rfl (kk := ?_)
                      have W107 := Ws100.sF (q := 0) (f := 17) (x := ((rF s100 0 17) + (n1 : Int))) r106
                      refine z_goto hC (pc := 146) 158 dX14_sign_146 (by decide) ?_
                      exact y_retv hR dX14_sign_158 W107 (Nat.le_of_ble_eq_true rfl) (Nat.le_of_ble_eq_true rfl) ⟨(rKeep.tr (rKeep.tr rKeep.rf kJ rfl rfl rfl rfl rfl) (rKeep.sF0 (f := 17)) rfl rfl rfl rfl rfl), h⟩
                  · have h := hF c
                    refine z_iload_n hC (pc := 94) 2 dX14_sign_94 rfl rfl ?_
                    obtain ⟨hT, hF⟩ := h
                    refine y_if_eq hC (pc := 95) 129 hy101 dX14_sign_95 (by decide) (fun c => ?_) (fun c => ?_)
                    · have h := hT c
                      refine z_iload_n hC (pc := 129) 2 dX14_sign_129 rfl rfl ?_
                      obtain ⟨hT, hF⟩ := h
                      refine y_if_eq hC (pc := 130) 149 hy101 dX14_sign_130 (by decide) (fun c => ?_) (fun c => ?_)
                      · have h := hT c
                        refine z_aload_n hC (pc := 149) 0 dX14_sign_149 rfl rfl ?_
                        refine z_iconst hC (pc := 150) (v := Int32.ofInt 1) dX14_sign_150 (by decide) ?_
                        refine z_aload_n hC (pc := 151) 0 dX14_sign_151 rfl rfl ?_
                        refine y_get hC (pc := 152) zf14 rOb_0 17 (v := iv (rF s100 0 17)) dX14_sign_152 zw2484 (rv_i (Or.inl rfl) rfl) (kk := ?_)
                        have h := h (Ws100.f _ _)
                        obtain ⟨p108, h⟩ := h
                        refine y_callVv hC (pc := 155) (As := [iv 1, iv (rF s100 0 17)]) (kX14_bad l G κ s100 1 (rF s100 0 17) Ws100 (r_lit rfl) (Ws100.f _ _) p108) dmX14_bad zf14 rOb_0 dX14_sign_155 zw3000 rfl rfl (Nat.le_of_ble_eq_true rfl) (Nat.le_of_ble_eq_true rfl) (Nat.le_of_ble_eq_true rfl) (Nat.le_of_ble_eq_true rfl) (Nat.le_of_ble_eq_true rfl) (kk := fun s109 Ws109 qs109 => ?_)
                        have h := h s109 Ws109 (qs109.1.R rfl) (qs109.1.F rfl) (qs109.1.F rfl) qs109.2
                        exact y_retv hR dX14_sign_158 Ws109 (Nat.le_of_ble_eq_true rfl) (Nat.le_of_ble_eq_true rfl) ⟨(rKeep.tr (rKeep.tr rKeep.rf kJ rfl rfl rfl rfl rfl) qs109.1 rfl rfl rfl rfl rfl), h⟩
                      · have h := hF c
                        refine z_aload_n hC (pc := 133) 0 dX14_sign_133 rfl rfl ?_
                        refine z_dup hC (pc := 134) dX14_sign_134 rfl ?_
                        refine y_get hC (pc := 135) zf14 rOb_0 17 (v := iv (rF s100 0 17)) dX14_sign_135 zw2484 (rv_i (Or.inl rfl) rfl) (kk := ?_)
                        have h := h (Ws100.f _ _)
                        refine z_aload_n hC (pc := 138) 1 dX14_sign_138 rfl rfl ?_
                        refine y_slen hC (pc := 139) hs1 dX14_sign_139 zw3021 (Nat.le_of_ble_eq_true rfl) (Nat.le_of_ble_eq_true rfl) (Nat.le_of_ble_eq_true rfl) (Nat.le_of_ble_eq_true rfl) (Nat.le_of_ble_eq_true rfl) ?_
                        refine y_iadd hC (pc := 142) (v := ((rF s100 0 17) + (n1 : Int))) dX14_sign_142 rfl ?_
                        obtain ⟨r111, h⟩ := h
                        refine y_putI hC (pc := 143) zf14 rOb_0 17 (x := ((rF s100 0 17) + (n1 : Int))) dX14_sign_143 zw2484 (Or.inl rfl) rfl rfl (kk := ?_)
                        have W112 := Ws100.sF (q := 0) (f := 17) (x := ((rF s100 0 17) + (n1 : Int))) r111
                        refine z_goto hC (pc := 146) 158 dX14_sign_146 (by decide) ?_
                        exact y_retv hR dX14_sign_158 W112 (Nat.le_of_ble_eq_true rfl) (Nat.le_of_ble_eq_true rfl) ⟨(rKeep.tr (rKeep.tr rKeep.rf kJ rfl rfl rfl rfl rfl) (rKeep.sF0 (f := 17)) rfl rfl rfl rfl rfl), h⟩
                    · have h := hF c
                      refine z_aload_n hC (pc := 98) 0 dX14_sign_98 rfl rfl ?_
                      obtain ⟨g113, h⟩ := h
                      refine y_get hC (pc := 99) zf14 rOb_0 15 (v := .ref (κ (rR s100 15))) dX14_sign_99 zw2482 (rv_b rfl rfl g113) (kk := ?_)
                      refine z_aload_n hC (pc := 102) 0 dX14_sign_102 rfl rfl ?_
                      refine y_get hC (pc := 103) zf14 rOb_0 17 (v := iv (rF s100 0 17)) dX14_sign_103 zw2484 (rv_i (Or.inl rfl) rfl) (kk := ?_)
                      have h := h (Ws100.f _ _)
                      refine z_iload_n hC (pc := 106) 3 dX14_sign_106 rfl rfl ?_
                      refine y_iadd hC (pc := 107) (v := ((rF s100 0 17) + y102)) dX14_sign_107 rfl ?_
                      obtain ⟨b114, h⟩ := h
                      refine y_bald hC (pc := 108) (rAr_f g113) dX14_sign_108 b114 (v := (rA s100 (rR s100 15) ((rF s100 0 17) + y102))) rfl (kk := ?_)
                      have h := h (Ws100.a _ _)
                      refine z_aload_n hC (pc := 109) 1 dX14_sign_109 rfl rfl ?_
                      refine z_iload_n hC (pc := 110) 3 dX14_sign_110 rfl rfl ?_
                      obtain ⟨b115, h⟩ := h
                      refine y_char hC (pc := 111) (i := y102) hs1 b115 dX14_sign_111 zw3022 (Nat.le_of_ble_eq_true rfl) (Nat.le_of_ble_eq_true rfl) (Nat.le_of_ble_eq_true rfl) (Nat.le_of_ble_eq_true rfl) (Nat.le_of_ble_eq_true rfl) (fun x116 hx116 => ?_)
                      have h := h x116 hx116
                      obtain ⟨hT, hF⟩ := h
                      refine y_icmp_ne hC (pc := 114) 121 (Ws100.a _ _) (r_255 hx116) dX14_sign_114 (by decide) (fun c => ?_) (fun c => ?_)
                      · have h := hT c
                        refine z_iconst hC (pc := 121) (v := Int32.ofInt 0) dX14_sign_121 (by decide) ?_
                        refine z_istore_n hC (pc := 122) (lv' := [(2, iv 0), (0, .ref (κ 0)), (1, .ref t1), (3, iv y102)]) dX14_sign_122 rfl (by decide) rfl ?_
                        refine y_iinc hC (pc := 123) (v := (y102 + 1)) (lv' := [(3, iv (y102 + 1)), (2, iv 0), (0, .ref (κ 0)), (1, .ref t1)]) 3 dX14_sign_123 rfl rfl (by decide) rfl ?_
                        refine z_goto hC (pc := 126) 86 dX14_sign_126 (by decide) ?_
                        refine z_lvs [2, 3, 1, 0] rfl ?_
                        obtain ⟨r117, h⟩ := h
                        obtain ⟨hI, hm⟩ := h
                        exact ih86 s100 0 (y102 + 1) Ws100 (r_lit rfl) r117 (rKeep.tr rKeep.rf kJ rfl rfl rfl rfl rfl) hI (by omega)
                      · have h := hF c
                        refine z_iconst hC (pc := 117) (v := Int32.ofInt 1) dX14_sign_117 (by decide) ?_
                        refine z_goto hC (pc := 118) 122 dX14_sign_118 (by decide) ?_
                        refine z_istore_n hC (pc := 122) (lv' := [(2, iv 1), (0, .ref (κ 0)), (1, .ref t1), (3, iv y102)]) dX14_sign_122 rfl (by decide) rfl ?_
                        refine y_iinc hC (pc := 123) (v := (y102 + 1)) (lv' := [(3, iv (y102 + 1)), (2, iv 1), (0, .ref (κ 0)), (1, .ref t1)]) 3 dX14_sign_123 rfl rfl (by decide) rfl ?_
                        refine z_goto hC (pc := 126) 86 dX14_sign_126 (by decide) ?_
                        refine z_lvs [2, 3, 1, 0] rfl ?_
                        obtain ⟨r118, h⟩ := h
                        obtain ⟨hI, hm⟩ := h
                        exact ih86 s100 1 (y102 + 1) Ws100 (r_lit rfl) r118 (rKeep.tr rKeep.rf kJ rfl rfl rfl rfl rfl) hI (by omega)
              refine z_lvs [2, 3, 1, 0] rfl ?_
              exact j86 _ s11 0 0 Ws11 (r_lit rfl) (r_lit rfl) (rKeep.tr rKeep.rf qs11.1 rfl rfl rfl rfl rfl) h (Nat.le_refl _)
    · have h := hF c
      refine z_iconst hC (pc := 28) (v := Int32.ofInt 1) dX14_sign_28 (by decide) ?_
      refine z_goto hC (pc := 29) 33 dX14_sign_29 (by decide) ?_
      refine z_istore_n hC (pc := 33) (lv' := [(2, iv 1), (0, .ref (κ 0)), (1, .ref t1)]) dX14_sign_33 rfl (by decide) rfl ?_
      refine z_aload_n hC (pc := 34) 2 dX14_sign_34 rfl rfl ?_
      refine y_slen hC (pc := 35) hs1 dX14_sign_35 zw3021 (Nat.le_of_ble_eq_true rfl) (Nat.le_of_ble_eq_true rfl) (Nat.le_of_ble_eq_true rfl) (Nat.le_of_ble_eq_true rfl) (Nat.le_of_ble_eq_true rfl) ?_
      refine z_iconst hC (pc := 38) (v := Int32.ofInt 1) dX14_sign_38 (by decide) ?_
      obtain ⟨hT, hF⟩ := h
      refine y_icmp_ne hC (pc := 39) 84 (rSt.rng hs1) (r_lit rfl) dX14_sign_39 (by decide) (fun c => ?_) (fun c => ?_)
      · have h := hT c
        refine z_iconst hC (pc := 84) (v := Int32.ofInt 0) dX14_sign_84 (by decide) ?_
        refine z_istore_n hC (pc := 85) (lv' := [(3, iv 0), (2, iv 1), (0, .ref (κ 0)), (1, .ref t1)]) dX14_sign_85 rfl (by decide) rfl ?_
        have j86 : ∀ (d86 : Nat), ∀ (s119 : rS) (y120 : Int) (y121 : Int), rWF s119 → rng y120 → rng y121 → rKeep 0x21c00 0 0 0 0 σ s119 → inv_X14_sign_86 σ n1 s119 y120 y121 → (mu_X14_sign_86 σ n1 s119 y120 y121) ≤ d86 → zS X G 4 (rW G κ s119) [(0, .ref (κ 0)), (1, .ref t1), (2, iv y120), (3, iv y121)] 0 0 86 [] := by
          intro d86
          induction d86 with
          | zero =>
            intro s119 y120 y121 Ws119 hy120 hy121 kJ hI hmu
            exact absurd hmu (by have := h_86m  s119 y120 y121 Ws119 hy120 hy121 (kJ.R rfl) (kJ.F rfl) hI; omega)
          | succ d86 ih86 =>
            intro s119 y120 y121 Ws119 hy120 hy121 kJ hI hmu86
            have h := h_86  s119 y120 y121 Ws119 hy120 hy121 (kJ.R rfl) (kJ.F rfl) hI
            refine z_iload_n hC (pc := 86) 3 dX14_sign_86 rfl rfl ?_
            refine z_aload_n hC (pc := 87) 1 dX14_sign_87 rfl rfl ?_
            refine y_slen hC (pc := 88) hs1 dX14_sign_88 zw3021 (Nat.le_of_ble_eq_true rfl) (Nat.le_of_ble_eq_true rfl) (Nat.le_of_ble_eq_true rfl) (Nat.le_of_ble_eq_true rfl) (Nat.le_of_ble_eq_true rfl) ?_
            obtain ⟨hT, hF⟩ := h
            refine y_icmp_ge hC (pc := 91) 129 hy121 (rSt.rng hs1) dX14_sign_91 (by decide) (fun c => ?_) (fun c => ?_)
            · have h := hT c
              refine z_iload_n hC (pc := 129) 2 dX14_sign_129 rfl rfl ?_
              obtain ⟨hT, hF⟩ := h
              refine y_if_eq hC (pc := 130) 149 hy120 dX14_sign_130 (by decide) (fun c => ?_) (fun c => ?_)
              · have h := hT c
                refine z_aload_n hC (pc := 149) 0 dX14_sign_149 rfl rfl ?_
                refine z_iconst hC (pc := 150) (v := Int32.ofInt 1) dX14_sign_150 (by decide) ?_
                refine z_aload_n hC (pc := 151) 0 dX14_sign_151 rfl rfl ?_
                refine y_get hC (pc := 152) zf14 rOb_0 17 (v := iv (rF s119 0 17)) dX14_sign_152 zw2484 (rv_i (Or.inl rfl) rfl) (kk := ?_)
                have h := h (Ws119.f _ _)
                obtain ⟨p122, h⟩ := h
                refine y_callVv hC (pc := 155) (As := [iv 1, iv (rF s119 0 17)]) (kX14_bad l G κ s119 1 (rF s119 0 17) Ws119 (r_lit rfl) (Ws119.f _ _) p122) dmX14_bad zf14 rOb_0 dX14_sign_155 zw3000 rfl rfl (Nat.le_of_ble_eq_true rfl) (Nat.le_of_ble_eq_true rfl) (Nat.le_of_ble_eq_true rfl) (Nat.le_of_ble_eq_true rfl) (Nat.le_of_ble_eq_true rfl) (kk := fun s123 Ws123 qs123 => ?_)
                have h := h s123 Ws123 (qs123.1.R rfl) (qs123.1.F rfl) (qs123.1.F rfl) qs123.2
                exact y_retv hR dX14_sign_158 Ws123 (Nat.le_of_ble_eq_true rfl) (Nat.le_of_ble_eq_true rfl) ⟨(rKeep.tr (rKeep.tr rKeep.rf kJ rfl rfl rfl rfl rfl) qs123.1 rfl rfl rfl rfl rfl), h⟩
              · have h := hF c
                refine z_aload_n hC (pc := 133) 0 dX14_sign_133 rfl rfl ?_
                refine z_dup hC (pc := 134) dX14_sign_134 rfl ?_
                refine y_get hC (pc := 135) zf14 rOb_0 17 (v := iv (rF s119 0 17)) dX14_sign_135 zw2484 (rv_i (Or.inl rfl) rfl) (kk := ?_)
                have h := h (Ws119.f _ _)
                refine z_aload_n hC (pc := 138) 1 dX14_sign_138 rfl rfl ?_
                refine y_slen hC (pc := 139) hs1 dX14_sign_139 zw3021 (Nat.le_of_ble_eq_true rfl) (Nat.le_of_ble_eq_true rfl) (Nat.le_of_ble_eq_true rfl) (Nat.le_of_ble_eq_true rfl) (Nat.le_of_ble_eq_true rfl) ?_
                refine y_iadd hC (pc := 142) (v := ((rF s119 0 17) + (n1 : Int))) dX14_sign_142 rfl ?_
                obtain ⟨r125, h⟩ := h
                refine y_putI hC (pc := 143) zf14 rOb_0 17 (x := ((rF s119 0 17) + (n1 : Int))) dX14_sign_143 zw2484 (Or.inl rfl) rfl rfl (kk := ?_)
                have W126 := Ws119.sF (q := 0) (f := 17) (x := ((rF s119 0 17) + (n1 : Int))) r125
                refine z_goto hC (pc := 146) 158 dX14_sign_146 (by decide) ?_
                exact y_retv hR dX14_sign_158 W126 (Nat.le_of_ble_eq_true rfl) (Nat.le_of_ble_eq_true rfl) ⟨(rKeep.tr (rKeep.tr rKeep.rf kJ rfl rfl rfl rfl rfl) (rKeep.sF0 (f := 17)) rfl rfl rfl rfl rfl), h⟩
            · have h := hF c
              refine z_iload_n hC (pc := 94) 2 dX14_sign_94 rfl rfl ?_
              obtain ⟨hT, hF⟩ := h
              refine y_if_eq hC (pc := 95) 129 hy120 dX14_sign_95 (by decide) (fun c => ?_) (fun c => ?_)
              · have h := hT c
                refine z_iload_n hC (pc := 129) 2 dX14_sign_129 rfl rfl ?_
                obtain ⟨hT, hF⟩ := h
                refine y_if_eq hC (pc := 130) 149 hy120 dX14_sign_130 (by decide) (fun c => ?_) (fun c => ?_)
                · have h := hT c
                  refine z_aload_n hC (pc := 149) 0 dX14_sign_149 rfl rfl ?_
                  refine z_iconst hC (pc := 150) (v := Int32.ofInt 1) dX14_sign_150 (by decide) ?_
                  refine z_aload_n hC (pc := 151) 0 dX14_sign_151 rfl rfl ?_
                  refine y_get hC (pc := 152) zf14 rOb_0 17 (v := iv (rF s119 0 17)) dX14_sign_152 zw2484 (rv_i (Or.inl rfl) rfl) (kk := ?_)
                  have h := h (Ws119.f _ _)
                  obtain ⟨p127, h⟩ := h
                  refine y_callVv hC (pc := 155) (As := [iv 1, iv (rF s119 0 17)]) (kX14_bad l G κ s119 1 (rF s119 0 17) Ws119 (r_lit rfl) (Ws119.f _ _) p127) dmX14_bad zf14 rOb_0 dX14_sign_155 zw3000 rfl rfl (Nat.le_of_ble_eq_true rfl) (Nat.le_of_ble_eq_true rfl) (Nat.le_of_ble_eq_true rfl) (Nat.le_of_ble_eq_true rfl) (Nat.le_of_ble_eq_true rfl) (kk := fun s128 Ws128 qs128 => ?_)
                  have h := h s128 Ws128 (qs128.1.R rfl) (qs128.1.F rfl) (qs128.1.F rfl) qs128.2
                  exact y_retv hR dX14_sign_158 Ws128 (Nat.le_of_ble_eq_true rfl) (Nat.le_of_ble_eq_true rfl) ⟨(rKeep.tr (rKeep.tr rKeep.rf kJ rfl rfl rfl rfl rfl) qs128.1 rfl rfl rfl rfl rfl), h⟩
                · have h := hF c
                  refine z_aload_n hC (pc := 133) 0 dX14_sign_133 rfl rfl ?_
                  refine z_dup hC (pc := 134) dX14_sign_134 rfl ?_
                  refine y_get hC (pc := 135) zf14 rOb_0 17 (v := iv (rF s119 0 17)) dX14_sign_135 zw2484 (rv_i (Or.inl rfl) rfl) (kk := ?_)
                  have h := h (Ws119.f _ _)
                  refine z_aload_n hC (pc := 138) 1 dX14_sign_138 rfl rfl ?_
                  refine y_slen hC (pc := 139) hs1 dX14_sign_139 zw3021 (Nat.le_of_ble_eq_true rfl) (Nat.le_of_ble_eq_true rfl) (Nat.le_of_ble_eq_true rfl) (Nat.le_of_ble_eq_true rfl) (Nat.le_of_ble_eq_true rfl) ?_
                  refine y_iadd hC (pc := 142) (v := ((rF s119 0 17) + (n1 : Int))) dX14_sign_142 rfl ?_
                  obtain ⟨r130, h⟩ := h
                  refine y_putI hC (pc := 143) zf14 rOb_0 17 (x := ((rF s119 0 17) + (n1 : Int))) dX14_sign_143 zw2484 (Or.inl rfl) rfl rfl (kk := ?_)
                  have W131 := Ws119.sF (q := 0) (f := 17) (x := ((rF s119 0 17) + (n1 : Int))) r130
                  refine z_goto hC (pc := 146) 158 dX14_sign_146 (by decide) ?_
                  exact y_retv hR dX14_sign_158 W131 (Nat.le_of_ble_eq_true rfl) (Nat.le_of_ble_eq_true rfl) ⟨(rKeep.tr (rKeep.tr rKeep.rf kJ rfl rfl rfl rfl rfl) (rKeep.sF0 (f := 17)) rfl rfl rfl rfl rfl), h⟩
              · have h := hF c
                refine z_aload_n hC (pc := 98) 0 dX14_sign_98 rfl rfl ?_
                obtain ⟨g132, h⟩ := h
                refine y_get hC (pc := 99) zf14 rOb_0 15 (v := .ref (κ (rR s119 15))) dX14_sign_99 zw2482 (rv_b rfl rfl g132) (kk := ?_)
                refine z_aload_n hC (pc := 102) 0 dX14_sign_102 rfl rfl ?_
                refine y_get hC (pc := 103) zf14 rOb_0 17 (v := iv (rF s119 0 17)) dX14_sign_103 zw2484 (rv_i (Or.inl rfl) rfl) (kk := ?_)
                have h := h (Ws119.f _ _)
                refine z_iload_n hC (pc := 106) 3 dX14_sign_106 rfl rfl ?_
                refine y_iadd hC (pc := 107) (v := ((rF s119 0 17) + y121)) dX14_sign_107 rfl ?_
                obtain ⟨b133, h⟩ := h
                refine y_bald hC (pc := 108) (rAr_f g132) dX14_sign_108 b133 (v := (rA s119 (rR s119 15) ((rF s119 0 17) + y121))) rfl (kk := ?_)
                have h := h (Ws119.a _ _)
                refine z_aload_n hC (pc := 109) 1 dX14_sign_109 rfl rfl ?_
                refine z_iload_n hC (pc := 110) 3 dX14_sign_110 rfl rfl ?_
                obtain ⟨b134, h⟩ := h
                refine y_char hC (pc := 111) (i := y121) hs1 b134 dX14_sign_111 zw3022 (Nat.le_of_ble_eq_true rfl) (Nat.le_of_ble_eq_true rfl) (Nat.le_of_ble_eq_true rfl) (Nat.le_of_ble_eq_true rfl) (Nat.le_of_ble_eq_true rfl) (fun x135 hx135 => ?_)
                have h := h x135 hx135
                obtain ⟨hT, hF⟩ := h
                refine y_icmp_ne hC (pc := 114) 121 (Ws119.a _ _) (r_255 hx135) dX14_sign_114 (by decide) (fun c => ?_) (fun c => ?_)
                · have h := hT c
                  refine z_iconst hC (pc := 121) (v := Int32.ofInt 0) dX14_sign_121 (by decide) ?_
                  refine z_istore_n hC (pc := 122) (lv' := [(2, iv 0), (0, .ref (κ 0)), (1, .ref t1), (3, iv y121)]) dX14_sign_122 rfl (by decide) rfl ?_
                  refine y_iinc hC (pc := 123) (v := (y121 + 1)) (lv' := [(3, iv (y121 + 1)), (2, iv 0), (0, .ref (κ 0)), (1, .ref t1)]) 3 dX14_sign_123 rfl rfl (by decide) rfl ?_
                  refine z_goto hC (pc := 126) 86 dX14_sign_126 (by decide) ?_
                  refine z_lvs [2, 3, 1, 0] rfl ?_
                  obtain ⟨r136, h⟩ := h
                  obtain ⟨hI, hm⟩ := h
                  exact ih86 s119 0 (y121 + 1) Ws119 (r_lit rfl) r136 (rKeep.tr rKeep.rf kJ rfl rfl rfl rfl rfl) hI (by omega)
                · have h := hF c
                  refine z_iconst hC (pc := 117) (v := Int32.ofInt 1) dX14_sign_117 (by decide) ?_
                  refine z_goto hC (pc := 118) 122 dX14_sign_118 (by decide) ?_
                  refine z_istore_n hC (pc := 122) (lv' := [(2, iv 1), (0, .ref (κ 0)), (1, .ref t1), (3, iv y121)]) dX14_sign_122 rfl (by decide) rfl ?_
                  refine y_iinc hC (pc := 123) (v := (y121 + 1)) (lv' := [(3, iv (y121 + 1)), (2, iv 1), (0, .ref (κ 0)), (1, .ref t1)]) 3 dX14_sign_123 rfl rfl (by decide) rfl ?_
                  refine z_goto hC (pc := 126) 86 dX14_sign_126 (by decide) ?_
                  refine z_lvs [2, 3, 1, 0] rfl ?_
                  obtain ⟨r137, h⟩ := h
                  obtain ⟨hI, hm⟩ := h
                  exact ih86 s119 1 (y121 + 1) Ws119 (r_lit rfl) r137 (rKeep.tr rKeep.rf kJ rfl rfl rfl rfl rfl) hI (by omega)
        refine z_lvs [2, 3, 1, 0] rfl ?_
        exact j86 _ s11 1 0 Ws11 (r_lit rfl) (r_lit rfl) (rKeep.tr rKeep.rf qs11.1 rfl rfl rfl rfl rfl) h (Nat.le_refl _)
      · have h := hF c
        refine z_aload_n hC (pc := 42) 2 dX14_sign_42 rfl rfl ?_
        refine z_iconst hC (pc := 43) (v := Int32.ofInt 0) dX14_sign_43 (by decide) ?_
        obtain ⟨b138, h⟩ := h
        refine y_char hC (pc := 44) (i := 0) hs1 b138 dX14_sign_44 zw3022 (Nat.le_of_ble_eq_true rfl) (Nat.le_of_ble_eq_true rfl) (Nat.le_of_ble_eq_true rfl) (Nat.le_of_ble_eq_true rfl) (Nat.le_of_ble_eq_true rfl) (fun x139 hx139 => ?_)
        have h := h x139 hx139
        refine z_bipush hC (pc := 47) (v := Int32.ofInt 58) dX14_sign_47 (by decide) ?_
        obtain ⟨hT, hF⟩ := h
        refine y_icmp_ne hC (pc := 49) 84 (r_255 hx139) (r_lit rfl) dX14_sign_49 (by decide) (fun c => ?_) (fun c => ?_)
        · have h := hT c
          refine z_iconst hC (pc := 84) (v := Int32.ofInt 0) dX14_sign_84 (by decide) ?_
          refine z_istore_n hC (pc := 85) (lv' := [(3, iv 0), (2, iv 1), (0, .ref (κ 0)), (1, .ref t1)]) dX14_sign_85 rfl (by decide) rfl ?_
          have j86 : ∀ (d86 : Nat), ∀ (s140 : rS) (y141 : Int) (y142 : Int), rWF s140 → rng y141 → rng y142 → rKeep 0x21c00 0 0 0 0 σ s140 → inv_X14_sign_86 σ n1 s140 y141 y142 → (mu_X14_sign_86 σ n1 s140 y141 y142) ≤ d86 → zS X G 4 (rW G κ s140) [(0, .ref (κ 0)), (1, .ref t1), (2, iv y141), (3, iv y142)] 0 0 86 [] := by
            intro d86
            induction d86 with
            | zero =>
              intro s140 y141 y142 Ws140 hy141 hy142 kJ hI hmu
              exact absurd hmu (by have := h_86m  s140 y141 y142 Ws140 hy141 hy142 (kJ.R rfl) (kJ.F rfl) hI; omega)
            | succ d86 ih86 =>
              intro s140 y141 y142 Ws140 hy141 hy142 kJ hI hmu86
              have h := h_86  s140 y141 y142 Ws140 hy141 hy142 (kJ.R rfl) (kJ.F rfl) hI
              refine z_iload_n hC (pc := 86) 3 dX14_sign_86 rfl rfl ?_
              refine z_aload_n hC (pc := 87) 1 dX14_sign_87 rfl rfl ?_
              refine y_slen hC (pc := 88) hs1 dX14_sign_88 zw3021 (Nat.le_of_ble_eq_true rfl) (Nat.le_of_ble_eq_true rfl) (Nat.le_of_ble_eq_true rfl) (Nat.le_of_ble_eq_true rfl) (Nat.le_of_ble_eq_true rfl) ?_
              obtain ⟨hT, hF⟩ := h
              refine y_icmp_ge hC (pc := 91) 129 hy142 (rSt.rng hs1) dX14_sign_91 (by decide) (fun c => ?_) (fun c => ?_)
              · have h := hT c
                refine z_iload_n hC (pc := 129) 2 dX14_sign_129 rfl rfl ?_
                obtain ⟨hT, hF⟩ := h
                refine y_if_eq hC (pc := 130) 149 hy141 dX14_sign_130 (by decide) (fun c => ?_) (fun c => ?_)
                · have h := hT c
                  refine z_aload_n hC (pc := 149) 0 dX14_sign_149 rfl rfl ?_
                  refine z_iconst hC (pc := 150) (v := Int32.ofInt 1) dX14_sign_150 (by decide) ?_
                  refine z_aload_n hC (pc := 151) 0 dX14_sign_151 rfl rfl ?_
                  refine y_get hC (pc := 152) zf14 rOb_0 17 (v := iv (rF s140 0 17)) dX14_sign_152 zw2484 (rv_i (Or.inl rfl) rfl) (kk := ?_)
                  have h := h (Ws140.f _ _)
                  obtain ⟨p143, h⟩ := h
                  refine y_callVv hC (pc := 155) (As := [iv 1, iv (rF s140 0 17)]) (kX14_bad l G κ s140 1 (rF s140 0 17) Ws140 (r_lit rfl) (Ws140.f _ _) p143) dmX14_bad zf14 rOb_0 dX14_sign_155 zw3000 rfl rfl (Nat.le_of_ble_eq_true rfl) (Nat.le_of_ble_eq_true rfl) (Nat.le_of_ble_eq_true rfl) (Nat.le_of_ble_eq_true rfl) (Nat.le_of_ble_eq_true rfl) (kk := fun s144 Ws144 qs144 => ?_)
                  have h := h s144 Ws144 (qs144.1.R rfl) (qs144.1.F rfl) (qs144.1.F rfl) qs144.2
                  exact y_retv hR dX14_sign_158 Ws144 (Nat.le_of_ble_eq_true rfl) (Nat.le_of_ble_eq_true rfl) ⟨(rKeep.tr (rKeep.tr rKeep.rf kJ rfl rfl rfl rfl rfl) qs144.1 rfl rfl rfl rfl rfl), h⟩
                · have h := hF c
                  refine z_aload_n hC (pc := 133) 0 dX14_sign_133 rfl rfl ?_
                  refine z_dup hC (pc := 134) dX14_sign_134 rfl ?_
                  refine y_get hC (pc := 135) zf14 rOb_0 17 (v := iv (rF s140 0 17)) dX14_sign_135 zw2484 (rv_i (Or.inl rfl) rfl) (kk := ?_)
                  have h := h (Ws140.f _ _)
                  refine z_aload_n hC (pc := 138) 1 dX14_sign_138 rfl rfl ?_
                  refine y_slen hC (pc := 139) hs1 dX14_sign_139 zw3021 (Nat.le_of_ble_eq_true rfl) (Nat.le_of_ble_eq_true rfl) (Nat.le_of_ble_eq_true rfl) (Nat.le_of_ble_eq_true rfl) (Nat.le_of_ble_eq_true rfl) ?_
                  refine y_iadd hC (pc := 142) (v := ((rF s140 0 17) + (n1 : Int))) dX14_sign_142 rfl ?_
                  obtain ⟨r146, h⟩ := h
                  refine y_putI hC (pc := 143) zf14 rOb_0 17 (x := ((rF s140 0 17) + (n1 : Int))) dX14_sign_143 zw2484 (Or.inl rfl) rfl rfl (kk := ?_)
                  have W147 := Ws140.sF (q := 0) (f := 17) (x := ((rF s140 0 17) + (n1 : Int))) r146
                  refine z_goto hC (pc := 146) 158 dX14_sign_146 (by decide) ?_
                  exact y_retv hR dX14_sign_158 W147 (Nat.le_of_ble_eq_true rfl) (Nat.le_of_ble_eq_true rfl) ⟨(rKeep.tr (rKeep.tr rKeep.rf kJ rfl rfl rfl rfl rfl) (rKeep.sF0 (f := 17)) rfl rfl rfl rfl rfl), h⟩
              · have h := hF c
                refine z_iload_n hC (pc := 94) 2 dX14_sign_94 rfl rfl ?_
                obtain ⟨hT, hF⟩ := h
                refine y_if_eq hC (pc := 95) 129 hy141 dX14_sign_95 (by decide) (fun c => ?_) (fun c => ?_)
                · have h := hT c
                  refine z_iload_n hC (pc := 129) 2 dX14_sign_129 rfl rfl ?_
                  obtain ⟨hT, hF⟩ := h
                  refine y_if_eq hC (pc := 130) 149 hy141 dX14_sign_130 (by decide) (fun c => ?_) (fun c => ?_)
                  · have h := hT c
                    refine z_aload_n hC (pc := 149) 0 dX14_sign_149 rfl rfl ?_
                    refine z_iconst hC (pc := 150) (v := Int32.ofInt 1) dX14_sign_150 (by decide) ?_
                    refine z_aload_n hC (pc := 151) 0 dX14_sign_151 rfl rfl ?_
                    refine y_get hC (pc := 152) zf14 rOb_0 17 (v := iv (rF s140 0 17)) dX14_sign_152 zw2484 (rv_i (Or.inl rfl) rfl) (kk := ?_)
                    have h := h (Ws140.f _ _)
                    obtain ⟨p148, h⟩ := h
                    refine y_callVv hC (pc := 155) (As := [iv 1, iv (rF s140 0 17)]) (kX14_bad l G κ s140 1 (rF s140 0 17) Ws140 (r_lit rfl) (Ws140.f _ _) p148) dmX14_bad zf14 rOb_0 dX14_sign_155 zw3000 rfl rfl (Nat.le_of_ble_eq_true rfl) (Nat.le_of_ble_eq_true rfl) (Nat.le_of_ble_eq_true rfl) (Nat.le_of_ble_eq_true rfl) (Nat.le_of_ble_eq_true rfl) (kk := fun s149 Ws149 qs149 => ?_)
                    have h := h s149 Ws149 (qs149.1.R rfl) (qs149.1.F rfl) (qs149.1.F rfl) qs149.2
                    exact y_retv hR dX14_sign_158 Ws149 (Nat.le_of_ble_eq_true rfl) (Nat.le_of_ble_eq_true rfl) ⟨(rKeep.tr (rKeep.tr rKeep.rf kJ rfl rfl rfl rfl rfl) qs149.1 rfl rfl rfl rfl rfl), h⟩
                  · have h := hF c
                    refine z_aload_n hC (pc := 133) 0 dX14_sign_133 rfl rfl ?_
                    refine z_dup hC (pc := 134) dX14_sign_134 rfl ?_
                    refine y_get hC (pc := 135) zf14 rOb_0 17 (v := iv (rF s140 0 17)) dX14_sign_135 zw2484 (rv_i (Or.inl rfl) rfl) (kk := ?_)
                    have h := h (Ws140.f _ _)
                    refine z_aload_n hC (pc := 138) 1 dX14_sign_138 rfl rfl ?_
                    refine y_slen hC (pc := 139) hs1 dX14_sign_139 zw3021 (Nat.le_of_ble_eq_true rfl) (Nat.le_of_ble_eq_true rfl) (Nat.le_of_ble_eq_true rfl) (Nat.le_of_ble_eq_true rfl) (Nat.le_of_ble_eq_true rfl) ?_
                    refine y_iadd hC (pc := 142) (v := ((rF s140 0 17) + (n1 : Int))) dX14_sign_142 rfl ?_
                    obtain ⟨r151, h⟩ := h
                    refine y_putI hC (pc := 143) zf14 rOb_0 17 (x := ((rF s140 0 17) + (n1 : Int))) dX14_sign_143 zw2484 (Or.inl rfl) rfl rfl (kk := ?_)
                    have W152 := Ws140.sF (q := 0) (f := 17) (x := ((rF s140 0 17) + (n1 : Int))) r151
                    refine z_goto hC (pc := 146) 158 dX14_sign_146 (by decide) ?_
                    exact y_retv hR dX14_sign_158 W152 (Nat.le_of_ble_eq_true rfl) (Nat.le_of_ble_eq_true rfl) ⟨(rKeep.tr (rKeep.tr rKeep.rf kJ rfl rfl rfl rfl rfl) (rKeep.sF0 (f := 17)) rfl rfl rfl rfl rfl), h⟩
                · have h := hF c
                  refine z_aload_n hC (pc := 98) 0 dX14_sign_98 rfl rfl ?_
                  obtain ⟨g153, h⟩ := h
                  refine y_get hC (pc := 99) zf14 rOb_0 15 (v := .ref (κ (rR s140 15))) dX14_sign_99 zw2482 (rv_b rfl rfl g153) (kk := ?_)
                  refine z_aload_n hC (pc := 102) 0 dX14_sign_102 rfl rfl ?_
                  refine y_get hC (pc := 103) zf14 rOb_0 17 (v := iv (rF s140 0 17)) dX14_sign_103 zw2484 (rv_i (Or.inl rfl) rfl) (kk := ?_)
                  have h := h (Ws140.f _ _)
                  refine z_iload_n hC (pc := 106) 3 dX14_sign_106 rfl rfl ?_
                  refine y_iadd hC (pc := 107) (v := ((rF s140 0 17) + y142)) dX14_sign_107 rfl ?_
                  obtain ⟨b154, h⟩ := h
                  refine y_bald hC (pc := 108) (rAr_f g153) dX14_sign_108 b154 (v := (rA s140 (rR s140 15) ((rF s140 0 17) + y142))) rfl (kk := ?_)
                  have h := h (Ws140.a _ _)
                  refine z_aload_n hC (pc := 109) 1 dX14_sign_109 rfl rfl ?_
                  refine z_iload_n hC (pc := 110) 3 dX14_sign_110 rfl rfl ?_
                  obtain ⟨b155, h⟩ := h
                  refine y_char hC (pc := 111) (i := y142) hs1 b155 dX14_sign_111 zw3022 (Nat.le_of_ble_eq_true rfl) (Nat.le_of_ble_eq_true rfl) (Nat.le_of_ble_eq_true rfl) (Nat.le_of_ble_eq_true rfl) (Nat.le_of_ble_eq_true rfl) (fun x156 hx156 => ?_)
                  have h := h x156 hx156
                  obtain ⟨hT, hF⟩ := h
                  refine y_icmp_ne hC (pc := 114) 121 (Ws140.a _ _) (r_255 hx156) dX14_sign_114 (by decide) (fun c => ?_) (fun c => ?_)
                  · have h := hT c
                    refine z_iconst hC (pc := 121) (v := Int32.ofInt 0) dX14_sign_121 (by decide) ?_
                    refine z_istore_n hC (pc := 122) (lv' := [(2, iv 0), (0, .ref (κ 0)), (1, .ref t1), (3, iv y142)]) dX14_sign_122 rfl (by decide) rfl ?_
                    refine y_iinc hC (pc := 123) (v := (y142 + 1)) (lv' := [(3, iv (y142 + 1)), (2, iv 0), (0, .ref (κ 0)), (1, .ref t1)]) 3 dX14_sign_123 rfl rfl (by decide) rfl ?_
                    refine z_goto hC (pc := 126) 86 dX14_sign_126 (by decide) ?_
                    refine z_lvs [2, 3, 1, 0] rfl ?_
                    obtain ⟨r157, h⟩ := h
                    obtain ⟨hI, hm⟩ := h
                    exact ih86 s140 0 (y142 + 1) Ws140 (r_lit rfl) r157 (rKeep.tr rKeep.rf kJ rfl rfl rfl rfl rfl) hI (by omega)
                  · have h := hF c
                    refine z_iconst hC (pc := 117) (v := Int32.ofInt 1) dX14_sign_117 (by decide) ?_
                    refine z_goto hC (pc := 118) 122 dX14_sign_118 (by decide) ?_
                    refine z_istore_n hC (pc := 122) (lv' := [(2, iv 1), (0, .ref (κ 0)), (1, .ref t1), (3, iv y142)]) dX14_sign_122 rfl (by decide) rfl ?_
                    refine y_iinc hC (pc := 123) (v := (y142 + 1)) (lv' := [(3, iv (y142 + 1)), (2, iv 1), (0, .ref (κ 0)), (1, .ref t1)]) 3 dX14_sign_123 rfl rfl (by decide) rfl ?_
                    refine z_goto hC (pc := 126) 86 dX14_sign_126 (by decide) ?_
                    refine z_lvs [2, 3, 1, 0] rfl ?_
                    obtain ⟨r158, h⟩ := h
                    obtain ⟨hI, hm⟩ := h
                    exact ih86 s140 1 (y142 + 1) Ws140 (r_lit rfl) r158 (rKeep.tr rKeep.rf kJ rfl rfl rfl rfl rfl) hI (by omega)
          refine z_lvs [2, 3, 1, 0] rfl ?_
          exact j86 _ s11 1 0 Ws11 (r_lit rfl) (r_lit rfl) (rKeep.tr rKeep.rf qs11.1 rfl rfl rfl rfl rfl) h (Nat.le_refl _)
        · have h := hF c
          refine z_aload_n hC (pc := 52) 1 dX14_sign_52 rfl rfl ?_
          refine z_aload_n hC (pc := 53) 1 dX14_sign_53 rfl rfl ?_
          refine y_get hC (pc := 54) zf14 rOb_0 17 (v := iv (rF s11 0 17)) dX14_sign_54 zw2484 (rv_i (Or.inl rfl) rfl) (kk := ?_)
          refine z_iconst hC (pc := 57) (v := Int32.ofInt 1) dX14_sign_57 (by decide) ?_
          refine y_iadd hC (pc := 58) (v := ((rF s11 0 17) + 1)) dX14_sign_58 rfl ?_
          obtain ⟨r159, h⟩ := h
          obtain ⟨p160, h⟩ := h
          refine y_callVi hC (pc := 59) (As := [iv ((rF s11 0 17) + 1)]) (kX14_fc l G κ s11 ((rF s11 0 17) + 1) Ws11 r159 p160) dmX14_fc zf14 rOb_0 dX14_sign_59 zw2993 rfl rfl (Nat.le_of_ble_eq_true rfl) (Nat.le_of_ble_eq_true rfl) (Nat.le_of_ble_eq_true rfl) (Nat.le_of_ble_eq_true rfl) (Nat.le_of_ble_eq_true rfl) (kk := fun x162 s161 hx162 Ws161 qs161 => ?_)
          obtain ⟨es161, qs161⟩ := qs161
          have es161 := es161.symm
          subst es161
          have h := h x162 hx162 qs161
          refine z_bipush hC (pc := 62) (v := Int32.ofInt 58) dX14_sign_62 (by decide) ?_
          obtain ⟨hT, hF⟩ := h
          refine y_icmp_ne hC (pc := 64) 84 hx162 (r_lit rfl) dX14_sign_64 (by decide) (fun c => ?_) (fun c => ?_)
          · have h := hT c
            refine z_iconst hC (pc := 84) (v := Int32.ofInt 0) dX14_sign_84 (by decide) ?_
            refine z_istore_n hC (pc := 85) (lv' := [(3, iv 0), (2, iv 1), (0, .ref (κ 0)), (1, .ref t1)]) dX14_sign_85 rfl (by decide) rfl ?_
            have j86 : ∀ (d86 : Nat), ∀ (s163 : rS) (y164 : Int) (y165 : Int), rWF s163 → rng y164 → rng y165 → rKeep 0x21c00 0 0 0 0 σ s163 → inv_X14_sign_86 σ n1 s163 y164 y165 → (mu_X14_sign_86 σ n1 s163 y164 y165) ≤ d86 → zS X G 4 (rW G κ s163) [(0, .ref (κ 0)), (1, .ref t1), (2, iv y164), (3, iv y165)] 0 0 86 [] := by
              intro d86
              induction d86 with
              | zero =>
                intro s163 y164 y165 Ws163 hy164 hy165 kJ hI hmu
                exact absurd hmu (by have := h_86m  s163 y164 y165 Ws163 hy164 hy165 (kJ.R rfl) (kJ.F rfl) hI; omega)
              | succ d86 ih86 =>
                intro s163 y164 y165 Ws163 hy164 hy165 kJ hI hmu86
                have h := h_86  s163 y164 y165 Ws163 hy164 hy165 (kJ.R rfl) (kJ.F rfl) hI
                refine z_iload_n hC (pc := 86) 3 dX14_sign_86 rfl rfl ?_
                refine z_aload_n hC (pc := 87) 1 dX14_sign_87 rfl rfl ?_
                refine y_slen hC (pc := 88) hs1 dX14_sign_88 zw3021 (Nat.le_of_ble_eq_true rfl) (Nat.le_of_ble_eq_true rfl) (Nat.le_of_ble_eq_true rfl) (Nat.le_of_ble_eq_true rfl) (Nat.le_of_ble_eq_true rfl) ?_
                obtain ⟨hT, hF⟩ := h
                refine y_icmp_ge hC (pc := 91) 129 hy165 (rSt.rng hs1) dX14_sign_91 (by decide) (fun c => ?_) (fun c => ?_)
                · have h := hT c
                  refine z_iload_n hC (pc := 129) 2 dX14_sign_129 rfl rfl ?_
                  obtain ⟨hT, hF⟩ := h
                  refine y_if_eq hC (pc := 130) 149 hy164 dX14_sign_130 (by decide) (fun c => ?_) (fun c => ?_)
                  · have h := hT c
                    refine z_aload_n hC (pc := 149) 0 dX14_sign_149 rfl rfl ?_
                    refine z_iconst hC (pc := 150) (v := Int32.ofInt 1) dX14_sign_150 (by decide) ?_
                    refine z_aload_n hC (pc := 151) 0 dX14_sign_151 rfl rfl ?_
                    refine y_get hC (pc := 152) zf14 rOb_0 17 (v := iv (rF s163 0 17)) dX14_sign_152 zw2484 (rv_i (Or.inl rfl) rfl) (kk := ?_)
                    have h := h (Ws163.f _ _)
                    obtain ⟨p166, h⟩ := h
                    refine y_callVv hC (pc := 155) (As := [iv 1, iv (rF s163 0 17)]) (kX14_bad l G κ s163 1 (rF s163 0 17) Ws163 (r_lit rfl) (Ws163.f _ _) p166) dmX14_bad zf14 rOb_0 dX14_sign_155 zw3000 rfl rfl (Nat.le_of_ble_eq_true rfl) (Nat.le_of_ble_eq_true rfl) (Nat.le_of_ble_eq_true rfl) (Nat.le_of_ble_eq_true rfl) (Nat.le_of_ble_eq_true rfl) (kk := fun s167 Ws167 qs167 => ?_)
                    have h := h s167 Ws167 (qs167.1.R rfl) (qs167.1.F rfl) (qs167.1.F rfl) qs167.2
                    exact y_retv hR dX14_sign_158 Ws167 (Nat.le_of_ble_eq_true rfl) (Nat.le_of_ble_eq_true rfl) ⟨(rKeep.tr (rKeep.tr rKeep.rf kJ rfl rfl rfl rfl rfl) qs167.1 rfl rfl rfl rfl rfl), h⟩
                  · have h := hF c
                    refine z_aload_n hC (pc := 133) 0 dX14_sign_133 rfl rfl ?_
                    refine z_dup hC (pc := 134) dX14_sign_134 rfl ?_
                    refine y_get hC (pc := 135) zf14 rOb_0 17 (v := iv (rF s163 0 17)) dX14_sign_135 zw2484 (rv_i (Or.inl rfl) rfl) (kk := ?_)
                    have h := h (Ws163.f _ _)
                    refine z_aload_n hC (pc := 138) 1 dX14_sign_138 rfl rfl ?_
                    refine y_slen hC (pc := 139) hs1 dX14_sign_139 zw3021 (Nat.le_of_ble_eq_true rfl) (Nat.le_of_ble_eq_true rfl) (Nat.le_of_ble_eq_true rfl) (Nat.le_of_ble_eq_true rfl) (Nat.le_of_ble_eq_true rfl) ?_
                    refine y_iadd hC (pc := 142) (v := ((rF s163 0 17) + (n1 : Int))) dX14_sign_142 rfl ?_
                    obtain ⟨r169, h⟩ := h
                    refine y_putI hC (pc := 143) zf14 rOb_0 17 (x := ((rF s163 0 17) + (n1 : Int))) dX14_sign_143 zw2484 (Or.inl rfl) rfl rfl (kk := ?_)
                    have W170 := Ws163.sF (q := 0) (f := 17) (x := ((rF s163 0 17) + (n1 : Int))) r169
                    refine z_goto hC (pc := 146) 158 dX14_sign_146 (by decide) ?_
                    exact y_retv hR dX14_sign_158 W170 (Nat.le_of_ble_eq_true rfl) (Nat.le_of_ble_eq_true rfl) ⟨(rKeep.tr (rKeep.tr rKeep.rf kJ rfl rfl rfl rfl rfl) (rKeep.sF0 (f := 17)) rfl rfl rfl rfl rfl), h⟩
                · have h := hF c
                  refine z_iload_n hC (pc := 94) 2 dX14_sign_94 rfl rfl ?_
                  obtain ⟨hT, hF⟩ := h
                  refine y_if_eq hC (pc := 95) 129 hy164 dX14_sign_95 (by decide) (fun c => ?_) (fun c => ?_)
                  · have h := hT c
                    refine z_iload_n hC (pc := 129) 2 dX14_sign_129 rfl rfl ?_
                    obtain ⟨hT, hF⟩ := h
                    refine y_if_eq hC (pc := 130) 149 hy164 dX14_sign_130 (by decide) (fun c => ?_) (fun c => ?_)
                    · have h := hT c
                      refine z_aload_n hC (pc := 149) 0 dX14_sign_149 rfl rfl ?_
                      refine z_iconst hC (pc := 150) (v := Int32.ofInt 1) dX14_sign_150 (by decide) ?_
                      refine z_aload_n hC (pc := 151) 0 dX14_sign_151 rfl rfl ?_
                      refine y_get hC (pc := 152) zf14 rOb_0 17 (v := iv (rF s163 0 17)) dX14_sign_152 zw2484 (rv_i (Or.inl rfl) rfl) (kk := ?_)
                      have h := h (Ws163.f _ _)
                      obtain ⟨p171, h⟩ := h
                      refine y_callVv hC (pc := 155) (As := [iv 1, iv (rF s163 0 17)]) (kX14_bad l G κ s163 1 (rF s163 0 17) Ws163 (r_lit rfl) (Ws163.f _ _) p171) dmX14_bad zf14 rOb_0 dX14_sign_155 zw3000 rfl rfl (Nat.le_of_ble_eq_true rfl) (Nat.le_of_ble_eq_true rfl) (Nat.le_of_ble_eq_true rfl) (Nat.le_of_ble_eq_true rfl) (Nat.le_of_ble_eq_true rfl) (kk := fun s172 Ws172 qs172 => ?_)
                      have h := h s172 Ws172 (qs172.1.R rfl) (qs172.1.F rfl) (qs172.1.F rfl) qs172.2
                      exact y_retv hR dX14_sign_158 Ws172 (Nat.le_of_ble_eq_true rfl) (Nat.le_of_ble_eq_true rfl) ⟨(rKeep.tr (rKeep.tr rKeep.rf kJ rfl rfl rfl rfl rfl) qs172.1 rfl rfl rfl rfl rfl), h⟩
                    · have h := hF c
                      refine z_aload_n hC (pc := 133) 0 dX14_sign_133 rfl rfl ?_
                      refine z_dup hC (pc := 134) dX14_sign_134 rfl ?_
                      refine y_get hC (pc := 135) zf14 rOb_0 17 (v := iv (rF s163 0 17)) dX14_sign_135 zw2484 (rv_i (Or.inl rfl) rfl) (kk := ?_)
                      have h := h (Ws163.f _ _)
                      refine z_aload_n hC (pc := 138) 1 dX14_sign_138 rfl rfl ?_
                      refine y_slen hC (pc := 139) hs1 dX14_sign_139 zw3021 (Nat.le_of_ble_eq_true rfl) (Nat.le_of_ble_eq_true rfl) (Nat.le_of_ble_eq_true rfl) (Nat.le_of_ble_eq_true rfl) (Nat.le_of_ble_eq_true rfl) ?_
                      refine y_iadd hC (pc := 142) (v := ((rF s163 0 17) + (n1 : Int))) dX14_sign_142 rfl ?_
                      obtain ⟨r174, h⟩ := h
                      refine y_putI hC (pc := 143) zf14 rOb_0 17 (x := ((rF s163 0 17) + (n1 : Int))) dX14_sign_143 zw2484 (Or.inl rfl) rfl rfl (kk := ?_)
                      have W175 := Ws163.sF (q := 0) (f := 17) (x := ((rF s163 0 17) + (n1 : Int))) r174
                      refine z_goto hC (pc := 146) 158 dX14_sign_146 (by decide) ?_
                      exact y_retv hR dX14_sign_158 W175 (Nat.le_of_ble_eq_true rfl) (Nat.le_of_ble_eq_true rfl) ⟨(rKeep.tr (rKeep.tr rKeep.rf kJ rfl rfl rfl rfl rfl) (rKeep.sF0 (f := 17)) rfl rfl rfl rfl rfl), h⟩
                  · have h := hF c
                    refine z_aload_n hC (pc := 98) 0 dX14_sign_98 rfl rfl ?_
                    obtain ⟨g176, h⟩ := h
                    refine y_get hC (pc := 99) zf14 rOb_0 15 (v := .ref (κ (rR s163 15))) dX14_sign_99 zw2482 (rv_b rfl rfl g176) (kk := ?_)
                    refine z_aload_n hC (pc := 102) 0 dX14_sign_102 rfl rfl ?_
                    refine y_get hC (pc := 103) zf14 rOb_0 17 (v := iv (rF s163 0 17)) dX14_sign_103 zw2484 (rv_i (Or.inl rfl) rfl) (kk := ?_)
                    have h := h (Ws163.f _ _)
                    refine z_iload_n hC (pc := 106) 3 dX14_sign_106 rfl rfl ?_
                    refine y_iadd hC (pc := 107) (v := ((rF s163 0 17) + y165)) dX14_sign_107 rfl ?_
                    obtain ⟨b177, h⟩ := h
                    refine y_bald hC (pc := 108) (rAr_f g176) dX14_sign_108 b177 (v := (rA s163 (rR s163 15) ((rF s163 0 17) + y165))) rfl (kk := ?_)
                    have h := h (Ws163.a _ _)
                    refine z_aload_n hC (pc := 109) 1 dX14_sign_109 rfl rfl ?_
                    refine z_iload_n hC (pc := 110) 3 dX14_sign_110 rfl rfl ?_
                    obtain ⟨b178, h⟩ := h
                    refine y_char hC (pc := 111) (i := y165) hs1 b178 dX14_sign_111 zw3022 (Nat.le_of_ble_eq_true rfl) (Nat.le_of_ble_eq_true rfl) (Nat.le_of_ble_eq_true rfl) (Nat.le_of_ble_eq_true rfl) (Nat.le_of_ble_eq_true rfl) (fun x179 hx179 => ?_)
                    have h := h x179 hx179
                    obtain ⟨hT, hF⟩ := h
                    refine y_icmp_ne hC (pc := 114) 121 (Ws163.a _ _) (r_255 hx179) dX14_sign_114 (by decide) (fun c => ?_) (fun c => ?_)
                    · have h := hT c
                      refine z_iconst hC (pc := 121) (v := Int32.ofInt 0) dX14_sign_121 (by decide) ?_
                      refine z_istore_n hC (pc := 122) (lv' := [(2, iv 0), (0, .ref (κ 0)), (1, .ref t1), (3, iv y165)]) dX14_sign_122 rfl (by decide) rfl ?_
                      refine y_iinc hC (pc := 123) (v := (y165 + 1)) (lv' := [(3, iv (y165 + 1)), (2, iv 0), (0, .ref (κ 0)), (1, .ref t1)]) 3 dX14_sign_123 rfl rfl (by decide) rfl ?_
                      refine z_goto hC (pc := 126) 86 dX14_sign_126 (by decide) ?_
                      refine z_lvs [2, 3, 1, 0] rfl ?_
                      obtain ⟨r180, h⟩ := h
                      obtain ⟨hI, hm⟩ := h
                      exact ih86 s163 0 (y165 + 1) Ws163 (r_lit rfl) r180 (rKeep.tr rKeep.rf kJ rfl rfl rfl rfl rfl) hI (by omega)
                    · have h := hF c
                      refine z_iconst hC (pc := 117) (v := Int32.ofInt 1) dX14_sign_117 (by decide) ?_
                      refine z_goto hC (pc := 118) 122 dX14_sign_118 (by decide) ?_
                      refine z_istore_n hC (pc := 122) (lv' := [(2, iv 1), (0, .ref (κ 0)), (1, .ref t1), (3, iv y165)]) dX14_sign_122 rfl (by decide) rfl ?_
                      refine y_iinc hC (pc := 123) (v := (y165 + 1)) (lv' := [(3, iv (y165 + 1)), (2, iv 1), (0, .ref (κ 0)), (1, .ref t1)]) 3 dX14_sign_123 rfl rfl (by decide) rfl ?_
                      refine z_goto hC (pc := 126) 86 dX14_sign_126 (by decide) ?_
                      refine z_lvs [2, 3, 1, 0] rfl ?_
                      obtain ⟨r181, h⟩ := h
                      obtain ⟨hI, hm⟩ := h
                      exact ih86 s163 1 (y165 + 1) Ws163 (r_lit rfl) r181 (rKeep.tr rKeep.rf kJ rfl rfl rfl rfl rfl) hI (by omega)
            refine z_lvs [2, 3, 1, 0] rfl ?_
            exact j86 _ s11 1 0 Ws11 (r_lit rfl) (r_lit rfl) (rKeep.tr rKeep.rf qs11.1 rfl rfl rfl rfl rfl) h (Nat.le_refl _)
          · have h := hF c
            refine z_aload_n hC (pc := 67) 1 dX14_sign_67 rfl rfl ?_
            refine z_aload_n hC (pc := 68) 1 dX14_sign_68 rfl rfl ?_
            refine y_get hC (pc := 69) zf14 rOb_0 17 (v := iv (rF s11 0 17)) dX14_sign_69 zw2484 (rv_i (Or.inl rfl) rfl) (kk := ?_)
            refine z_iconst hC (pc := 72) (v := Int32.ofInt 2) dX14_sign_72 (by decide) ?_
            refine y_iadd hC (pc := 73) (v := ((rF s11 0 17) + 2)) dX14_sign_73 rfl ?_
            obtain ⟨r182, h⟩ := h
            obtain ⟨p183, h⟩ := h
            refine y_callVi hC (pc := 74) (As := [iv ((rF s11 0 17) + 2)]) (kX14_fc l G κ s11 ((rF s11 0 17) + 2) Ws11 r182 p183) dmX14_fc zf14 rOb_0 dX14_sign_74 zw2993 rfl rfl (Nat.le_of_ble_eq_true rfl) (Nat.le_of_ble_eq_true rfl) (Nat.le_of_ble_eq_true rfl) (Nat.le_of_ble_eq_true rfl) (Nat.le_of_ble_eq_true rfl) (kk := fun x185 s184 hx185 Ws184 qs184 => ?_)
            obtain ⟨es184, qs184⟩ := qs184
            have es184 := es184.symm
            subst es184
            have h := h x185 hx185 qs184
            refine z_bipush hC (pc := 77) (v := Int32.ofInt 61) dX14_sign_77 (by decide) ?_
            obtain ⟨hT, hF⟩ := h
            refine y_icmp_ne hC (pc := 79) 84 hx185 (r_lit rfl) dX14_sign_79 (by decide) (fun c => ?_) (fun c => ?_)
            · have h := hT c
              refine z_iconst hC (pc := 84) (v := Int32.ofInt 0) dX14_sign_84 (by decide) ?_
              refine z_istore_n hC (pc := 85) (lv' := [(3, iv 0), (2, iv 1), (0, .ref (κ 0)), (1, .ref t1)]) dX14_sign_85 rfl (by decide) rfl ?_
              have j86 : ∀ (d86 : Nat), ∀ (s186 : rS) (y187 : Int) (y188 : Int), rWF s186 → rng y187 → rng y188 → rKeep 0x21c00 0 0 0 0 σ s186 → inv_X14_sign_86 σ n1 s186 y187 y188 → (mu_X14_sign_86 σ n1 s186 y187 y188) ≤ d86 → zS X G 4 (rW G κ s186) [(0, .ref (κ 0)), (1, .ref t1), (2, iv y187), (3, iv y188)] 0 0 86 [] := by
                intro d86
                induction d86 with
                | zero =>
                  intro s186 y187 y188 Ws186 hy187 hy188 kJ hI hmu
                  exact absurd hmu (by have := h_86m  s186 y187 y188 Ws186 hy187 hy188 (kJ.R rfl) (kJ.F rfl) hI; omega)
                | succ d86 ih86 =>
                  intro s186 y187 y188 Ws186 hy187 hy188 kJ hI hmu86
                  have h := h_86  s186 y187 y188 Ws186 hy187 hy188 (kJ.R rfl) (kJ.F rfl) hI
                  refine z_iload_n hC (pc := 86) 3 dX14_sign_86 rfl rfl ?_
                  refine z_aload_n hC (pc := 87) 1 dX14_sign_87 rfl rfl ?_
                  refine y_slen hC (pc := 88) hs1 dX14_sign_88 zw3021 (Nat.le_of_ble_eq_true rfl) (Nat.le_of_ble_eq_true rfl) (Nat.le_of_ble_eq_true rfl) (Nat.le_of_ble_eq_true rfl) (Nat.le_of_ble_eq_true rfl) ?_
                  obtain ⟨hT, hF⟩ := h
                  refine y_icmp_ge hC (pc := 91) 129 hy188 (rSt.rng hs1) dX14_sign_91 (by decide) (fun c => ?_) (fun c => ?_)
                  · have h := hT c
                    refine z_iload_n hC (pc := 129) 2 dX14_sign_129 rfl rfl ?_
                    obtain ⟨hT, hF⟩ := h
                    refine y_if_eq hC (pc := 130) 149 hy187 dX14_sign_130 (by decide) (fun c => ?_) (fun c => ?_)
                    · have h := hT c
                      refine z_aload_n hC (pc := 149) 0 dX14_sign_149 rfl rfl ?_
                      refine z_iconst hC (pc := 150) (v := Int32.ofInt 1) dX14_sign_150 (by decide) ?_
                      refine z_aload_n hC (pc := 151) 0 dX14_sign_151 rfl rfl ?_
                      refine y_get hC (pc := 152) zf14 rOb_0 17 (v := iv (rF s186 0 17)) dX14_sign_152 zw2484 (rv_i (Or.inl rfl) rfl) (kk := ?_)
                      have h := h (Ws186.f _ _)
                      obtain ⟨p189, h⟩ := h
                      refine y_callVv hC (pc := 155) (As := [iv 1, iv (rF s186 0 17)]) (kX14_bad l G κ s186 1 (rF s186 0 17) Ws186 (r_lit rfl) (Ws186.f _ _) p189) dmX14_bad zf14 rOb_0 dX14_sign_155 zw3000 rfl rfl (Nat.le_of_ble_eq_true rfl) (Nat.le_of_ble_eq_true rfl) (Nat.le_of_ble_eq_true rfl) (Nat.le_of_ble_eq_true rfl) (Nat.le_of_ble_eq_true rfl) (kk := fun s190 Ws190 qs190 => ?_)
                      have h := h s190 Ws190 (qs190.1.R rfl) (qs190.1.F rfl) (qs190.1.F rfl) qs190.2
                      exact y_retv hR dX14_sign_158 Ws190 (Nat.le_of_ble_eq_true rfl) (Nat.le_of_ble_eq_true rfl) ⟨(rKeep.tr (rKeep.tr rKeep.rf kJ rfl rfl rfl rfl rfl) qs190.1 rfl rfl rfl rfl rfl), h⟩
                    · have h := hF c
                      refine z_aload_n hC (pc := 133) 0 dX14_sign_133 rfl rfl ?_
                      refine z_dup hC (pc := 134) dX14_sign_134 rfl ?_
                      refine y_get hC (pc := 135) zf14 rOb_0 17 (v := iv (rF s186 0 17)) dX14_sign_135 zw2484 (rv_i (Or.inl rfl) rfl) (kk := ?_)
                      have h := h (Ws186.f _ _)
                      refine z_aload_n hC (pc := 138) 1 dX14_sign_138 rfl rfl ?_
                      refine y_slen hC (pc := 139) hs1 dX14_sign_139 zw3021 (Nat.le_of_ble_eq_true rfl) (Nat.le_of_ble_eq_true rfl) (Nat.le_of_ble_eq_true rfl) (Nat.le_of_ble_eq_true rfl) (Nat.le_of_ble_eq_true rfl) ?_
                      refine y_iadd hC (pc := 142) (v := ((rF s186 0 17) + (n1 : Int))) dX14_sign_142 rfl ?_
                      obtain ⟨r192, h⟩ := h
                      refine y_putI hC (pc := 143) zf14 rOb_0 17 (x := ((rF s186 0 17) + (n1 : Int))) dX14_sign_143 zw2484 (Or.inl rfl) rfl rfl (kk := ?_)
                      have W193 := Ws186.sF (q := 0) (f := 17) (x := ((rF s186 0 17) + (n1 : Int))) r192
                      refine z_goto hC (pc := 146) 158 dX14_sign_146 (by decide) ?_
                      exact y_retv hR dX14_sign_158 W193 (Nat.le_of_ble_eq_true rfl) (Nat.le_of_ble_eq_true rfl) ⟨(rKeep.tr (rKeep.tr rKeep.rf kJ rfl rfl rfl rfl rfl) (rKeep.sF0 (f := 17)) rfl rfl rfl rfl rfl), h⟩
                  · have h := hF c
                    refine z_iload_n hC (pc := 94) 2 dX14_sign_94 rfl rfl ?_
                    obtain ⟨hT, hF⟩ := h
                    refine y_if_eq hC (pc := 95) 129 hy187 dX14_sign_95 (by decide) (fun c => ?_) (fun c => ?_)
                    · have h := hT c
                      refine z_iload_n hC (pc := 129) 2 dX14_sign_129 rfl rfl ?_
                      obtain ⟨hT, hF⟩ := h
                      refine y_if_eq hC (pc := 130) 149 hy187 dX14_sign_130 (by decide) (fun c => ?_) (fun c => ?_)
                      · have h := hT c
                        refine z_aload_n hC (pc := 149) 0 dX14_sign_149 rfl rfl ?_
                        refine z_iconst hC (pc := 150) (v := Int32.ofInt 1) dX14_sign_150 (by decide) ?_
                        refine z_aload_n hC (pc := 151) 0 dX14_sign_151 rfl rfl ?_
                        refine y_get hC (pc := 152) zf14 rOb_0 17 (v := iv (rF s186 0 17)) dX14_sign_152 zw2484 (rv_i (Or.inl rfl) rfl) (kk := ?_)
                        have h := h (Ws186.f _ _)
                        obtain ⟨p194, h⟩ := h
                        refine y_callVv hC (pc := 155) (As := [iv 1, iv (rF s186 0 17)]) (kX14_bad l G κ s186 1 (rF s186 0 17) Ws186 (r_lit rfl) (Ws186.f _ _) p194) dmX14_bad zf14 rOb_0 dX14_sign_155 zw3000 rfl rfl (Nat.le_of_ble_eq_true rfl) (Nat.le_of_ble_eq_true rfl) (Nat.le_of_ble_eq_true rfl) (Nat.le_of_ble_eq_true rfl) (Nat.le_of_ble_eq_true rfl) (kk := fun s195 Ws195 qs195 => ?_)
                        have h := h s195 Ws195 (qs195.1.R rfl) (qs195.1.F rfl) (qs195.1.F rfl) qs195.2
                        exact y_retv hR dX14_sign_158 Ws195 (Nat.le_of_ble_eq_true rfl) (Nat.le_of_ble_eq_true rfl) ⟨(rKeep.tr (rKeep.tr rKeep.rf kJ rfl rfl rfl rfl rfl) qs195.1 rfl rfl rfl rfl rfl), h⟩
                      · have h := hF c
                        refine z_aload_n hC (pc := 133) 0 dX14_sign_133 rfl rfl ?_
                        refine z_dup hC (pc := 134) dX14_sign_134 rfl ?_
                        refine y_get hC (pc := 135) zf14 rOb_0 17 (v := iv (rF s186 0 17)) dX14_sign_135 zw2484 (rv_i (Or.inl rfl) rfl) (kk := ?_)
                        have h := h (Ws186.f _ _)
                        refine z_aload_n hC (pc := 138) 1 dX14_sign_138 rfl rfl ?_
                        refine y_slen hC (pc := 139) hs1 dX14_sign_139 zw3021 (Nat.le_of_ble_eq_true rfl) (Nat.le_of_ble_eq_true rfl) (Nat.le_of_ble_eq_true rfl) (Nat.le_of_ble_eq_true rfl) (Nat.le_of_ble_eq_true rfl) ?_
                        refine y_iadd hC (pc := 142) (v := ((rF s186 0 17) + (n1 : Int))) dX14_sign_142 rfl ?_
                        obtain ⟨r197, h⟩ := h
                        refine y_putI hC (pc := 143) zf14 rOb_0 17 (x := ((rF s186 0 17) + (n1 : Int))) dX14_sign_143 zw2484 (Or.inl rfl) rfl rfl (kk := ?_)
                        have W198 := Ws186.sF (q := 0) (f := 17) (x := ((rF s186 0 17) + (n1 : Int))) r197
                        refine z_goto hC (pc := 146) 158 dX14_sign_146 (by decide) ?_
                        exact y_retv hR dX14_sign_158 W198 (Nat.le_of_ble_eq_true rfl) (Nat.le_of_ble_eq_true rfl) ⟨(rKeep.tr (rKeep.tr rKeep.rf kJ rfl rfl rfl rfl rfl) (rKeep.sF0 (f := 17)) rfl rfl rfl rfl rfl), h⟩
                    · have h := hF c
                      refine z_aload_n hC (pc := 98) 0 dX14_sign_98 rfl rfl ?_
                      obtain ⟨g199, h⟩ := h
                      refine y_get hC (pc := 99) zf14 rOb_0 15 (v := .ref (κ (rR s186 15))) dX14_sign_99 zw2482 (rv_b rfl rfl g199) (kk := ?_)
                      refine z_aload_n hC (pc := 102) 0 dX14_sign_102 rfl rfl ?_
                      refine y_get hC (pc := 103) zf14 rOb_0 17 (v := iv (rF s186 0 17)) dX14_sign_103 zw2484 (rv_i (Or.inl rfl) rfl) (kk := ?_)
                      have h := h (Ws186.f _ _)
                      refine z_iload_n hC (pc := 106) 3 dX14_sign_106 rfl rfl ?_
                      refine y_iadd hC (pc := 107) (v := ((rF s186 0 17) + y188)) dX14_sign_107 rfl ?_
                      obtain ⟨b200, h⟩ := h
                      refine y_bald hC (pc := 108) (rAr_f g199) dX14_sign_108 b200 (v := (rA s186 (rR s186 15) ((rF s186 0 17) + y188))) rfl (kk := ?_)
                      have h := h (Ws186.a _ _)
                      refine z_aload_n hC (pc := 109) 1 dX14_sign_109 rfl rfl ?_
                      refine z_iload_n hC (pc := 110) 3 dX14_sign_110 rfl rfl ?_
                      obtain ⟨b201, h⟩ := h
                      refine y_char hC (pc := 111) (i := y188) hs1 b201 dX14_sign_111 zw3022 (Nat.le_of_ble_eq_true rfl) (Nat.le_of_ble_eq_true rfl) (Nat.le_of_ble_eq_true rfl) (Nat.le_of_ble_eq_true rfl) (Nat.le_of_ble_eq_true rfl) (fun x202 hx202 => ?_)
                      have h := h x202 hx202
                      obtain ⟨hT, hF⟩ := h
                      refine y_icmp_ne hC (pc := 114) 121 (Ws186.a _ _) (r_255 hx202) dX14_sign_114 (by decide) (fun c => ?_) (fun c => ?_)
                      · have h := hT c
                        refine z_iconst hC (pc := 121) (v := Int32.ofInt 0) dX14_sign_121 (by decide) ?_
                        refine z_istore_n hC (pc := 122) (lv' := [(2, iv 0), (0, .ref (κ 0)), (1, .ref t1), (3, iv y188)]) dX14_sign_122 rfl (by decide) rfl ?_
                        refine y_iinc hC (pc := 123) (v := (y188 + 1)) (lv' := [(3, iv (y188 + 1)), (2, iv 0), (0, .ref (κ 0)), (1, .ref t1)]) 3 dX14_sign_123 rfl rfl (by decide) rfl ?_
                        refine z_goto hC (pc := 126) 86 dX14_sign_126 (by decide) ?_
                        refine z_lvs [2, 3, 1, 0] rfl ?_
                        obtain ⟨r203, h⟩ := h
                        obtain ⟨hI, hm⟩ := h
                        exact ih86 s186 0 (y188 + 1) Ws186 (r_lit rfl) r203 (rKeep.tr rKeep.rf kJ rfl rfl rfl rfl rfl) hI (by omega)
                      · have h := hF c
                        refine z_iconst hC (pc := 117) (v := Int32.ofInt 1) dX14_sign_117 (by decide) ?_
                        refine z_goto hC (pc := 118) 122 dX14_sign_118 (by decide) ?_
                        refine z_istore_n hC (pc := 122) (lv' := [(2, iv 1), (0, .ref (κ 0)), (1, .ref t1), (3, iv y188)]) dX14_sign_122 rfl (by decide) rfl ?_
                        refine y_iinc hC (pc := 123) (v := (y188 + 1)) (lv' := [(3, iv (y188 + 1)), (2, iv 1), (0, .ref (κ 0)), (1, .ref t1)]) 3 dX14_sign_123 rfl rfl (by decide) rfl ?_
                        refine z_goto hC (pc := 126) 86 dX14_sign_126 (by decide) ?_
                        refine z_lvs [2, 3, 1, 0] rfl ?_
                        obtain ⟨r204, h⟩ := h
                        obtain ⟨hI, hm⟩ := h
                        exact ih86 s186 1 (y188 + 1) Ws186 (r_lit rfl) r204 (rKeep.tr rKeep.rf kJ rfl rfl rfl rfl rfl) hI (by omega)
              refine z_lvs [2, 3, 1, 0] rfl ?_
              exact j86 _ s11 1 0 Ws11 (r_lit rfl) (r_lit rfl) (rKeep.tr rKeep.rf qs11.1 rfl rfl rfl rfl rfl) h (Nat.le_refl _)
            · have h := hF c
              refine z_iconst hC (pc := 82) (v := Int32.ofInt 0) dX14_sign_82 (by decide) ?_
              refine z_istore_n hC (pc := 83) (lv' := [(2, iv 0), (0, .ref (κ 0)), (1, .ref t1)]) dX14_sign_83 rfl (by decide) rfl ?_
              refine z_iconst hC (pc := 84) (v := Int32.ofInt 0) dX14_sign_84 (by decide) ?_
              refine z_istore_n hC (pc := 85) (lv' := [(3, iv 0), (2, iv 0), (0, .ref (κ 0)), (1, .ref t1)]) dX14_sign_85 rfl (by decide) rfl ?_
              have j86 : ∀ (d86 : Nat), ∀ (s205 : rS) (y206 : Int) (y207 : Int), rWF s205 → rng y206 → rng y207 → rKeep 0x21c00 0 0 0 0 σ s205 → inv_X14_sign_86 σ n1 s205 y206 y207 → (mu_X14_sign_86 σ n1 s205 y206 y207) ≤ d86 → zS X G 4 (rW G κ s205) [(0, .ref (κ 0)), (1, .ref t1), (2, iv y206), (3, iv y207)] 0 0 86 [] := by
                intro d86
                induction d86 with
                | zero =>
                  intro s205 y206 y207 Ws205 hy206 hy207 kJ hI hmu
                  exact absurd hmu (by have := h_86m  s205 y206 y207 Ws205 hy206 hy207 (kJ.R rfl) (kJ.F rfl) hI; omega)
                | succ d86 ih86 =>
                  intro s205 y206 y207 Ws205 hy206 hy207 kJ hI hmu86
                  have h := h_86  s205 y206 y207 Ws205 hy206 hy207 (kJ.R rfl) (kJ.F rfl) hI
                  refine z_iload_n hC (pc := 86) 3 dX14_sign_86 rfl rfl ?_
                  refine z_aload_n hC (pc := 87) 1 dX14_sign_87 rfl rfl ?_
                  refine y_slen hC (pc := 88) hs1 dX14_sign_88 zw3021 (Nat.le_of_ble_eq_true rfl) (Nat.le_of_ble_eq_true rfl) (Nat.le_of_ble_eq_true rfl) (Nat.le_of_ble_eq_true rfl) (Nat.le_of_ble_eq_true rfl) ?_
                  obtain ⟨hT, hF⟩ := h
                  refine y_icmp_ge hC (pc := 91) 129 hy207 (rSt.rng hs1) dX14_sign_91 (by decide) (fun c => ?_) (fun c => ?_)
                  · have h := hT c
                    refine z_iload_n hC (pc := 129) 2 dX14_sign_129 rfl rfl ?_
                    obtain ⟨hT, hF⟩ := h
                    refine y_if_eq hC (pc := 130) 149 hy206 dX14_sign_130 (by decide) (fun c => ?_) (fun c => ?_)
                    · have h := hT c
                      refine z_aload_n hC (pc := 149) 0 dX14_sign_149 rfl rfl ?_
                      refine z_iconst hC (pc := 150) (v := Int32.ofInt 1) dX14_sign_150 (by decide) ?_
                      refine z_aload_n hC (pc := 151) 0 dX14_sign_151 rfl rfl ?_
                      refine y_get hC (pc := 152) zf14 rOb_0 17 (v := iv (rF s205 0 17)) dX14_sign_152 zw2484 (rv_i (Or.inl rfl) rfl) (kk := ?_)
                      have h := h (Ws205.f _ _)
                      obtain ⟨p208, h⟩ := h
                      refine y_callVv hC (pc := 155) (As := [iv 1, iv (rF s205 0 17)]) (kX14_bad l G κ s205 1 (rF s205 0 17) Ws205 (r_lit rfl) (Ws205.f _ _) p208) dmX14_bad zf14 rOb_0 dX14_sign_155 zw3000 rfl rfl (Nat.le_of_ble_eq_true rfl) (Nat.le_of_ble_eq_true rfl) (Nat.le_of_ble_eq_true rfl) (Nat.le_of_ble_eq_true rfl) (Nat.le_of_ble_eq_true rfl) (kk := fun s209 Ws209 qs209 => ?_)
                      have h := h s209 Ws209 (qs209.1.R rfl) (qs209.1.F rfl) (qs209.1.F rfl) qs209.2
                      exact y_retv hR dX14_sign_158 Ws209 (Nat.le_of_ble_eq_true rfl) (Nat.le_of_ble_eq_true rfl) ⟨(rKeep.tr (rKeep.tr rKeep.rf kJ rfl rfl rfl rfl rfl) qs209.1 rfl rfl rfl rfl rfl), h⟩
                    · have h := hF c
                      refine z_aload_n hC (pc := 133) 0 dX14_sign_133 rfl rfl ?_
                      refine z_dup hC (pc := 134) dX14_sign_134 rfl ?_
                      refine y_get hC (pc := 135) zf14 rOb_0 17 (v := iv (rF s205 0 17)) dX14_sign_135 zw2484 (rv_i (Or.inl rfl) rfl) (kk := ?_)
                      have h := h (Ws205.f _ _)
                      refine z_aload_n hC (pc := 138) 1 dX14_sign_138 rfl rfl ?_
                      refine y_slen hC (pc := 139) hs1 dX14_sign_139 zw3021 (Nat.le_of_ble_eq_true rfl) (Nat.le_of_ble_eq_true rfl) (Nat.le_of_ble_eq_true rfl) (Nat.le_of_ble_eq_true rfl) (Nat.le_of_ble_eq_true rfl) ?_
                      refine y_iadd hC (pc := 142) (v := ((rF s205 0 17) + (n1 : Int))) dX14_sign_142 rfl ?_
                      obtain ⟨r211, h⟩ := h
                      refine y_putI hC (pc := 143) zf14 rOb_0 17 (x := ((rF s205 0 17) + (n1 : Int))) dX14_sign_143 zw2484 (Or.inl rfl) rfl rfl (kk := ?_)
                      have W212 := Ws205.sF (q := 0) (f := 17) (x := ((rF s205 0 17) + (n1 : Int))) r211
                      refine z_goto hC (pc := 146) 158 dX14_sign_146 (by decide) ?_
                      exact y_retv hR dX14_sign_158 W212 (Nat.le_of_ble_eq_true rfl) (Nat.le_of_ble_eq_true rfl) ⟨(rKeep.tr (rKeep.tr rKeep.rf kJ rfl rfl rfl rfl rfl) (rKeep.sF0 (f := 17)) rfl rfl rfl rfl rfl), h⟩
                  · have h := hF c
                    refine z_iload_n hC (pc := 94) 2 dX14_sign_94 rfl rfl ?_
                    obtain ⟨hT, hF⟩ := h
                    refine y_if_eq hC (pc := 95) 129 hy206 dX14_sign_95 (by decide) (fun c => ?_) (fun c => ?_)
                    · have h := hT c
                      refine z_iload_n hC (pc := 129) 2 dX14_sign_129 rfl rfl ?_
                      obtain ⟨hT, hF⟩ := h
                      refine y_if_eq hC (pc := 130) 149 hy206 dX14_sign_130 (by decide) (fun c => ?_) (fun c => ?_)
                      · have h := hT c
                        refine z_aload_n hC (pc := 149) 0 dX14_sign_149 rfl rfl ?_
                        refine z_iconst hC (pc := 150) (v := Int32.ofInt 1) dX14_sign_150 (by decide) ?_
                        refine z_aload_n hC (pc := 151) 0 dX14_sign_151 rfl rfl ?_
                        refine y_get hC (pc := 152) zf14 rOb_0 17 (v := iv (rF s205 0 17)) dX14_sign_152 zw2484 (rv_i (Or.inl rfl) rfl) (kk := ?_)
                        have h := h (Ws205.f _ _)
                        obtain ⟨p213, h⟩ := h
                        refine y_callVv hC (pc := 155) (As := [iv 1, iv (rF s205 0 17)]) (kX14_bad l G κ s205 1 (rF s205 0 17) Ws205 (r_lit rfl) (Ws205.f _ _) p213) dmX14_bad zf14 rOb_0 dX14_sign_155 zw3000 rfl rfl (Nat.le_of_ble_eq_true rfl) (Nat.le_of_ble_eq_true rfl) (Nat.le_of_ble_eq_true rfl) (Nat.le_of_ble_eq_true rfl) (Nat.le_of_ble_eq_true rfl) (kk := fun s214 Ws214 qs214 => ?_)
                        have h := h s214 Ws214 (qs214.1.R rfl) (qs214.1.F rfl) (qs214.1.F rfl) qs214.2
                        exact y_retv hR dX14_sign_158 Ws214 (Nat.le_of_ble_eq_true rfl) (Nat.le_of_ble_eq_true rfl) ⟨(rKeep.tr (rKeep.tr rKeep.rf kJ rfl rfl rfl rfl rfl) qs214.1 rfl rfl rfl rfl rfl), h⟩
                      · have h := hF c
                        refine z_aload_n hC (pc := 133) 0 dX14_sign_133 rfl rfl ?_
                        refine z_dup hC (pc := 134) dX14_sign_134 rfl ?_
                        refine y_get hC (pc := 135) zf14 rOb_0 17 (v := iv (rF s205 0 17)) dX14_sign_135 zw2484 (rv_i (Or.inl rfl) rfl) (kk := ?_)
                        have h := h (Ws205.f _ _)
                        refine z_aload_n hC (pc := 138) 1 dX14_sign_138 rfl rfl ?_
                        refine y_slen hC (pc := 139) hs1 dX14_sign_139 zw3021 (Nat.le_of_ble_eq_true rfl) (Nat.le_of_ble_eq_true rfl) (Nat.le_of_ble_eq_true rfl) (Nat.le_of_ble_eq_true rfl) (Nat.le_of_ble_eq_true rfl) ?_
                        refine y_iadd hC (pc := 142) (v := ((rF s205 0 17) + (n1 : Int))) dX14_sign_142 rfl ?_
                        obtain ⟨r216, h⟩ := h
                        refine y_putI hC (pc := 143) zf14 rOb_0 17 (x := ((rF s205 0 17) + (n1 : Int))) dX14_sign_143 zw2484 (Or.inl rfl) rfl rfl (kk := ?_)
                        have W217 := Ws205.sF (q := 0) (f := 17) (x := ((rF s205 0 17) + (n1 : Int))) r216
                        refine z_goto hC (pc := 146) 158 dX14_sign_146 (by decide) ?_
                        exact y_retv hR dX14_sign_158 W217 (Nat.le_of_ble_eq_true rfl) (Nat.le_of_ble_eq_true rfl) ⟨(rKeep.tr (rKeep.tr rKeep.rf kJ rfl rfl rfl rfl rfl) (rKeep.sF0 (f := 17)) rfl rfl rfl rfl rfl), h⟩
                    · have h := hF c
                      refine z_aload_n hC (pc := 98) 0 dX14_sign_98 rfl rfl ?_
                      obtain ⟨g218, h⟩ := h
                      refine y_get hC (pc := 99) zf14 rOb_0 15 (v := .ref (κ (rR s205 15))) dX14_sign_99 zw2482 (rv_b rfl rfl g218) (kk := ?_)
                      refine z_aload_n hC (pc := 102) 0 dX14_sign_102 rfl rfl ?_
                      refine y_get hC (pc := 103) zf14 rOb_0 17 (v := iv (rF s205 0 17)) dX14_sign_103 zw2484 (rv_i (Or.inl rfl) rfl) (kk := ?_)
                      have h := h (Ws205.f _ _)
                      refine z_iload_n hC (pc := 106) 3 dX14_sign_106 rfl rfl ?_
                      refine y_iadd hC (pc := 107) (v := ((rF s205 0 17) + y207)) dX14_sign_107 rfl ?_
                      obtain ⟨b219, h⟩ := h
                      refine y_bald hC (pc := 108) (rAr_f g218) dX14_sign_108 b219 (v := (rA s205 (rR s205 15) ((rF s205 0 17) + y207))) rfl (kk := ?_)
                      have h := h (Ws205.a _ _)
                      refine z_aload_n hC (pc := 109) 1 dX14_sign_109 rfl rfl ?_
                      refine z_iload_n hC (pc := 110) 3 dX14_sign_110 rfl rfl ?_
                      obtain ⟨b220, h⟩ := h
                      refine y_char hC (pc := 111) (i := y207) hs1 b220 dX14_sign_111 zw3022 (Nat.le_of_ble_eq_true rfl) (Nat.le_of_ble_eq_true rfl) (Nat.le_of_ble_eq_true rfl) (Nat.le_of_ble_eq_true rfl) (Nat.le_of_ble_eq_true rfl) (fun x221 hx221 => ?_)
                      have h := h x221 hx221
                      obtain ⟨hT, hF⟩ := h
                      refine y_icmp_ne hC (pc := 114) 121 (Ws205.a _ _) (r_255 hx221) dX14_sign_114 (by decide) (fun c => ?_) (fun c => ?_)
                      · have h := hT c
                        refine z_iconst hC (pc := 121) (v := Int32.ofInt 0) dX14_sign_121 (by decide) ?_
                        refine z_istore_n hC (pc := 122) (lv' := [(2, iv 0), (0, .ref (κ 0)), (1, .ref t1), (3, iv y207)]) dX14_sign_122 rfl (by decide) rfl ?_
                        refine y_iinc hC (pc := 123) (v := (y207 + 1)) (lv' := [(3, iv (y207 + 1)), (2, iv 0), (0, .ref (κ 0)), (1, .ref t1)]) 3 dX14_sign_123 rfl rfl (by decide) rfl ?_
                        refine z_goto hC (pc := 126) 86 dX14_sign_126 (by decide) ?_
                        refine z_lvs [2, 3, 1, 0] rfl ?_
                        obtain ⟨r222, h⟩ := h
                        obtain ⟨hI, hm⟩ := h
                        exact ih86 s205 0 (y207 + 1) Ws205 (r_lit rfl) r222 (rKeep.tr rKeep.rf kJ rfl rfl rfl rfl rfl) hI (by omega)
                      · have h := hF c
                        refine z_iconst hC (pc := 117) (v := Int32.ofInt 1) dX14_sign_117 (by decide) ?_
                        refine z_goto hC (pc := 118) 122 dX14_sign_118 (by decide) ?_
                        refine z_istore_n hC (pc := 122) (lv' := [(2, iv 1), (0, .ref (κ 0)), (1, .ref t1), (3, iv y207)]) dX14_sign_122 rfl (by decide) rfl ?_
                        refine y_iinc hC (pc := 123) (v := (y207 + 1)) (lv' := [(3, iv (y207 + 1)), (2, iv 1), (0, .ref (κ 0)), (1, .ref t1)]) 3 dX14_sign_123 rfl rfl (by decide) rfl ?_
                        refine z_goto hC (pc := 126) 86 dX14_sign_126 (by decide) ?_
                        refine z_lvs [2, 3, 1, 0] rfl ?_
                        obtain ⟨r223, h⟩ := h
                        obtain ⟨hI, hm⟩ := h
                        exact ih86 s205 1 (y207 + 1) Ws205 (r_lit rfl) r223 (rKeep.tr rKeep.rf kJ rfl rfl rfl rfl rfl) hI (by omega)
              refine z_lvs [2, 3, 1, 0] rfl ?_
              exact j86 _ s11 0 0 Ws11 (r_lit rfl) (r_lit rfl) (rKeep.tr rKeep.rf qs11.1 rfl rfl rfl rfl rfl) h (Nat.le_refl _)
  · have h := hF c
    exact y_retv hR dX14_sign_11 Ws11 (Nat.le_of_ble_eq_true rfl) (Nat.le_of_ble_eq_true rfl) ⟨(rKeep.tr rKeep.rf qs11.1 rfl rfl rfl rfl rfl), h⟩
theorem kX14_sign (l : Launch) (G : zG) (κ : Nat → Nat) (σ : rS) (t1 n1 : Nat) (hwf : rWF σ) (hs1 : rSt G t1 n1) (hp : pre_X14_sign σ n1) : rMv l G κ yX14_sign cX14_sign 4 4 121 [.ref (κ 0), .ref t1] σ (fun s => rKeep 0x21c00 0 0 0 0 σ s ∧ post_X14_sign σ n1 s) := wX14_sign l G κ σ t1 n1 hwf hs1 (post_X14_sign σ n1) (vX14_sign σ n1 hwf hs1.1 hp) (vX14_sign_86 σ n1 hwf hs1.1 hp) (vX14_sign_86m σ n1 hwf hs1.1 hp)
