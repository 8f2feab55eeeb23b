/-! The private methods that are called, out of the tables; the tables; the classes with their fields (names as the program prints them). -/
def lw_okq (q : MethodName × Nat) : Prop := (q.1.cls ≠ "java/lang/invoke/MethodHandle" ∧ q.1.cls ≠ "java/lang/invoke/VarHandle") ∧ Cond.instantiable q.1.cls q.2 ∈ tables_1 ∧ Cond.privateMethod q.1 ∈ tables_1 ∧ Cond.instanceMethod q.1 ∈ tables_1
theorem lw_p0 : lw_okq (⟨"TemplateHouse", "fourReady", "(II)V"⟩, 19) := ⟨⟨by decide +kernel, by decide +kernel⟩, List.mem_of_getElem? (i := 31) (by decide +kernel), List.mem_of_getElem? (i := 771) (by decide +kernel), List.mem_of_getElem? (i := 772) (by decide +kernel)⟩
theorem lw_p1 : lw_okq (⟨"TemplateHouse", "fromTape", "(I)I"⟩, 19) := ⟨⟨by decide +kernel, by decide +kernel⟩, List.mem_of_getElem? (i := 31) (by decide +kernel), List.mem_of_getElem? (i := 815) (by decide +kernel), List.mem_of_getElem? (i := 816) (by decide +kernel)⟩
theorem lw_p2 : lw_okq (⟨"TemplateHouse", "isRead", "(I)Z"⟩, 19) := ⟨⟨by decide +kernel, by decide +kernel⟩, List.mem_of_getElem? (i := 31) (by decide +kernel), List.mem_of_getElem? (i := 933) (by decide +kernel), List.mem_of_getElem? (i := 934) (by decide +kernel)⟩
theorem lw_p3 : lw_okq (⟨"TemplateHouse", "told", "(I)I"⟩, 19) := ⟨⟨by decide +kernel, by decide +kernel⟩, List.mem_of_getElem? (i := 31) (by decide +kernel), List.mem_of_getElem? (i := 912) (by decide +kernel), List.mem_of_getElem? (i := 913) (by decide +kernel)⟩
theorem lw_p4 : lw_okq (⟨"TemplateHouse$Checker", "checkCalls", "()V"⟩, 5) := ⟨⟨by decide +kernel, by decide +kernel⟩, List.mem_of_getElem? (i := 443) (by decide +kernel), List.mem_of_getElem? (i := 1702) (by decide +kernel), List.mem_of_getElem? (i := 1703) (by decide +kernel)⟩
theorem lw_p5 : lw_okq (⟨"TemplateHouse$Checker", "checkDefs", "()V"⟩, 5) := ⟨⟨by decide +kernel, by decide +kernel⟩, List.mem_of_getElem? (i := 443) (by decide +kernel), List.mem_of_getElem? (i := 1682) (by decide +kernel), List.mem_of_getElem? (i := 1683) (by decide +kernel)⟩
theorem lw_p6 : lw_okq (⟨"TemplateHouse$Checker", "checkParts", "()V"⟩, 5) := ⟨⟨by decide +kernel, by decide +kernel⟩, List.mem_of_getElem? (i := 443) (by decide +kernel), List.mem_of_getElem? (i := 1724) (by decide +kernel), List.mem_of_getElem? (i := 1725) (by decide +kernel)⟩
theorem lw_p7 : lw_okq (⟨"TemplateHouse$Checker", "nameAll", "()V"⟩, 5) := ⟨⟨by decide +kernel, by decide +kernel⟩, List.mem_of_getElem? (i := 443) (by decide +kernel), List.mem_of_getElem? (i := 1664) (by decide +kernel), List.mem_of_getElem? (i := 1665) (by decide +kernel)⟩
theorem lw_p8 : lw_okq (⟨"TemplateHouse$Checker", "nameFile", "(I)V"⟩, 5) := ⟨⟨by decide +kernel, by decide +kernel⟩, List.mem_of_getElem? (i := 443) (by decide +kernel), List.mem_of_getElem? (i := 1678) (by decide +kernel), List.mem_of_getElem? (i := 1679) (by decide +kernel)⟩
theorem lw_p9 : lw_okq (⟨"TemplateHouse$Checker", "tieParts", "()V"⟩, 5) := ⟨⟨by decide +kernel, by decide +kernel⟩, List.mem_of_getElem? (i := 443) (by decide +kernel), List.mem_of_getElem? (i := 1737) (by decide +kernel), List.mem_of_getElem? (i := 1738) (by decide +kernel)⟩
theorem lw_p10 : lw_okq (⟨"TemplateHouse$FileReader", "head", "()V"⟩, 19) := ⟨⟨by decide +kernel, by decide +kernel⟩, List.mem_of_getElem? (i := 318) (by decide +kernel), List.mem_of_getElem? (i := 1009) (by decide +kernel), List.mem_of_getElem? (i := 1010) (by decide +kernel)⟩
theorem lw_p11 : lw_okq (⟨"TemplateHouse$FileReader", "openFile", "(I)V"⟩, 19) := ⟨⟨by decide +kernel, by decide +kernel⟩, List.mem_of_getElem? (i := 318) (by decide +kernel), List.mem_of_getElem? (i := 985) (by decide +kernel), List.mem_of_getElem? (i := 986) (by decide +kernel)⟩
theorem lw_p12 : lw_okq (⟨"TemplateHouse$Imports", "extend", "([I[IIII)V"⟩, 6) := ⟨⟨by decide +kernel, by decide +kernel⟩, List.mem_of_getElem? (i := 201) (by decide +kernel), List.mem_of_getElem? (i := 1660) (by decide +kernel), List.mem_of_getElem? (i := 1661) (by decide +kernel)⟩
theorem lw_p13 : lw_okq (⟨"TemplateHouseModel", "ahead", "(I)I"⟩, 139) := ⟨⟨by decide +kernel, by decide +kernel⟩, List.mem_of_getElem? (i := 2294) (by decide +kernel), List.mem_of_getElem? (i := 2990) (by decide +kernel), List.mem_of_getElem? (i := 2991) (by decide +kernel)⟩
theorem lw_p14 : lw_okq (⟨"TemplateHouseModel", "checkAll", "()V"⟩, 139) := ⟨⟨by decide +kernel, by decide +kernel⟩, List.mem_of_getElem? (i := 2294) (by decide +kernel), List.mem_of_getElem? (i := 3347) (by decide +kernel), List.mem_of_getElem? (i := 3348) (by decide +kernel)⟩
theorem lw_p15 : lw_okq (⟨"TemplateHouseModel", "fc", "(I)I"⟩, 139) := ⟨⟨by decide +kernel, by decide +kernel⟩, List.mem_of_getElem? (i := 2294) (by decide +kernel), List.mem_of_getElem? (i := 2994) (by decide +kernel), List.mem_of_getElem? (i := 2995) (by decide +kernel)⟩
theorem lw_p16 : lw_okq (⟨"TemplateHouseModel", "isFileWord", "(Ljava/lang/String;)Z"⟩, 139) := ⟨⟨by decide +kernel, by decide +kernel⟩, List.mem_of_getElem? (i := 2294) (by decide +kernel), List.mem_of_getElem? (i := 3006) (by decide +kernel), List.mem_of_getElem? (i := 3007) (by decide +kernel)⟩
theorem lw_p17 : lw_okq (⟨"TemplateHouseModel", "isMade", "()Z"⟩, 139) := ⟨⟨by decide +kernel, by decide +kernel⟩, List.mem_of_getElem? (i := 2294) (by decide +kernel), List.mem_of_getElem? (i := 2894) (by decide +kernel), List.mem_of_getElem? (i := 2895) (by decide +kernel)⟩
theorem lw_p18 : lw_okq (⟨"TemplateHouseModel", "isValue", "(II)Z"⟩, 139) := ⟨⟨by decide +kernel, by decide +kernel⟩, List.mem_of_getElem? (i := 2294) (by decide +kernel), List.mem_of_getElem? (i := 2926) (by decide +kernel), List.mem_of_getElem? (i := 2927) (by decide +kernel)⟩
theorem lw_p19 : lw_okq (⟨"TemplateHouseModel", "newValue", "(II)I"⟩, 139) := ⟨⟨by decide +kernel, by decide +kernel⟩, List.mem_of_getElem? (i := 2294) (by decide +kernel), List.mem_of_getElem? (i := 2890) (by decide +kernel), List.mem_of_getElem? (i := 2891) (by decide +kernel)⟩
theorem lw_p20 : lw_okq (⟨"TemplateHouseModel", "readFile", "(I)V"⟩, 139) := ⟨⟨by decide +kernel, by decide +kernel⟩, List.mem_of_getElem? (i := 2294) (by decide +kernel), List.mem_of_getElem? (i := 2982) (by decide +kernel), List.mem_of_getElem? (i := 2983) (by decide +kernel)⟩
theorem lw_p21 : lw_okq (⟨"TemplateHouseModel", "skip", "()V"⟩, 139) := ⟨⟨by decide +kernel, by decide +kernel⟩, List.mem_of_getElem? (i := 2294) (by decide +kernel), List.mem_of_getElem? (i := 2986) (by decide +kernel), List.mem_of_getElem? (i := 2987) (by decide +kernel)⟩
theorem lw_p22 : lw_okq (⟨"TemplateHouseModel", "take", "()V"⟩, 139) := ⟨⟨by decide +kernel, by decide +kernel⟩, List.mem_of_getElem? (i := 2294) (by decide +kernel), List.mem_of_getElem? (i := 2906) (by decide +kernel), List.mem_of_getElem? (i := 2907) (by decide +kernel)⟩
theorem lw_p23 : lw_okq (⟨"java/lang/Throwable", "fillInStackTrace", "(I)Ljava/lang/Throwable;"⟩, 6) := ⟨⟨by decide +kernel, by decide +kernel⟩, List.mem_of_getElem? (i := 1063) (by decide +kernel), List.mem_of_getElem? (i := 1061) (by decide +kernel), List.mem_of_getElem? (i := 1062) (by decide +kernel)⟩
def lw_privs : List (MethodName × Nat) := [(⟨"TemplateHouse", "fourReady", "(II)V"⟩, 19), (⟨"TemplateHouse", "fromTape", "(I)I"⟩, 19), (⟨"TemplateHouse", "isRead", "(I)Z"⟩, 19), (⟨"TemplateHouse", "told", "(I)I"⟩, 19), (⟨"TemplateHouse$Checker", "checkCalls", "()V"⟩, 5), (⟨"TemplateHouse$Checker", "checkDefs", "()V"⟩, 5), (⟨"TemplateHouse$Checker", "checkParts", "()V"⟩, 5), (⟨"TemplateHouse$Checker", "nameAll", "()V"⟩, 5), (⟨"TemplateHouse$Checker", "nameFile", "(I)V"⟩, 5), (⟨"TemplateHouse$Checker", "tieParts", "()V"⟩, 5), (⟨"TemplateHouse$FileReader", "head", "()V"⟩, 19), (⟨"TemplateHouse$FileReader", "openFile", "(I)V"⟩, 19), (⟨"TemplateHouse$Imports", "extend", "([I[IIII)V"⟩, 6), (⟨"TemplateHouseModel", "ahead", "(I)I"⟩, 139), (⟨"TemplateHouseModel", "checkAll", "()V"⟩, 139), (⟨"TemplateHouseModel", "fc", "(I)I"⟩, 139), (⟨"TemplateHouseModel", "isFileWord", "(Ljava/lang/String;)Z"⟩, 139), (⟨"TemplateHouseModel", "isMade", "()Z"⟩, 139), (⟨"TemplateHouseModel", "isValue", "(II)Z"⟩, 139), (⟨"TemplateHouseModel", "newValue", "(II)I"⟩, 139), (⟨"TemplateHouseModel", "readFile", "(I)V"⟩, 139), (⟨"TemplateHouseModel", "skip", "()V"⟩, 139), (⟨"TemplateHouseModel", "take", "()V"⟩, 139), (⟨"java/lang/Throwable", "fillInStackTrace", "(I)Ljava/lang/Throwable;"⟩, 6)]
theorem lw_privs_ok : ∀ q ∈ lw_privs, lw_okq q := List.forall_mem_cons.mpr ⟨lw_p0, List.forall_mem_cons.mpr ⟨lw_p1, List.forall_mem_cons.mpr ⟨lw_p2, List.forall_mem_cons.mpr ⟨lw_p3, List.forall_mem_cons.mpr ⟨lw_p4, List.forall_mem_cons.mpr ⟨lw_p5, List.forall_mem_cons.mpr ⟨lw_p6, List.forall_mem_cons.mpr ⟨lw_p7, List.forall_mem_cons.mpr ⟨lw_p8, List.forall_mem_cons.mpr ⟨lw_p9, List.forall_mem_cons.mpr ⟨lw_p10, List.forall_mem_cons.mpr ⟨lw_p11, List.forall_mem_cons.mpr ⟨lw_p12, List.forall_mem_cons.mpr ⟨lw_p13, List.forall_mem_cons.mpr ⟨lw_p14, List.forall_mem_cons.mpr ⟨lw_p15, List.forall_mem_cons.mpr ⟨lw_p16, List.forall_mem_cons.mpr ⟨lw_p17, List.forall_mem_cons.mpr ⟨lw_p18, List.forall_mem_cons.mpr ⟨lw_p19, List.forall_mem_cons.mpr ⟨lw_p20, List.forall_mem_cons.mpr ⟨lw_p21, List.forall_mem_cons.mpr ⟨lw_p22, List.forall_mem_cons.mpr ⟨lw_p23, (fun _ h => absurd h List.not_mem_nil)⟩⟩⟩⟩⟩⟩⟩⟩⟩⟩⟩⟩⟩⟩⟩⟩⟩⟩⟩⟩⟩⟩⟩⟩
def lw_tbl : List Cond := k2_sels lw_privs ++ tables_1
def RX0 : String := "TemplateHouse$Checker"
def TX0 : u_T := fun k => match k with
  | 0 => ("TemplateHouse$Checker", "s", "LTemplateHouse$Source;", true)
  | 1 => ("TemplateHouse$Checker", "g", "LTemplateHouse$Gen;", false)
  | 2 => ("TemplateHouse$Checker", "file", "I", false)
  | 3 => ("TemplateHouse$Checker", "number", "I", false)
  | _ => ("TemplateHouse$Checker", "place", "I", false)
def tyX0 : Nat → FieldType := fun k => match k with
  | 0 => .object "TemplateHouse$Source"
  | 1 => .object "TemplateHouse$Gen"
  | 2 => .int
  | 3 => .int
  | _ => .int
theorem nmX0 : ∀ a, a < 5 → ∀ b, b < 5 → a ≠ b → (TX0 a).2.1 ≠ (TX0 b).2.1 := by decide +kernel
theorem tyX0_ok : ∀ k, k < 5 → parseFieldDescriptor (TX0 k).2.2.1 = some (tyX0 k) := by decide +kernel
def RX1 : String := "TemplateHouse$FileReader"
def TX1 : u_T := fun k => match k with
  | 0 => ("TemplateHouse$FileReader", "files", "[[B", true)
  | 1 => ("TemplateHouse$FileReader", "sizes", "[I", true)
  | 2 => ("TemplateHouse$FileReader", "s", "LTemplateHouse$Source;", true)
  | 3 => ("TemplateHouse$FileReader", "g", "LTemplateHouse$Gen;", false)
  | 4 => ("TemplateHouse$FileReader", "t", "LTemplateHouse$TextReader;", true)
  | 5 => ("TemplateHouse$FileReader", "names", "[I", true)
  | 6 => ("TemplateHouse$FileReader", "defaults", "[I", true)
  | 7 => ("TemplateHouse$FileReader", "params", "I", false)
  | 8 => ("TemplateHouse$FileReader", "keys", "[I", true)
  | 9 => ("TemplateHouse$FileReader", "contents", "[I", true)
  | 10 => ("TemplateHouse$FileReader", "entries", "I", false)
  | 11 => ("TemplateHouse$FileReader", "otherwise", "I", false)
  | 12 => ("TemplateHouse$FileReader", "way", "[I", true)
  | 13 => ("TemplateHouse$FileReader", "step", "[I", true)
  | 14 => ("TemplateHouse$FileReader", "deep", "I", false)
  | 15 => ("TemplateHouse$FileReader", "firstDef", "I", false)
  | 16 => ("TemplateHouse$FileReader", "def", "I", false)
  | 17 => ("TemplateHouse$FileReader", "ahead", "I", false)
  | _ => ("TemplateHouse$FileReader", "hasBody", "Z", false)
def tyX1 : Nat → FieldType := fun k => match k with
  | 0 => .array (.array .byte)
  | 1 => .array .int
  | 2 => .object "TemplateHouse$Source"
  | 3 => .object "TemplateHouse$Gen"
  | 4 => .object "TemplateHouse$TextReader"
  | 5 => .array .int
  | 6 => .array .int
  | 7 => .int
  | 8 => .array .int
  | 9 => .array .int
  | 10 => .int
  | 11 => .int
  | 12 => .array .int
  | 13 => .array .int
  | 14 => .int
  | 15 => .int
  | 16 => .int
  | 17 => .int
  | _ => .boolean
theorem nmX1 : ∀ a, a < 19 → ∀ b, b < 19 → a ≠ b → (TX1 a).2.1 ≠ (TX1 b).2.1 := by decide +kernel
theorem tyX1_ok : ∀ k, k < 19 → parseFieldDescriptor (TX1 k).2.2.1 = some (tyX1 k) := by decide +kernel
def RX2 : String := "TemplateHouse$Gen"
def TX2 : u_T := fun k => match k with
  | 0 => ("TemplateHouse$Gen", "names", "LTemplateHouse$Names;", true)
  | 1 => ("TemplateHouse$Gen", "imports", "LTemplateHouse$Imports;", true)
  | 2 => ("TemplateHouse$Gen", "code", "[I", true)
  | 3 => ("TemplateHouse$Gen", "codeEnd", "I", false)
  | 4 => ("TemplateHouse$Gen", "pool", "[B", true)
  | 5 => ("TemplateHouse$Gen", "places", "[I", true)
  | 6 => ("TemplateHouse$Gen", "poolEnd", "I", false)
  | 7 => ("TemplateHouse$Gen", "defs", "[I", true)
  | 8 => ("TemplateHouse$Gen", "defCount", "I", false)
  | 9 => ("TemplateHouse$Gen", "parts", "[I", true)
  | 10 => ("TemplateHouse$Gen", "partCount", "I", false)
  | 11 => ("TemplateHouse$Gen", "calls", "[I", true)
  | 12 => ("TemplateHouse$Gen", "callCount", "I", false)
  | 13 => ("TemplateHouse$Gen", "late", "[I", true)
  | 14 => ("TemplateHouse$Gen", "template", "[I", true)
  | 15 => ("TemplateHouse$Gen", "dictionary", "[I", true)
  | _ => ("TemplateHouse$Gen", "templates", "I", false)
def tyX2 : Nat → FieldType := fun k => match k with
  | 0 => .object "TemplateHouse$Names"
  | 1 => .object "TemplateHouse$Imports"
  | 2 => .array .int
  | 3 => .int
  | 4 => .array .byte
  | 5 => .array .int
  | 6 => .int
  | 7 => .array .int
  | 8 => .int
  | 9 => .array .int
  | 10 => .int
  | 11 => .array .int
  | 12 => .int
  | 13 => .array .int
  | 14 => .array .int
  | 15 => .array .int
  | _ => .int
theorem nmX2 : ∀ a, a < 17 → ∀ b, b < 17 → a ≠ b → (TX2 a).2.1 ≠ (TX2 b).2.1 := by decide +kernel
theorem tyX2_ok : ∀ k, k < 17 → parseFieldDescriptor (TX2 k).2.2.1 = some (tyX2 k) := by decide +kernel
def RX3 : String := "TemplateHouse$Heap"
def TX3 : u_T := fun k => match k with
  | 0 => ("TemplateHouse$Heap", "store", "LTemplateHouse$Store;", true)
  | 1 => ("TemplateHouse$Heap", "teller", "LTemplateHouse$Teller;", true)
  | 2 => ("TemplateHouse$Heap", "g", "LTemplateHouse$Gen;", false)
  | 3 => ("TemplateHouse$Heap", "text", "[I", true)
  | 4 => ("TemplateHouse$Heap", "parent", "[I", true)
  | 5 => ("TemplateHouse$Heap", "turn", "[I", true)
  | 6 => ("TemplateHouse$Heap", "attrs", "[I", true)
  | 7 => ("TemplateHouse$Heap", "made", "I", false)
  | 8 => ("TemplateHouse$Heap", "rows", "[I", true)
  | 9 => ("TemplateHouse$Heap", "rowsEnd", "I", false)
  | 10 => ("TemplateHouse$Heap", "listed", "I", false)
  | 11 => ("TemplateHouse$Heap", "words", "[B", true)
  | 12 => ("TemplateHouse$Heap", "wordsEnd", "I", false)
  | 13 => ("TemplateHouse$Heap", "rootNames", "[I", true)
  | 14 => ("TemplateHouse$Heap", "rootValues", "[I", true)
  | 15 => ("TemplateHouse$Heap", "rootCount", "I", false)
  | 16 => ("TemplateHouse$Heap", "spelled", "[B", false)
  | 17 => ("TemplateHouse$Heap", "from", "I", false)
  | 18 => ("TemplateHouse$Heap", "length", "I", false)
  | _ => ("TemplateHouse$Heap", "digits", "[B", true)
def tyX3 : Nat → FieldType := fun k => match k with
  | 0 => .object "TemplateHouse$Store"
  | 1 => .object "TemplateHouse$Teller"
  | 2 => .object "TemplateHouse$Gen"
  | 3 => .array .int
  | 4 => .array .int
  | 5 => .array .int
  | 6 => .array .int
  | 7 => .int
  | 8 => .array .int
  | 9 => .int
  | 10 => .int
  | 11 => .array .byte
  | 12 => .int
  | 13 => .array .int
  | 14 => .array .int
  | 15 => .int
  | 16 => .array .byte
  | 17 => .int
  | 18 => .int
  | _ => .array .byte
theorem nmX3 : ∀ a, a < 20 → ∀ b, b < 20 → a ≠ b → (TX3 a).2.1 ≠ (TX3 b).2.1 := by decide +kernel
theorem tyX3_ok : ∀ k, k < 20 → parseFieldDescriptor (TX3 k).2.2.1 = some (tyX3 k) := by decide +kernel
def RX4 : String := "TemplateHouse$Imports"
def TX4 : u_T := fun k => match k with
  | 0 => ("TemplateHouse$Imports", "direct", "[I", true)
  | 1 => ("TemplateHouse$Imports", "directs", "[I", true)
  | 2 => ("TemplateHouse$Imports", "ways", "[I", true)
  | 3 => ("TemplateHouse$Imports", "wayLengths", "[I", true)
  | 4 => ("TemplateHouse$Imports", "read", "[I", true)
  | _ => ("TemplateHouse$Imports", "reads", "I", false)
def tyX4 : Nat → FieldType := fun k => match k with
  | 0 => .array .int
  | 1 => .array .int
  | 2 => .array .int
  | 3 => .array .int
  | 4 => .array .int
  | _ => .int
theorem nmX4 : ∀ a, a < 6 → ∀ b, b < 6 → a ≠ b → (TX4 a).2.1 ≠ (TX4 b).2.1 := by decide +kernel
theorem tyX4_ok : ∀ k, k < 6 → parseFieldDescriptor (TX4 k).2.2.1 = some (tyX4 k) := by decide +kernel
def RX5 : String := "TemplateHouse$Maker"
def TX5 : u_T := fun k => match k with
  | 0 => ("TemplateHouse$Maker", "teller", "LTemplateHouse$Teller;", true)
  | 1 => ("TemplateHouse$Maker", "writer", "LTemplateHouse$Writer;", true)
  | 2 => ("TemplateHouse$Maker", "heap", "LTemplateHouse$Heap;", true)
  | 3 => ("TemplateHouse$Maker", "g", "LTemplateHouse$Gen;", false)
  | 4 => ("TemplateHouse$Maker", "stack", "[I", true)
  | 5 => ("TemplateHouse$Maker", "top", "I", false)
  | 6 => ("TemplateHouse$Maker", "frames", "[I", true)
  | 7 => ("TemplateHouse$Maker", "begun", "I", false)
  | 8 => ("TemplateHouse$Maker", "pc", "I", false)
  | 9 => ("TemplateHouse$Maker", "self", "I", false)
  | 10 => ("TemplateHouse$Maker", "element", "I", false)
  | 11 => ("TemplateHouse$Maker", "mark", "I", false)
  | 12 => ("TemplateHouse$Maker", "depth", "I", false)
  | 13 => ("TemplateHouse$Maker", "loop", "I", false)
  | 14 => ("TemplateHouse$Maker", "written", "I", false)
  | 15 => ("TemplateHouse$Maker", "separator", "I", false)
  | 16 => ("TemplateHouse$Maker", "ofNothing", "I", false)
  | 17 => ("TemplateHouse$Maker", "format", "I", false)
  | 18 => ("TemplateHouse$Maker", "wrap", "I", false)
  | 19 => ("TemplateHouse$Maker", "ended", "Z", false)
  | _ => ("TemplateHouse$Maker", "atFirst", "I", false)
def tyX5 : Nat → FieldType := fun k => match k with
  | 0 => .object "TemplateHouse$Teller"
  | 1 => .object "TemplateHouse$Writer"
  | 2 => .object "TemplateHouse$Heap"
  | 3 => .object "TemplateHouse$Gen"
  | 4 => .array .int
  | 5 => .int
  | 6 => .array .int
  | 7 => .int
  | 8 => .int
  | 9 => .int
  | 10 => .int
  | 11 => .int
  | 12 => .int
  | 13 => .int
  | 14 => .int
  | 15 => .int
  | 16 => .int
  | 17 => .int
  | 18 => .int
  | 19 => .boolean
  | _ => .int
theorem nmX5 : ∀ a, a < 21 → ∀ b, b < 21 → a ≠ b → (TX5 a).2.1 ≠ (TX5 b).2.1 := by decide +kernel
theorem tyX5_ok : ∀ k, k < 21 → parseFieldDescriptor (TX5 k).2.2.1 = some (tyX5 k) := by decide +kernel
def RX6 : String := "TemplateHouse$Names"
def TX6 : u_T := fun k => match k with
  | 0 => ("TemplateHouse$Names", "bytes", "[B", true)
  | 1 => ("TemplateHouse$Names", "from", "[I", true)
  | 2 => ("TemplateHouse$Names", "next", "[I", true)
  | 3 => ("TemplateHouse$Names", "head", "[I", true)
  | 4 => ("TemplateHouse$Names", "count", "I", false)
  | _ => ("TemplateHouse$Names", "used", "I", false)
def tyX6 : Nat → FieldType := fun k => match k with
  | 0 => .array .byte
  | 1 => .array .int
  | 2 => .array .int
  | 3 => .array .int
  | 4 => .int
  | _ => .int
theorem nmX6 : ∀ a, a < 6 → ∀ b, b < 6 → a ≠ b → (TX6 a).2.1 ≠ (TX6 b).2.1 := by decide +kernel
theorem tyX6_ok : ∀ k, k < 6 → parseFieldDescriptor (TX6 k).2.2.1 = some (tyX6 k) := by decide +kernel
def RX7 : String := "TemplateHouse$Source"
def TX7 : u_T := fun k => match k with
  | 0 => ("TemplateHouse$Source", "src", "[B", false)
  | 1 => ("TemplateHouse$Source", "isFile", "Z", false)
  | 2 => ("TemplateHouse$Source", "packed", "[B", true)
  | 3 => ("TemplateHouse$Source", "places", "[I", true)
  | 4 => ("TemplateHouse$Source", "lim", "I", false)
  | 5 => ("TemplateHouse$Source", "pos", "I", false)
  | 6 => ("TemplateHouse$Source", "file", "I", false)
  | 7 => ("TemplateHouse$Source", "number", "I", false)
  | 8 => ("TemplateHouse$Source", "where", "I", false)
  | 9 => ("TemplateHouse$Source", "whole", "[B", false)
  | 10 => ("TemplateHouse$Source", "wholeLim", "I", false)
  | _ => ("TemplateHouse$Source", "after", "I", false)
def tyX7 : Nat → FieldType := fun k => match k with
  | 0 => .array .byte
  | 1 => .boolean
  | 2 => .array .byte
  | 3 => .array .int
  | 4 => .int
  | 5 => .int
  | 6 => .int
  | 7 => .int
  | 8 => .int
  | 9 => .array .byte
  | 10 => .int
  | _ => .int
theorem nmX7 : ∀ a, a < 12 → ∀ b, b < 12 → a ≠ b → (TX7 a).2.1 ≠ (TX7 b).2.1 := by decide +kernel
theorem tyX7_ok : ∀ k, k < 12 → parseFieldDescriptor (TX7 k).2.2.1 = some (tyX7 k) := by decide +kernel
def RX8 : String := "TemplateHouse$Store"
def TX8 : u_T := fun k => match k with
  | 0 => ("TemplateHouse$Store", "sort", "[I", true)
  | 1 => ("TemplateHouse$Store", "much", "[J", true)
  | 2 => ("TemplateHouse$Store", "from", "[I", true)
  | 3 => ("TemplateHouse$Store", "length", "[I", true)
  | 4 => ("TemplateHouse$Store", "size", "[I", true)
  | 5 => ("TemplateHouse$Store", "cells", "[I", true)
  | 6 => ("TemplateHouse$Store", "bytes", "[B", true)
  | 7 => ("TemplateHouse$Store", "count", "I", false)
  | 8 => ("TemplateHouse$Store", "used", "I", false)
  | 9 => ("TemplateHouse$Store", "listed", "I", false)
  | 10 => ("TemplateHouse$Store", "addedNames", "[B", true)
  | 11 => ("TemplateHouse$Store", "addedLengths", "[I", true)
  | 12 => ("TemplateHouse$Store", "addedValues", "[I", true)
  | _ => ("TemplateHouse$Store", "addedCount", "I", false)
def tyX8 : Nat → FieldType := fun k => match k with
  | 0 => .array .int
  | 1 => .array .long
  | 2 => .array .int
  | 3 => .array .int
  | 4 => .array .int
  | 5 => .array .int
  | 6 => .array .byte
  | 7 => .int
  | 8 => .int
  | 9 => .int
  | 10 => .array .byte
  | 11 => .array .int
  | 12 => .array .int
  | _ => .int
theorem nmX8 : ∀ a, a < 14 → ∀ b, b < 14 → a ≠ b → (TX8 a).2.1 ≠ (TX8 b).2.1 := by decide +kernel
theorem tyX8_ok : ∀ k, k < 14 → parseFieldDescriptor (TX8 k).2.2.1 = some (tyX8 k) := by decide +kernel
def RX9 : String := "TemplateHouse$Teller"
def TX9 : u_T := fun k => match k with
  | 0 => ("TemplateHouse$Teller", "errors", "[I", true)
  | 1 => ("TemplateHouse$Teller", "looks", "[I", true)
  | _ => ("TemplateHouse$Teller", "counts", "[I", true)
def tyX9 : Nat → FieldType := fun k => match k with
  | 0 => .array .int
  | 1 => .array .int
  | _ => .array .int
theorem nmX9 : ∀ a, a < 3 → ∀ b, b < 3 → a ≠ b → (TX9 a).2.1 ≠ (TX9 b).2.1 := by decide +kernel
theorem tyX9_ok : ∀ k, k < 3 → parseFieldDescriptor (TX9 k).2.2.1 = some (tyX9 k) := by decide +kernel
def RX10 : String := "TemplateHouse$TextReader"
def TX10 : u_T := fun k => match k with
  | 0 => ("TemplateHouse$TextReader", "s", "LTemplateHouse$Source;", true)
  | 1 => ("TemplateHouse$TextReader", "g", "LTemplateHouse$Gen;", false)
  | 2 => ("TemplateHouse$TextReader", "open", "I", false)
  | 3 => ("TemplateHouse$TextReader", "close", "I", false)
  | 4 => ("TemplateHouse$TextReader", "kind", "I", false)
  | 5 => ("TemplateHouse$TextReader", "owner", "I", false)
  | 6 => ("TemplateHouse$TextReader", "filled", "I", false)
  | 7 => ("TemplateHouse$TextReader", "firstPart", "I", false)
  | 8 => ("TemplateHouse$TextReader", "inSub", "Z", false)
  | 9 => ("TemplateHouse$TextReader", "runFrom", "I", false)
  | 10 => ("TemplateHouse$TextReader", "runLength", "I", false)
  | 11 => ("TemplateHouse$TextReader", "lineStart", "Z", false)
  | 12 => ("TemplateHouse$TextReader", "argCount", "I", false)
  | 13 => ("TemplateHouse$TextReader", "argFlags", "I", false)
  | 14 => ("TemplateHouse$TextReader", "argNamed", "I", false)
  | 15 => ("TemplateHouse$TextReader", "endAlone", "Z", false)
  | _ => ("TemplateHouse$TextReader", "endPatch", "I", false)
def tyX10 : Nat → FieldType := fun k => match k with
  | 0 => .object "TemplateHouse$Source"
  | 1 => .object "TemplateHouse$Gen"
  | 2 => .int
  | 3 => .int
  | 4 => .int
  | 5 => .int
  | 6 => .int
  | 7 => .int
  | 8 => .boolean
  | 9 => .int
  | 10 => .int
  | 11 => .boolean
  | 12 => .int
  | 13 => .int
  | 14 => .int
  | 15 => .boolean
  | _ => .int
theorem nmX10 : ∀ a, a < 17 → ∀ b, b < 17 → a ≠ b → (TX10 a).2.1 ≠ (TX10 b).2.1 := by decide +kernel
theorem tyX10_ok : ∀ k, k < 17 → parseFieldDescriptor (TX10 k).2.2.1 = some (tyX10 k) := by decide +kernel
def RX11 : String := "TemplateHouse$Writer"
def TX11 : u_T := fun k => match k with
  | 0 => ("TemplateHouse$Writer", "teller", "LTemplateHouse$Teller;", true)
  | 1 => ("TemplateHouse$Writer", "text", "[B", true)
  | 2 => ("TemplateHouse$Writer", "noted", "[I", true)
  | 3 => ("TemplateHouse$Writer", "length", "I", false)
  | 4 => ("TemplateHouse$Writer", "width", "I", false)
  | 5 => ("TemplateHouse$Writer", "column", "I", false)
  | 6 => ("TemplateHouse$Writer", "atStart", "Z", false)
  | 7 => ("TemplateHouse$Writer", "puts", "I", false)
  | 8 => ("TemplateHouse$Writer", "level", "I", false)
  | 9 => ("TemplateHouse$Writer", "words", "[B", true)
  | 10 => ("TemplateHouse$Writer", "wordLength", "I", false)
  | 11 => ("TemplateHouse$Writer", "pool", "[B", false)
  | 12 => ("TemplateHouse$Writer", "indents", "[I", true)
  | 13 => ("TemplateHouse$Writer", "indentBase", "I", false)
  | 14 => ("TemplateHouse$Writer", "indentEnd", "I", false)
  | _ => ("TemplateHouse$Writer", "anchor", "I", false)
def tyX11 : Nat → FieldType := fun k => match k with
  | 0 => .object "TemplateHouse$Teller"
  | 1 => .array .byte
  | 2 => .array .int
  | 3 => .int
  | 4 => .int
  | 5 => .int
  | 6 => .boolean
  | 7 => .int
  | 8 => .int
  | 9 => .array .byte
  | 10 => .int
  | 11 => .array .byte
  | 12 => .array .int
  | 13 => .int
  | 14 => .int
  | _ => .int
theorem nmX11 : ∀ a, a < 16 → ∀ b, b < 16 → a ≠ b → (TX11 a).2.1 ≠ (TX11 b).2.1 := by decide +kernel
theorem tyX11_ok : ∀ k, k < 16 → parseFieldDescriptor (TX11 k).2.2.1 = some (tyX11 k) := by decide +kernel
def RX12 : String := "TemplateHouse"
def TX12 : u_T := fun k => match k with
  | 0 => ("TemplateHouse", "ready", "[B", true)
  | 1 => ("TemplateHouse", "tape", "[B", true)
  | 2 => ("TemplateHouse", "taped", "I", false)
  | 3 => ("TemplateHouse", "files", "[[B", true)
  | 4 => ("TemplateHouse", "sizes", "[I", true)
  | 5 => ("TemplateHouse", "store", "LTemplateHouse$Store;", true)
  | 6 => ("TemplateHouse", "source", "LTemplateHouse$Source;", true)
  | 7 => ("TemplateHouse", "now", "LTemplateHouse$Gen;", false)
  | 8 => ("TemplateHouse", "spare", "LTemplateHouse$Gen;", false)
  | 9 => ("TemplateHouse", "reader", "LTemplateHouse$FileReader;", true)
  | 10 => ("TemplateHouse", "checker", "LTemplateHouse$Checker;", true)
  | 11 => ("TemplateHouse", "maker", "LTemplateHouse$Maker;", true)
  | 12 => ("TemplateHouse", "generations", "I", false)
  | 13 => ("TemplateHouse", "faultNumber", "I", false)
  | 14 => ("TemplateHouse", "faultFile", "I", false)
  | 15 => ("TemplateHouse", "faultPlace", "I", false)
  | 16 => ("TemplateHouse", "wide", "I", false)
  | 17 => ("TemplateHouse", "state", "I", false)
  | _ => ("TemplateHouse", "shown", "I", false)
def tyX12 : Nat → FieldType := fun k => match k with
  | 0 => .array .byte
  | 1 => .array .byte
  | 2 => .int
  | 3 => .array (.array .byte)
  | 4 => .array .int
  | 5 => .object "TemplateHouse$Store"
  | 6 => .object "TemplateHouse$Source"
  | 7 => .object "TemplateHouse$Gen"
  | 8 => .object "TemplateHouse$Gen"
  | 9 => .object "TemplateHouse$FileReader"
  | 10 => .object "TemplateHouse$Checker"
  | 11 => .object "TemplateHouse$Maker"
  | 12 => .int
  | 13 => .int
  | 14 => .int
  | 15 => .int
  | 16 => .int
  | 17 => .int
  | _ => .int
theorem nmX12 : ∀ a, a < 19 → ∀ b, b < 19 → a ≠ b → (TX12 a).2.1 ≠ (TX12 b).2.1 := by decide +kernel
theorem tyX12_ok : ∀ k, k < 19 → parseFieldDescriptor (TX12 k).2.2.1 = some (tyX12 k) := by decide +kernel
def RX13 : String := "TemplateHouseModel$Group"
def TX13 : u_T := fun k => match k with
  | 0 => ("TemplateHouseModel$Group", "kind", "[I", true)
  | 1 => ("TemplateHouseModel$Group", "a", "[I", true)
  | 2 => ("TemplateHouseModel$Group", "b", "[I", true)
  | 3 => ("TemplateHouseModel$Group", "c", "[I", true)
  | 4 => ("TemplateHouseModel$Group", "d", "[I", true)
  | 5 => ("TemplateHouseModel$Group", "next", "[I", true)
  | 6 => ("TemplateHouseModel$Group", "place", "[I", true)
  | 7 => ("TemplateHouseModel$Group", "nodes", "I", false)
  | 8 => ("TemplateHouseModel$Group", "bytes", "[B", true)
  | 9 => ("TemplateHouseModel$Group", "size", "I", false)
  | 10 => ("TemplateHouseModel$Group", "nameAt", "[I", true)
  | 11 => ("TemplateHouseModel$Group", "nameSize", "[I", true)
  | 12 => ("TemplateHouseModel$Group", "names", "I", false)
  | 13 => ("TemplateHouseModel$Group", "readNames", "I", false)
  | 14 => ("TemplateHouseModel$Group", "readSize", "I", false)
  | 15 => ("TemplateHouseModel$Group", "defKind", "[I", true)
  | 16 => ("TemplateHouseModel$Group", "defName", "[I", true)
  | 17 => ("TemplateHouseModel$Group", "defOther", "[I", true)
  | 18 => ("TemplateHouseModel$Group", "defText", "[I", true)
  | 19 => ("TemplateHouseModel$Group", "defParams", "[I", true)
  | 20 => ("TemplateHouseModel$Group", "defMany", "[I", true)
  | 21 => ("TemplateHouseModel$Group", "defDefault", "[I", true)
  | 22 => ("TemplateHouseModel$Group", "defPlace", "[I", true)
  | 23 => ("TemplateHouseModel$Group", "defPlace2", "[I", true)
  | 24 => ("TemplateHouseModel$Group", "many", "[I", true)
  | 25 => ("TemplateHouseModel$Group", "imports", "[I", true)
  | 26 => ("TemplateHouseModel$Group", "importMany", "[I", true)
  | 27 => ("TemplateHouseModel$Group", "isRead", "[Z", true)
  | 28 => ("TemplateHouseModel$Group", "first", "I", false)
  | 29 => ("TemplateHouseModel$Group", "partDef", "[I", true)
  | 30 => ("TemplateHouseModel$Group", "partName", "[I", true)
  | 31 => ("TemplateHouseModel$Group", "partNode", "[I", true)
  | 32 => ("TemplateHouseModel$Group", "parts", "I", false)
  | 33 => ("TemplateHouseModel$Group", "checkKind", "[I", true)
  | 34 => ("TemplateHouseModel$Group", "checkNode", "[I", true)
  | 35 => ("TemplateHouseModel$Group", "checkOf", "[I", true)
  | 36 => ("TemplateHouseModel$Group", "checkPlace", "[I", true)
  | 37 => ("TemplateHouseModel$Group", "checkFile", "[I", true)
  | _ => ("TemplateHouseModel$Group", "checks", "I", false)
def tyX13 : Nat → FieldType := fun k => match k with
  | 0 => .array .int
  | 1 => .array .int
  | 2 => .array .int
  | 3 => .array .int
  | 4 => .array .int
  | 5 => .array .int
  | 6 => .array .int
  | 7 => .int
  | 8 => .array .byte
  | 9 => .int
  | 10 => .array .int
  | 11 => .array .int
  | 12 => .int
  | 13 => .int
  | 14 => .int
  | 15 => .array .int
  | 16 => .array .int
  | 17 => .array .int
  | 18 => .array .int
  | 19 => .array .int
  | 20 => .array .int
  | 21 => .array .int
  | 22 => .array .int
  | 23 => .array .int
  | 24 => .array .int
  | 25 => .array .int
  | 26 => .array .int
  | 27 => .array .boolean
  | 28 => .int
  | 29 => .array .int
  | 30 => .array .int
  | 31 => .array .int
  | 32 => .int
  | 33 => .array .int
  | 34 => .array .int
  | 35 => .array .int
  | 36 => .array .int
  | 37 => .array .int
  | _ => .int
theorem nmX13 : ∀ a, a < 39 → ∀ b, b < 39 → a ≠ b → (TX13 a).2.1 ≠ (TX13 b).2.1 := by decide +kernel
theorem tyX13_ok : ∀ k, k < 39 → parseFieldDescriptor (TX13 k).2.2.1 = some (tyX13 k) := by decide +kernel
def RX14 : String := "TemplateHouseModel"
def TX14 : u_T := fun k => match k with
  | 0 => ("TemplateHouseModel", "thrown", "I", false)
  | 1 => ("TemplateHouseModel", "ready", "[B", true)
  | 2 => ("TemplateHouseModel", "tape", "[B", true)
  | 3 => ("TemplateHouseModel", "taped", "I", false)
  | 4 => ("TemplateHouseModel", "files", "[[B", true)
  | 5 => ("TemplateHouseModel", "fileSize", "[I", true)
  | 6 => ("TemplateHouseModel", "groups", "[LTemplateHouseModel$Group;", true)
  | 7 => ("TemplateHouseModel", "g", "LTemplateHouseModel$Group;", false)
  | 8 => ("TemplateHouseModel", "now", "LTemplateHouseModel$Group;", false)
  | 9 => ("TemplateHouseModel", "made", "LTemplateHouseModel$Group;", false)
  | 10 => ("TemplateHouseModel", "fault", "I", false)
  | 11 => ("TemplateHouseModel", "faultFile", "I", false)
  | 12 => ("TemplateHouseModel", "faultPlace", "I", false)
  | 13 => ("TemplateHouseModel", "wasLoaded", "Z", false)
  | 14 => ("TemplateHouseModel", "f", "I", false)
  | 15 => ("TemplateHouseModel", "fb", "[B", false)
  | 16 => ("TemplateHouseModel", "fn", "I", false)
  | 17 => ("TemplateHouseModel", "fp", "I", false)
  | 18 => ("TemplateHouseModel", "open", "I", false)
  | 19 => ("TemplateHouseModel", "close", "I", false)
  | 20 => ("TemplateHouseModel", "onWay", "[Z", true)
  | 21 => ("TemplateHouseModel", "wordAt", "I", false)
  | 22 => ("TemplateHouseModel", "stringAt", "I", false)
  | 23 => ("TemplateHouseModel", "stringEnd", "I", false)
  | 24 => ("TemplateHouseModel", "keptAt", "I", false)
  | 25 => ("TemplateHouseModel", "keptSize", "I", false)
  | 26 => ("TemplateHouseModel", "tb", "[B", true)
  | 27 => ("TemplateHouseModel", "tp", "[I", true)
  | 28 => ("TemplateHouseModel", "tn", "I", false)
  | 29 => ("TemplateHouseModel", "at", "I", false)
  | 30 => ("TemplateHouseModel", "endPlace", "I", false)
  | 31 => ("TemplateHouseModel", "depth", "I", false)
  | 32 => ("TemplateHouseModel", "inTemplate", "I", false)
  | 33 => ("TemplateHouseModel", "inRegion", "I", false)
  | 34 => ("TemplateHouseModel", "wordKind", "[I", true)
  | 35 => ("TemplateHouseModel", "wordNode", "[I", true)
  | 36 => ("TemplateHouseModel", "wordPlace", "[I", true)
  | 37 => ("TemplateHouseModel", "gone", "[Z", true)
  | 38 => ("TemplateHouseModel", "words", "I", false)
  | 39 => ("TemplateHouseModel", "openMany", "I", false)
  | 40 => ("TemplateHouseModel", "openKind", "[I", true)
  | 41 => ("TemplateHouseModel", "namePlace", "I", false)
  | 42 => ("TemplateHouseModel", "at0", "I", false)
  | 43 => ("TemplateHouseModel", "values", "I", false)
  | 44 => ("TemplateHouseModel", "listed", "I", false)
  | 45 => ("TemplateHouseModel", "kept", "I", false)
  | 46 => ("TemplateHouseModel", "valueKind", "[I", true)
  | 47 => ("TemplateHouseModel", "number", "[J", true)
  | 48 => ("TemplateHouseModel", "letters", "[B", true)
  | 49 => ("TemplateHouseModel", "wordFrom", "[I", true)
  | 50 => ("TemplateHouseModel", "wordSize", "[I", true)
  | 51 => ("TemplateHouseModel", "many", "[I", true)
  | 52 => ("TemplateHouseModel", "listValue", "[I", true)
  | 53 => ("TemplateHouseModel", "keyFrom", "[I", true)
  | 54 => ("TemplateHouseModel", "keySize", "[I", true)
  | 55 => ("TemplateHouseModel", "mapValue", "[I", true)
  | 56 => ("TemplateHouseModel", "propertyFrom", "[I", true)
  | 57 => ("TemplateHouseModel", "propertySize", "[I", true)
  | 58 => ("TemplateHouseModel", "propertySort", "[I", true)
  | 59 => ("TemplateHouseModel", "propertyValue", "[I", true)
  | 60 => ("TemplateHouseModel", "added", "I", false)
  | 61 => ("TemplateHouseModel", "addedFrom", "[I", true)
  | 62 => ("TemplateHouseModel", "addedSize", "[I", true)
  | 63 => ("TemplateHouseModel", "addedValue", "[I", true)
  | 64 => ("TemplateHouseModel", "addedBytes", "[B", true)
  | 65 => ("TemplateHouseModel", "width", "I", false)
  | 66 => ("TemplateHouseModel", "took", "I", false)
  | 67 => ("TemplateHouseModel", "generations", "I", false)
  | 68 => ("TemplateHouseModel", "state", "I", false)
  | 69 => ("TemplateHouseModel", "out", "[B", true)
  | 70 => ("TemplateHouseModel", "outs", "I", false)
  | 71 => ("TemplateHouseModel", "limit", "I", false)
  | 72 => ("TemplateHouseModel", "halt", "I", false)
  | 73 => ("TemplateHouseModel", "errors", "I", false)
  | 74 => ("TemplateHouseModel", "looks", "I", false)
  | 75 => ("TemplateHouseModel", "errorKind", "[I", true)
  | 76 => ("TemplateHouseModel", "errorFile", "[I", true)
  | 77 => ("TemplateHouseModel", "errorPlace", "[I", true)
  | 78 => ("TemplateHouseModel", "lookBean", "[I", true)
  | 79 => ("TemplateHouseModel", "lookOf", "[I", true)
  | 80 => ("TemplateHouseModel", "textWidth", "I", false)
  | 81 => ("TemplateHouseModel", "textAdded", "I", false)
  | 82 => ("TemplateHouseModel", "textTemplate", "I", false)
  | 83 => ("TemplateHouseModel", "instances", "I", false)
  | 84 => ("TemplateHouseModel", "instText", "[I", true)
  | 85 => ("TemplateHouseModel", "instIn", "[I", true)
  | 86 => ("TemplateHouseModel", "instFrom", "[I", true)
  | 87 => ("TemplateHouseModel", "instMany", "[I", true)
  | 88 => ("TemplateHouseModel", "attributes", "I", false)
  | 89 => ("TemplateHouseModel", "attrName", "[I", true)
  | 90 => ("TemplateHouseModel", "attrValue", "[J", true)
  | 91 => ("TemplateHouseModel", "wordBytes", "[B", true)
  | 92 => ("TemplateHouseModel", "wordBytesUsed", "I", false)
  | 93 => ("TemplateHouseModel", "row", "[J", true)
  | 94 => ("TemplateHouseModel", "rowUsed", "I", false)
  | 95 => ("TemplateHouseModel", "pile", "[J", false)
  | 96 => ("TemplateHouseModel", "piled", "I", false)
  | 97 => ("TemplateHouseModel", "written", "I", false)
  | 98 => ("TemplateHouseModel", "hand", "I", false)
  | 99 => ("TemplateHouseModel", "nest", "I", false)
  | 100 => ("TemplateHouseModel", "listedNow", "I", false)
  | 101 => ("TemplateHouseModel", "wasThere", "Z", false)
  | 102 => ("TemplateHouseModel", "plain", "[B", true)
  | 103 => ("TemplateHouseModel", "plainSize", "I", false)
  | 104 => ("TemplateHouseModel", "writer", "I", false)
  | 105 => ("TemplateHouseModel", "columnOf", "[I", true)
  | 106 => ("TemplateHouseModel", "sizeOfWord", "[I", true)
  | 107 => ("TemplateHouseModel", "indentBase", "[I", true)
  | 108 => ("TemplateHouseModel", "anchorBase", "[I", true)
  | 109 => ("TemplateHouseModel", "putOut", "[J", true)
  | 110 => ("TemplateHouseModel", "atBeginning", "[Z", true)
  | 111 => ("TemplateHouseModel", "wordOf", "[B", true)
  | 112 => ("TemplateHouseModel", "indents", "I", false)
  | 113 => ("TemplateHouseModel", "anchors", "I", false)
  | 114 => ("TemplateHouseModel", "indentFrom", "[I", true)
  | 115 => ("TemplateHouseModel", "indentSize", "[I", true)
  | 116 => ("TemplateHouseModel", "anchorAt", "[I", true)
  | 117 => ("TemplateHouseModel", "counters", "[B", true)
  | 118 => ("TemplateHouseModel", "nameI", "I", false)
  | 119 => ("TemplateHouseModel", "nameI0", "I", false)
  | 120 => ("TemplateHouseModel", "condOf", "[I", true)
  | 121 => ("TemplateHouseModel", "condAt", "[I", true)
  | 122 => ("TemplateHouseModel", "conds", "I", false)
  | 123 => ("TemplateHouseModel", "options", "I", false)
  | 124 => ("TemplateHouseModel", "separatorOf", "[J", true)
  | 125 => ("TemplateHouseModel", "nullOf", "[J", true)
  | 126 => ("TemplateHouseModel", "formatOf", "[I", true)
  | 127 => ("TemplateHouseModel", "digitsOf", "[I", true)
  | 128 => ("TemplateHouseModel", "wrapFrom", "[I", true)
  | 129 => ("TemplateHouseModel", "wrapSize", "[I", true)
  | 130 => ("TemplateHouseModel", "frameOf", "[J", false)
  | 131 => ("TemplateHouseModel", "frameAt", "[I", false)
  | 132 => ("TemplateHouseModel", "frameEnd", "[I", false)
  | 133 => ("TemplateHouseModel", "frameFrom", "[I", false)
  | 134 => ("TemplateHouseModel", "frameSeen", "[Z", false)
  | 135 => ("TemplateHouseModel", "frames", "I", false)
  | 136 => ("TemplateHouseModel", "shaped", "[B", true)
  | 137 => ("TemplateHouseModel", "shapedSize", "I", false)
  | _ => ("TemplateHouseModel", "addedName", "[I", true)
def tyX14 : Nat → FieldType := fun k => match k with
  | 0 => .int
  | 1 => .array .byte
  | 2 => .array .byte
  | 3 => .int
  | 4 => .array (.array .byte)
  | 5 => .array .int
  | 6 => .array (.object "TemplateHouseModel$Group")
  | 7 => .object "TemplateHouseModel$Group"
  | 8 => .object "TemplateHouseModel$Group"
  | 9 => .object "TemplateHouseModel$Group"
  | 10 => .int
  | 11 => .int
  | 12 => .int
  | 13 => .boolean
  | 14 => .int
  | 15 => .array .byte
  | 16 => .int
  | 17 => .int
  | 18 => .int
  | 19 => .int
  | 20 => .array .boolean
  | 21 => .int
  | 22 => .int
  | 23 => .int
  | 24 => .int
  | 25 => .int
  | 26 => .array .byte
  | 27 => .array .int
  | 28 => .int
  | 29 => .int
  | 30 => .int
  | 31 => .int
  | 32 => .int
  | 33 => .int
  | 34 => .array .int
  | 35 => .array .int
  | 36 => .array .int
  | 37 => .array .boolean
  | 38 => .int
  | 39 => .int
  | 40 => .array .int
  | 41 => .int
  | 42 => .int
  | 43 => .int
  | 44 => .int
  | 45 => .int
  | 46 => .array .int
  | 47 => .array .long
  | 48 => .array .byte
  | 49 => .array .int
  | 50 => .array .int
  | 51 => .array .int
  | 52 => .array .int
  | 53 => .array .int
  | 54 => .array .int
  | 55 => .array .int
  | 56 => .array .int
  | 57 => .array .int
  | 58 => .array .int
  | 59 => .array .int
  | 60 => .int
  | 61 => .array .int
  | 62 => .array .int
  | 63 => .array .int
  | 64 => .array .byte
  | 65 => .int
  | 66 => .int
  | 67 => .int
  | 68 => .int
  | 69 => .array .byte
  | 70 => .int
  | 71 => .int
  | 72 => .int
  | 73 => .int
  | 74 => .int
  | 75 => .array .int
  | 76 => .array .int
  | 77 => .array .int
  | 78 => .array .int
  | 79 => .array .int
  | 80 => .int
  | 81 => .int
  | 82 => .int
  | 83 => .int
  | 84 => .array .int
  | 85 => .array .int
  | 86 => .array .int
  | 87 => .array .int
  | 88 => .int
  | 89 => .array .int
  | 90 => .array .long
  | 91 => .array .byte
  | 92 => .int
  | 93 => .array .long
  | 94 => .int
  | 95 => .array .long
  | 96 => .int
  | 97 => .int
  | 98 => .int
  | 99 => .int
  | 100 => .int
  | 101 => .boolean
  | 102 => .array .byte
  | 103 => .int
  | 104 => .int
  | 105 => .array .int
  | 106 => .array .int
  | 107 => .array .int
  | 108 => .array .int
  | 109 => .array .long
  | 110 => .array .boolean
  | 111 => .array .byte
  | 112 => .int
  | 113 => .int
  | 114 => .array .int
  | 115 => .array .int
  | 116 => .array .int
  | 117 => .array .byte
  | 118 => .int
  | 119 => .int
  | 120 => .array .int
  | 121 => .array .int
  | 122 => .int
  | 123 => .int
  | 124 => .array .long
  | 125 => .array .long
  | 126 => .array .int
  | 127 => .array .int
  | 128 => .array .int
  | 129 => .array .int
  | 130 => .array .long
  | 131 => .array .int
  | 132 => .array .int
  | 133 => .array .int
  | 134 => .array .boolean
  | 135 => .int
  | 136 => .array .byte
  | 137 => .int
  | _ => .array .int
theorem nmX14 : ∀ a, a < 139 → ∀ b, b < 139 → a ≠ b → (TX14 a).2.1 ≠ (TX14 b).2.1 := by decide +kernel
theorem tyX14_ok : ∀ k, k < 139 → parseFieldDescriptor (TX14 k).2.2.1 = some (tyX14 k) := by decide +kernel
def zcl : List vw_C := [(RX0, TX0, 5), (RX1, TX1, 19), (RX2, TX2, 17), (RX3, TX3, 20), (RX4, TX4, 6), (RX5, TX5, 21), (RX6, TX6, 6), (RX7, TX7, 12), (RX8, TX8, 14), (RX9, TX9, 3), (RX10, TX10, 17), (RX11, TX11, 16), (RX12, TX12, 19), (RX13, TX13, 39), (RX14, TX14, 139)]
theorem zin {w : Cond} (i : Nat) (h : lw_tbl[i]? = some w) (g : goodWord w = true) : w ∈ lw_tbl.filter goodWord := List.mem_filter.mpr ⟨List.mem_of_getElem? h, g⟩
def zT : List Cond := lw_tbl.filter goodWord
theorem zinAll {ws : List Cond} (ps : List Nat) (hp : ws = ps.filterMap (fun i => lw_tbl[i]?)) (g : ws.all goodWord = true) : ∀ w ∈ ws, w ∈ zT := fun w hw => by
  have h1 := List.all_eq_true.mp g w hw
  rw [hp] at hw
  obtain ⟨i, -, hi⟩ := List.mem_filterMap.mp hw
  exact List.mem_filter.mpr ⟨List.mem_of_getElem? hi, h1⟩
/-- a class of ours: its number, its fields, their words in the tables -/
def zF (ci : Nat) (C : String) (T : u_T) (N : Nat) (ty : Nat → FieldType) : Prop := zcl[ci]? = some (C, T, N) ∧ (∀ w ∈ u_ws C T N, w ∈ zT) ∧ (∀ k, k < N → parseFieldDescriptor (T k).2.2.1 = some (ty k)) ∧ (∀ a, a < N → ∀ b, b < N → a ≠ b → (T a).2.1 ≠ (T b).2.1)
set_option maxRecDepth 20000 in
theorem zf0 : zF 0 RX0 TX0 5 tyX0 := ⟨rfl, zinAll [477, 479, 481, 483, 485] (by decide +kernel) (by decide +kernel), tyX0_ok, nmX0⟩
set_option maxRecDepth 20000 in
theorem zf1 : zF 1 RX1 TX1 19 tyX1 := ⟨rfl, zinAll [427, 429, 431, 433, 435, 437, 439, 441, 443, 445, 447, 449, 451, 453, 455, 457, 459, 461, 463] (by decide +kernel) (by decide +kernel), tyX1_ok, nmX1⟩
set_option maxRecDepth 20000 in
theorem zf2 : zF 2 RX2 TX2 17 tyX2 := ⟨rfl, zinAll [306, 308, 310, 312, 314, 316, 318, 320, 322, 324, 326, 328, 330, 332, 334, 336, 338] (by decide +kernel) (by decide +kernel), tyX2_ok, nmX2⟩
set_option maxRecDepth 20000 in
theorem zf3 : zF 3 RX3 TX3 20 tyX3 := ⟨rfl, zinAll [554, 556, 558, 560, 562, 564, 566, 568, 570, 572, 574, 576, 578, 580, 582, 584, 586, 588, 590, 592] (by decide +kernel) (by decide +kernel), tyX3_ok, nmX3⟩
set_option maxRecDepth 20000 in
theorem zf4 : zF 4 RX4 TX4 6 tyX4 := ⟨rfl, zinAll [240, 242, 244, 246, 248, 250] (by decide +kernel) (by decide +kernel), tyX4_ok, nmX4⟩
set_option maxRecDepth 20000 in
theorem zf5 : zF 5 RX5 TX5 21 tyX5 := ⟨rfl, zinAll [689, 691, 693, 695, 697, 699, 701, 703, 705, 707, 709, 711, 713, 715, 717, 719, 721, 723, 725, 727, 729] (by decide +kernel) (by decide +kernel), tyX5_ok, nmX5⟩
set_option maxRecDepth 20000 in
theorem zf6 : zF 6 RX6 TX6 6 tyX6 := ⟨rfl, zinAll [211, 213, 215, 217, 219, 221] (by decide +kernel) (by decide +kernel), tyX6_ok, nmX6⟩
set_option maxRecDepth 20000 in
theorem zf7 : zF 7 RX7 TX7 12 tyX7 := ⟨rfl, zinAll [161, 163, 165, 167, 169, 171, 173, 175, 177, 179, 181, 183] (by decide +kernel) (by decide +kernel), tyX7_ok, nmX7⟩
set_option maxRecDepth 20000 in
theorem zf8 : zF 8 RX8 TX8 14 tyX8 := ⟨rfl, zinAll [101, 103, 105, 107, 109, 111, 113, 115, 117, 119, 121, 123, 125, 127] (by decide +kernel) (by decide +kernel), tyX8_ok, nmX8⟩
set_option maxRecDepth 20000 in
theorem zf9 : zF 9 RX9 TX9 3 tyX9 := ⟨rfl, zinAll [511, 513, 515] (by decide +kernel) (by decide +kernel), tyX9_ok, nmX9⟩
set_option maxRecDepth 20000 in
theorem zf10 : zF 10 RX10 TX10 17 tyX10 := ⟨rfl, zinAll [373, 375, 377, 379, 381, 383, 385, 387, 389, 391, 393, 395, 397, 399, 401, 403, 405] (by decide +kernel) (by decide +kernel), tyX10_ok, nmX10⟩
set_option maxRecDepth 20000 in
theorem zf11 : zF 11 RX11 TX11 16 tyX11 := ⟨rfl, zinAll [631, 633, 635, 637, 639, 641, 643, 645, 647, 649, 651, 653, 655, 657, 659, 661] (by decide +kernel) (by decide +kernel), tyX11_ok, nmX11⟩
set_option maxRecDepth 20000 in
theorem zf12 : zF 12 RX12 TX12 19 tyX12 := ⟨rfl, zinAll [751, 753, 755, 757, 759, 761, 763, 765, 767, 769, 771, 773, 775, 777, 779, 781, 783, 785, 787] (by decide +kernel) (by decide +kernel), tyX12_ok, nmX12⟩
set_option maxRecDepth 20000 in
theorem zf13 : zF 13 RX13 TX13 39 tyX13 := ⟨rfl, zinAll [2409, 2411, 2413, 2415, 2417, 2419, 2421, 2423, 2425, 2427, 2429, 2431, 2433, 2435, 2437, 2439, 2441, 2443, 2445, 2447, 2449, 2451, 2453, 2455, 2457, 2459, 2461, 2463, 2465, 2467, 2469, 2471, 2473, 2475, 2477, 2479, 2481, 2483, 2485] (by decide +kernel) (by decide +kernel), tyX13_ok, nmX13⟩
set_option maxRecDepth 20000 in
theorem zf14 : zF 14 RX14 TX14 139 tyX14 := ⟨rfl, zinAll [2630, 2632, 2634, 2636, 2638, 2640, 2642, 2644, 2646, 2648, 2650, 2652, 2654, 2656, 2658, 2660, 2662, 2664, 2666, 2668, 2670, 2672, 2674, 2676, 2678, 2680, 2682, 2684, 2686, 2688, 2690, 2692, 2694, 2696, 2698, 2700, 2702, 2704, 2706, 2708, 2710, 2712, 2714, 2716, 2718, 2720, 2722, 2724, 2726, 2728, 2730, 2732, 2734, 2736, 2738, 2740, 2742, 2744, 2746, 2748, 2750, 2752, 2754, 2756, 2758, 2760, 2762, 2764, 2766, 2768, 2770, 2772, 2774, 2776, 2778, 2780, 2782, 2784, 2786, 2788, 2790, 2792, 2794, 2796, 2798, 2800, 2802, 2804, 2806, 2808, 2810, 2812, 2814, 2816, 2818, 2820, 2822, 2824, 2826, 2828, 2830, 2832, 2834, 2836, 2838, 2840, 2842, 2844, 2846, 2848, 2850, 2852, 2854, 2856, 2858, 2860, 2862, 2864, 2866, 2868, 2870, 2872, 2874, 2876, 2878, 2880, 2882, 2884, 2886, 2888, 2890, 2892, 2894, 2896, 2898, 2900, 2902, 2904, 2906] (by decide +kernel) (by decide +kernel), tyX14_ok, nmX14⟩
