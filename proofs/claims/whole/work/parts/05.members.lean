theorem mB_0 : (.selects "DebtRows" ⟨"DebtRows", "find", "(I)LDebtRows$Debt;"⟩ ⟨"DebtRows", "find", "(I)LDebtRows$Debt;"⟩ : Cond) ∈ BIG := List.mem_of_getElem? (i := 0) rfl
theorem mB_1 : (.selects "DebtRows" ⟨"DebtRows", "overAllDebts", "(I)J"⟩ ⟨"DebtRows", "overAllDebts", "(I)J"⟩ : Cond) ∈ BIG := List.mem_of_getElem? (i := 1) rfl
theorem mB_3 : (.selects "DebtRows" ⟨"DebtRows", "findOrRefuse", "(I)LDebtRows$Debt;"⟩ ⟨"DebtRows", "findOrRefuse", "(I)LDebtRows$Debt;"⟩ : Cond) ∈ BIG := List.mem_of_getElem? (i := 3) rfl
theorem mB_15 : ((Jvm.Cond.initialized "DebtRows") : Cond) ∈ BIG := List.mem_of_getElem? (i := 15) rfl
theorem mB_16 : ((Jvm.Cond.initialized "DebtRows$Rates") : Cond) ∈ BIG := List.mem_of_getElem? (i := 16) rfl
theorem mB_21 : ((Jvm.Cond.initialized "java/lang/ArithmeticException") : Cond) ∈ BIG := List.mem_of_getElem? (i := 21) rfl
theorem mB_22 : ((Jvm.Cond.initialized "java/lang/IllegalArgumentException") : Cond) ∈ BIG := List.mem_of_getElem? (i := 22) rfl
theorem mB_23 : ((Jvm.Cond.initialized "java/lang/IllegalStateException") : Cond) ∈ BIG := List.mem_of_getElem? (i := 23) rfl
theorem mB_24 : ((Jvm.Cond.initialized "DebtRows$Debt") : Cond) ∈ BIG := List.mem_of_getElem? (i := 24) rfl
theorem mB_25 : ((Jvm.Cond.initialized "java/lang/Math") : Cond) ∈ BIG := List.mem_of_getElem? (i := 25) rfl
theorem mB_26 : ((Jvm.Cond.initialized "java/lang/IndexOutOfBoundsException") : Cond) ∈ BIG := List.mem_of_getElem? (i := 26) rfl
theorem mB_32 : ((Jvm.Cond.methodLink "DebtRows" (1 : Nat) ({ cls := "java/lang/Object", name := "<init>", desc := "()V" } : Jvm.MethodName)) : Cond) ∈ BIG := List.mem_of_getElem? (i := 32) rfl
theorem mB_33 : ((Jvm.Cond.instanceMethod ({ cls := "java/lang/Object", name := "<init>", desc := "()V" } : Jvm.MethodName)) : Cond) ∈ BIG := List.mem_of_getElem? (i := 33) rfl
theorem mB_35 : ((Jvm.Cond.classLink "DebtRows" (7 : Nat) "DebtRows$Rates") : Cond) ∈ BIG := List.mem_of_getElem? (i := 35) rfl
theorem mB_36 : ((Jvm.Cond.instantiable "DebtRows$Rates" (4 : Nat)) : Cond) ∈ BIG := List.mem_of_getElem? (i := 36) rfl
theorem mB_37 : ((Jvm.Cond.methodLink "DebtRows" (9 : Nat) ({ cls := "DebtRows$Rates", name := "<init>", desc := "()V" } : Jvm.MethodName)) : Cond) ∈ BIG := List.mem_of_getElem? (i := 37) rfl
theorem mB_38 : ((Jvm.Cond.instanceMethod ({ cls := "DebtRows$Rates", name := "<init>", desc := "()V" } : Jvm.MethodName)) : Cond) ∈ BIG := List.mem_of_getElem? (i := 38) rfl
theorem mB_39 : ((Jvm.Cond.code ({ cls := "DebtRows$Rates", name := "<init>", desc := "()V" } : Jvm.MethodName) prog_3_method_1_code (1 : Nat) (Option.none : Option Jvm.ClassFile.FieldType)) : Cond) ∈ BIG := List.mem_of_getElem? (i := 39) rfl
theorem mB_40 : ((Jvm.Cond.methodLink "DebtRows$Rates" (3 : Nat) ({ cls := "java/lang/Object", name := "<init>", desc := "()V" } : Jvm.MethodName)) : Cond) ∈ BIG := List.mem_of_getElem? (i := 40) rfl
theorem mB_41 : ((Jvm.Cond.fieldLink "DebtRows$Rates" (9 : Nat) "DebtRows$Rates" "from" "[I") : Cond) ∈ BIG := List.mem_of_getElem? (i := 41) rfl
theorem mB_42 : ((Jvm.Cond.fieldLink "DebtRows$Rates" (15 : Nat) "DebtRows$Rates" "up" "[I") : Cond) ∈ BIG := List.mem_of_getElem? (i := 42) rfl
theorem mB_43 : ((Jvm.Cond.fieldLink "DebtRows$Rates" (18 : Nat) "DebtRows$Rates" "down" "[I") : Cond) ∈ BIG := List.mem_of_getElem? (i := 43) rfl
theorem mB_44 : ((Jvm.Cond.fieldLink "DebtRows$Rates" (21 : Nat) "DebtRows$Rates" "count" "I") : Cond) ∈ BIG := List.mem_of_getElem? (i := 44) rfl
theorem mB_45 : ((Jvm.Cond.fieldLink "DebtRows" (52 : Nat) "DebtRows$Rates" "count" "I") : Cond) ∈ BIG := List.mem_of_getElem? (i := 45) rfl
theorem mB_51 : ((Jvm.Cond.arrayClass Jvm.ClassFile.FieldType.int) : Cond) ∈ BIG := List.mem_of_getElem? (i := 51) rfl
theorem mB_52 : ((Jvm.Cond.classLink "DebtRows" (16 : Nat) "DebtRows$Debt") : Cond) ∈ BIG := List.mem_of_getElem? (i := 52) rfl
theorem mB_53 : ((Jvm.Cond.fieldLink "DebtRows" (10 : Nat) "DebtRows" "rates" "LDebtRows$Rates;") : Cond) ∈ BIG := List.mem_of_getElem? (i := 53) rfl
theorem mB_54 : ((Jvm.Cond.fieldLink "DebtRows" (18 : Nat) "DebtRows" "debts" "[LDebtRows$Debt;") : Cond) ∈ BIG := List.mem_of_getElem? (i := 54) rfl
theorem mB_55 : ((Jvm.Cond.fieldLink "DebtRows" (22 : Nat) "DebtRows" "credit" "[J") : Cond) ∈ BIG := List.mem_of_getElem? (i := 55) rfl
theorem mB_56 : ((Jvm.Cond.fieldLink "DebtRows" (26 : Nat) "DebtRows" "debtCount" "I") : Cond) ∈ BIG := List.mem_of_getElem? (i := 56) rfl
theorem mB_57 : ((Jvm.Cond.fieldLink "DebtRows" (30 : Nat) "DebtRows" "today" "I") : Cond) ∈ BIG := List.mem_of_getElem? (i := 57) rfl
theorem mB_64 : ((Jvm.Cond.arrayClass Jvm.ClassFile.FieldType.long) : Cond) ∈ BIG := List.mem_of_getElem? (i := 64) rfl
theorem mB_69 : ((Jvm.Cond.methodLink "DebtRows" (84 : Nat) ({ cls := "DebtRows", name := "find", desc := "(I)LDebtRows$Debt;" } : Jvm.MethodName)) : Cond) ∈ BIG := List.mem_of_getElem? (i := 69) rfl
theorem mB_70 : ((Jvm.Cond.instanceMethod ({ cls := "DebtRows", name := "find", desc := "(I)LDebtRows$Debt;" } : Jvm.MethodName)) : Cond) ∈ BIG := List.mem_of_getElem? (i := 70) rfl
theorem mB_71 : ((Jvm.Cond.code ({ cls := "DebtRows", name := "find", desc := "(I)LDebtRows$Debt;" } : Jvm.MethodName) prog_1_method_16_code (2 : Nat) (Option.some (Jvm.ClassFile.FieldType.object "DebtRows$Debt"))) : Cond) ∈ BIG := List.mem_of_getElem? (i := 71) rfl
theorem mB_72 : ((Jvm.Cond.methodLink "DebtRows" (70 : Nat) ({ cls := "DebtRows", name := "isPerson", desc := "(I)Z" } : Jvm.MethodName)) : Cond) ∈ BIG := List.mem_of_getElem? (i := 72) rfl
theorem mB_73 : ((Jvm.Cond.static ({ cls := "DebtRows", name := "isPerson", desc := "(I)Z" } : Jvm.MethodName)) : Cond) ∈ BIG := List.mem_of_getElem? (i := 73) rfl
theorem mB_74 : ((Jvm.Cond.code ({ cls := "DebtRows", name := "isPerson", desc := "(I)Z" } : Jvm.MethodName) prog_1_method_18_code (1 : Nat) (Option.some Jvm.ClassFile.FieldType.boolean)) : Cond) ∈ BIG := List.mem_of_getElem? (i := 74) rfl
theorem mB_75 : ((Jvm.Cond.methodLink "DebtRows" (81 : Nat) ({ cls := "DebtRows$Debt", name := "join", desc := "(I)Z" } : Jvm.MethodName)) : Cond) ∈ BIG := List.mem_of_getElem? (i := 75) rfl
theorem mB_76 : ((Jvm.Cond.instanceMethod ({ cls := "DebtRows$Debt", name := "join", desc := "(I)Z" } : Jvm.MethodName)) : Cond) ∈ BIG := List.mem_of_getElem? (i := 76) rfl
theorem mB_77 : ((Jvm.Cond.selects "DebtRows$Debt" ({ cls := "DebtRows$Debt", name := "join", desc := "(I)Z" } : Jvm.MethodName) ({ cls := "DebtRows$Debt", name := "join", desc := "(I)Z" } : Jvm.MethodName)) : Cond) ∈ BIG := List.mem_of_getElem? (i := 77) rfl
theorem mB_78 : ((Jvm.Cond.code ({ cls := "DebtRows$Debt", name := "join", desc := "(I)Z" } : Jvm.MethodName) prog_2_method_2_code (2 : Nat) (Option.some Jvm.ClassFile.FieldType.boolean)) : Cond) ∈ BIG := List.mem_of_getElem? (i := 78) rfl
theorem mB_79 : ((Jvm.Cond.methodLink "DebtRows$Debt" (39 : Nat) ({ cls := "DebtRows$Debt", name := "placeOf", desc := "(I)I" } : Jvm.MethodName)) : Cond) ∈ BIG := List.mem_of_getElem? (i := 79) rfl
theorem mB_80 : ((Jvm.Cond.instanceMethod ({ cls := "DebtRows$Debt", name := "placeOf", desc := "(I)I" } : Jvm.MethodName)) : Cond) ∈ BIG := List.mem_of_getElem? (i := 80) rfl
theorem mB_81 : ((Jvm.Cond.selects "DebtRows$Debt" ({ cls := "DebtRows$Debt", name := "placeOf", desc := "(I)I" } : Jvm.MethodName) ({ cls := "DebtRows$Debt", name := "placeOf", desc := "(I)I" } : Jvm.MethodName)) : Cond) ∈ BIG := List.mem_of_getElem? (i := 81) rfl
theorem mB_82 : ((Jvm.Cond.code ({ cls := "DebtRows$Debt", name := "placeOf", desc := "(I)I" } : Jvm.MethodName) prog_2_method_3_code (3 : Nat) (Option.some Jvm.ClassFile.FieldType.int)) : Cond) ∈ BIG := List.mem_of_getElem? (i := 82) rfl
theorem mB_87 : ((Jvm.Cond.methodLink "DebtRows" (189 : Nat) ({ cls := "DebtRows", name := "overAllDebts", desc := "(I)J" } : Jvm.MethodName)) : Cond) ∈ BIG := List.mem_of_getElem? (i := 87) rfl
theorem mB_88 : ((Jvm.Cond.instanceMethod ({ cls := "DebtRows", name := "overAllDebts", desc := "(I)J" } : Jvm.MethodName)) : Cond) ∈ BIG := List.mem_of_getElem? (i := 88) rfl
theorem mB_89 : ((Jvm.Cond.code ({ cls := "DebtRows", name := "overAllDebts", desc := "(I)J" } : Jvm.MethodName) prog_1_method_15_code (6 : Nat) (Option.some Jvm.ClassFile.FieldType.long)) : Cond) ∈ BIG := List.mem_of_getElem? (i := 89) rfl
theorem mB_90 : ((Jvm.Cond.methodLink "DebtRows" (192 : Nat) ({ cls := "DebtRows$Debt", name := "part", desc := "(I)J" } : Jvm.MethodName)) : Cond) ∈ BIG := List.mem_of_getElem? (i := 90) rfl
theorem mB_91 : ((Jvm.Cond.instanceMethod ({ cls := "DebtRows$Debt", name := "part", desc := "(I)J" } : Jvm.MethodName)) : Cond) ∈ BIG := List.mem_of_getElem? (i := 91) rfl
theorem mB_92 : ((Jvm.Cond.selects "DebtRows$Debt" ({ cls := "DebtRows$Debt", name := "part", desc := "(I)J" } : Jvm.MethodName) ({ cls := "DebtRows$Debt", name := "part", desc := "(I)J" } : Jvm.MethodName)) : Cond) ∈ BIG := List.mem_of_getElem? (i := 92) rfl
theorem mB_93 : ((Jvm.Cond.code ({ cls := "DebtRows$Debt", name := "part", desc := "(I)J" } : Jvm.MethodName) prog_2_method_20_code (2 : Nat) (Option.some Jvm.ClassFile.FieldType.long)) : Cond) ∈ BIG := List.mem_of_getElem? (i := 93) rfl
theorem mB_94 : ((Jvm.Cond.constantLong "DebtRows" (126 : Nat) (-1 : Int64)) : Cond) ∈ BIG := List.mem_of_getElem? (i := 94) rfl
theorem mB_104 : ((Jvm.Cond.classLink "DebtRows" (33 : Nat) "java/lang/ArithmeticException") : Cond) ∈ BIG := List.mem_of_getElem? (i := 104) rfl
theorem mB_156 : ((Jvm.Cond.methodLink "DebtRows" (40 : Nat) ({ cls := "DebtRows$Rates", name := "latestDay", desc := "()I" } : Jvm.MethodName)) : Cond) ∈ BIG := List.mem_of_getElem? (i := 156) rfl
theorem mB_157 : ((Jvm.Cond.instanceMethod ({ cls := "DebtRows$Rates", name := "latestDay", desc := "()I" } : Jvm.MethodName)) : Cond) ∈ BIG := List.mem_of_getElem? (i := 157) rfl
theorem mB_158 : ((Jvm.Cond.selects "DebtRows$Rates" ({ cls := "DebtRows$Rates", name := "latestDay", desc := "()I" } : Jvm.MethodName) ({ cls := "DebtRows$Rates", name := "latestDay", desc := "()I" } : Jvm.MethodName)) : Cond) ∈ BIG := List.mem_of_getElem? (i := 158) rfl
theorem mB_159 : ((Jvm.Cond.code ({ cls := "DebtRows$Rates", name := "latestDay", desc := "()I" } : Jvm.MethodName) prog_3_method_2_code (1 : Nat) (Option.some Jvm.ClassFile.FieldType.int)) : Cond) ∈ BIG := List.mem_of_getElem? (i := 159) rfl
theorem mB_160 : ((Jvm.Cond.constant "DebtRows" (44 : Nat) (100000 : Int32)) : Cond) ∈ BIG := List.mem_of_getElem? (i := 160) rfl
theorem mB_161 : ((Jvm.Cond.classLink "DebtRows" (45 : Nat) "java/lang/IllegalArgumentException") : Cond) ∈ BIG := List.mem_of_getElem? (i := 161) rfl
theorem mB_175 : ((Jvm.Cond.classLink "DebtRows" (55 : Nat) "java/lang/IllegalStateException") : Cond) ∈ BIG := List.mem_of_getElem? (i := 175) rfl
theorem mB_189 : ((Jvm.Cond.methodLink "DebtRows" (60 : Nat) ({ cls := "DebtRows$Rates", name := "append", desc := "(III)V" } : Jvm.MethodName)) : Cond) ∈ BIG := List.mem_of_getElem? (i := 189) rfl
theorem mB_190 : ((Jvm.Cond.instanceMethod ({ cls := "DebtRows$Rates", name := "append", desc := "(III)V" } : Jvm.MethodName)) : Cond) ∈ BIG := List.mem_of_getElem? (i := 190) rfl
theorem mB_191 : ((Jvm.Cond.selects "DebtRows$Rates" ({ cls := "DebtRows$Rates", name := "append", desc := "(III)V" } : Jvm.MethodName) ({ cls := "DebtRows$Rates", name := "append", desc := "(III)V" } : Jvm.MethodName)) : Cond) ∈ BIG := List.mem_of_getElem? (i := 191) rfl
theorem mB_192 : ((Jvm.Cond.code ({ cls := "DebtRows$Rates", name := "append", desc := "(III)V" } : Jvm.MethodName) prog_3_method_3_code (4 : Nat) (Option.none : Option Jvm.ClassFile.FieldType)) : Cond) ∈ BIG := List.mem_of_getElem? (i := 192) rfl
theorem mB_199 : ((Jvm.Cond.methodLink "DebtRows" (64 : Nat) ({ cls := "DebtRows", name := "isSum", desc := "(J)Z" } : Jvm.MethodName)) : Cond) ∈ BIG := List.mem_of_getElem? (i := 199) rfl
theorem mB_200 : ((Jvm.Cond.static ({ cls := "DebtRows", name := "isSum", desc := "(J)Z" } : Jvm.MethodName)) : Cond) ∈ BIG := List.mem_of_getElem? (i := 200) rfl
theorem mB_201 : ((Jvm.Cond.code ({ cls := "DebtRows", name := "isSum", desc := "(J)Z" } : Jvm.MethodName) prog_1_method_19_code (2 : Nat) (Option.some Jvm.ClassFile.FieldType.boolean)) : Cond) ∈ BIG := List.mem_of_getElem? (i := 201) rfl
theorem mB_202 : ((Jvm.Cond.constantLong "DebtRows" (195 : Nat) (1000000000 : Int64)) : Cond) ∈ BIG := List.mem_of_getElem? (i := 202) rfl
theorem mB_203 : ((Jvm.Cond.instantiable "DebtRows$Debt" (15 : Nat)) : Cond) ∈ BIG := List.mem_of_getElem? (i := 203) rfl
theorem mB_204 : ((Jvm.Cond.methodLink "DebtRows" (78 : Nat) ({ cls := "DebtRows$Debt", name := "<init>", desc := "(JI)V" } : Jvm.MethodName)) : Cond) ∈ BIG := List.mem_of_getElem? (i := 204) rfl
theorem mB_205 : ((Jvm.Cond.instanceMethod ({ cls := "DebtRows$Debt", name := "<init>", desc := "(JI)V" } : Jvm.MethodName)) : Cond) ∈ BIG := List.mem_of_getElem? (i := 205) rfl
theorem mB_206 : ((Jvm.Cond.code ({ cls := "DebtRows$Debt", name := "<init>", desc := "(JI)V" } : Jvm.MethodName) prog_2_method_1_code (4 : Nat) (Option.none : Option Jvm.ClassFile.FieldType)) : Cond) ∈ BIG := List.mem_of_getElem? (i := 206) rfl
theorem mB_207 : ((Jvm.Cond.methodLink "DebtRows$Debt" (3 : Nat) ({ cls := "java/lang/Object", name := "<init>", desc := "()V" } : Jvm.MethodName)) : Cond) ∈ BIG := List.mem_of_getElem? (i := 207) rfl
theorem mB_208 : ((Jvm.Cond.fieldLink "DebtRows$Debt" (9 : Nat) "DebtRows$Debt" "cents" "J") : Cond) ∈ BIG := List.mem_of_getElem? (i := 208) rfl
theorem mB_209 : ((Jvm.Cond.fieldLink "DebtRows" (150 : Nat) "DebtRows$Debt" "cents" "J") : Cond) ∈ BIG := List.mem_of_getElem? (i := 209) rfl
theorem mB_210 : ((Jvm.Cond.fieldLink "DebtRows$Debt" (15 : Nat) "DebtRows$Debt" "birth" "I") : Cond) ∈ BIG := List.mem_of_getElem? (i := 210) rfl
theorem mB_211 : ((Jvm.Cond.fieldLink "DebtRows" (178 : Nat) "DebtRows$Debt" "birth" "I") : Cond) ∈ BIG := List.mem_of_getElem? (i := 211) rfl
theorem mB_212 : ((Jvm.Cond.fieldLink "DebtRows$Debt" (19 : Nat) "DebtRows$Debt" "people" "[I") : Cond) ∈ BIG := List.mem_of_getElem? (i := 212) rfl
theorem mB_213 : ((Jvm.Cond.fieldLink "DebtRows$Debt" (23 : Nat) "DebtRows$Debt" "paid" "[J") : Cond) ∈ BIG := List.mem_of_getElem? (i := 213) rfl
theorem mB_214 : ((Jvm.Cond.fieldLink "DebtRows$Debt" (36 : Nat) "DebtRows$Debt" "debtors" "I") : Cond) ∈ BIG := List.mem_of_getElem? (i := 214) rfl
theorem mB_215 : ((Jvm.Cond.fieldLink "DebtRows" (181 : Nat) "DebtRows$Debt" "debtors" "I") : Cond) ∈ BIG := List.mem_of_getElem? (i := 215) rfl
theorem mB_216 : ((Jvm.Cond.fieldLink "DebtRows$Debt" (27 : Nat) "DebtRows$Debt" "state" "I") : Cond) ∈ BIG := List.mem_of_getElem? (i := 216) rfl
theorem mB_217 : ((Jvm.Cond.fieldLink "DebtRows" (88 : Nat) "DebtRows$Debt" "state" "I") : Cond) ∈ BIG := List.mem_of_getElem? (i := 217) rfl
theorem mB_218 : ((Jvm.Cond.fieldLink "DebtRows$Debt" (30 : Nat) "DebtRows$Debt" "dueDay" "I") : Cond) ∈ BIG := List.mem_of_getElem? (i := 218) rfl
theorem mB_219 : ((Jvm.Cond.fieldLink "DebtRows" (97 : Nat) "DebtRows$Debt" "dueDay" "I") : Cond) ∈ BIG := List.mem_of_getElem? (i := 219) rfl
theorem mB_220 : ((Jvm.Cond.fieldLink "DebtRows$Debt" (53 : Nat) "DebtRows$Debt" "interestBehind" "I") : Cond) ∈ BIG := List.mem_of_getElem? (i := 220) rfl
theorem mB_221 : ((Jvm.Cond.fieldLink "DebtRows$Debt" (33 : Nat) "DebtRows$Debt" "open" "J") : Cond) ∈ BIG := List.mem_of_getElem? (i := 221) rfl
theorem mB_222 : ((Jvm.Cond.fieldLink "DebtRows" (140 : Nat) "DebtRows$Debt" "open" "J") : Cond) ∈ BIG := List.mem_of_getElem? (i := 222) rfl
theorem mB_223 : ((Jvm.Cond.fieldLink "DebtRows" (131 : Nat) "DebtRows$Debt" "lost" "J") : Cond) ∈ BIG := List.mem_of_getElem? (i := 223) rfl
theorem mB_224 : ((Jvm.Cond.fieldLink "DebtRows$Debt" (85 : Nat) "DebtRows$Debt" "lost" "J") : Cond) ∈ BIG := List.mem_of_getElem? (i := 224) rfl
theorem mB_225 : ((Jvm.Cond.fieldLink "DebtRows" (143 : Nat) "DebtRows$Debt" "fixedInterest" "J") : Cond) ∈ BIG := List.mem_of_getElem? (i := 225) rfl
theorem mB_226 : ((Jvm.Cond.fieldLink "DebtRows$Debt" (62 : Nat) "DebtRows$Debt" "fixedInterest" "J") : Cond) ∈ BIG := List.mem_of_getElem? (i := 226) rfl
theorem mB_227 : ((Jvm.Cond.fieldLink "DebtRows" (153 : Nat) "DebtRows$Debt" "paidInterest" "J") : Cond) ∈ BIG := List.mem_of_getElem? (i := 227) rfl
theorem mB_228 : ((Jvm.Cond.fieldLink "DebtRows$Debt" (73 : Nat) "DebtRows$Debt" "paidInterest" "J") : Cond) ∈ BIG := List.mem_of_getElem? (i := 228) rfl
theorem mB_229 : ((Jvm.Cond.fieldLink "DebtRows$Debt" (88 : Nat) "DebtRows$Debt" "deferralDay" "I") : Cond) ∈ BIG := List.mem_of_getElem? (i := 229) rfl
theorem mB_230 : ((Jvm.Cond.fieldLink "DebtRows$Debt" (91 : Nat) "DebtRows$Debt" "deferralParts" "I") : Cond) ∈ BIG := List.mem_of_getElem? (i := 230) rfl
theorem mB_231 : ((Jvm.Cond.fieldLink "DebtRows$Debt" (94 : Nat) "DebtRows$Debt" "deferralOpen" "J") : Cond) ∈ BIG := List.mem_of_getElem? (i := 231) rfl
theorem mB_254 : ((Jvm.Cond.methodLink "DebtRows" (91 : Nat) ({ cls := "DebtRows", name := "findOrRefuse", desc := "(I)LDebtRows$Debt;" } : Jvm.MethodName)) : Cond) ∈ BIG := List.mem_of_getElem? (i := 254) rfl
theorem mB_255 : ((Jvm.Cond.instanceMethod ({ cls := "DebtRows", name := "findOrRefuse", desc := "(I)LDebtRows$Debt;" } : Jvm.MethodName)) : Cond) ∈ BIG := List.mem_of_getElem? (i := 255) rfl
theorem mB_256 : ((Jvm.Cond.code ({ cls := "DebtRows", name := "findOrRefuse", desc := "(I)LDebtRows$Debt;" } : Jvm.MethodName) prog_1_method_17_code (3 : Nat) (Option.some (Jvm.ClassFile.FieldType.object "DebtRows$Debt"))) : Cond) ∈ BIG := List.mem_of_getElem? (i := 256) rfl
theorem mB_257 : ((Jvm.Cond.methodLink "DebtRows" (94 : Nat) ({ cls := "DebtRows$Debt", name := "isTooLate", desc := "(I)Z" } : Jvm.MethodName)) : Cond) ∈ BIG := List.mem_of_getElem? (i := 257) rfl
theorem mB_258 : ((Jvm.Cond.instanceMethod ({ cls := "DebtRows$Debt", name := "isTooLate", desc := "(I)Z" } : Jvm.MethodName)) : Cond) ∈ BIG := List.mem_of_getElem? (i := 258) rfl
theorem mB_259 : ((Jvm.Cond.selects "DebtRows$Debt" ({ cls := "DebtRows$Debt", name := "isTooLate", desc := "(I)Z" } : Jvm.MethodName) ({ cls := "DebtRows$Debt", name := "isTooLate", desc := "(I)Z" } : Jvm.MethodName)) : Cond) ∈ BIG := List.mem_of_getElem? (i := 259) rfl
theorem mB_260 : ((Jvm.Cond.code ({ cls := "DebtRows$Debt", name := "isTooLate", desc := "(I)Z" } : Jvm.MethodName) prog_2_method_9_code (2 : Nat) (Option.some Jvm.ClassFile.FieldType.boolean)) : Cond) ∈ BIG := List.mem_of_getElem? (i := 260) rfl
theorem mB_261 : ((Jvm.Cond.methodLink "DebtRows" (100 : Nat) ({ cls := "DebtRows$Debt", name := "runAgain", desc := "(I)V" } : Jvm.MethodName)) : Cond) ∈ BIG := List.mem_of_getElem? (i := 261) rfl
theorem mB_262 : ((Jvm.Cond.instanceMethod ({ cls := "DebtRows$Debt", name := "runAgain", desc := "(I)V" } : Jvm.MethodName)) : Cond) ∈ BIG := List.mem_of_getElem? (i := 262) rfl
theorem mB_263 : ((Jvm.Cond.selects "DebtRows$Debt" ({ cls := "DebtRows$Debt", name := "runAgain", desc := "(I)V" } : Jvm.MethodName) ({ cls := "DebtRows$Debt", name := "runAgain", desc := "(I)V" } : Jvm.MethodName)) : Cond) ∈ BIG := List.mem_of_getElem? (i := 263) rfl
theorem mB_264 : ((Jvm.Cond.code ({ cls := "DebtRows$Debt", name := "runAgain", desc := "(I)V" } : Jvm.MethodName) prog_2_method_10_code (2 : Nat) (Option.none : Option Jvm.ClassFile.FieldType)) : Cond) ∈ BIG := List.mem_of_getElem? (i := 264) rfl
theorem mB_265 : ((Jvm.Cond.methodLink "DebtRows$Debt" (47 : Nat) ({ cls := "java/lang/Math", name := "max", desc := "(II)I" } : Jvm.MethodName)) : Cond) ∈ BIG := List.mem_of_getElem? (i := 265) rfl
theorem mB_266 : ((Jvm.Cond.static ({ cls := "java/lang/Math", name := "max", desc := "(II)I" } : Jvm.MethodName)) : Cond) ∈ BIG := List.mem_of_getElem? (i := 266) rfl
theorem mB_274 : ((Jvm.Cond.methodLink "DebtRows" (104 : Nat) ({ cls := "DebtRows$Debt", name := "isPayable", desc := "()Z" } : Jvm.MethodName)) : Cond) ∈ BIG := List.mem_of_getElem? (i := 274) rfl
theorem mB_275 : ((Jvm.Cond.instanceMethod ({ cls := "DebtRows$Debt", name := "isPayable", desc := "()Z" } : Jvm.MethodName)) : Cond) ∈ BIG := List.mem_of_getElem? (i := 275) rfl
theorem mB_276 : ((Jvm.Cond.selects "DebtRows$Debt" ({ cls := "DebtRows$Debt", name := "isPayable", desc := "()Z" } : Jvm.MethodName) ({ cls := "DebtRows$Debt", name := "isPayable", desc := "()Z" } : Jvm.MethodName)) : Cond) ∈ BIG := List.mem_of_getElem? (i := 276) rfl
theorem mB_277 : ((Jvm.Cond.code ({ cls := "DebtRows$Debt", name := "isPayable", desc := "()Z" } : Jvm.MethodName) prog_2_method_8_code (1 : Nat) (Option.some Jvm.ClassFile.FieldType.boolean)) : Cond) ∈ BIG := List.mem_of_getElem? (i := 277) rfl
theorem mB_278 : ((Jvm.Cond.methodLink "DebtRows" (108 : Nat) ({ cls := "DebtRows$Debt", name := "placeOf", desc := "(I)I" } : Jvm.MethodName)) : Cond) ∈ BIG := List.mem_of_getElem? (i := 278) rfl
theorem mB_279 : ((Jvm.Cond.methodLink "DebtRows" (112 : Nat) ({ cls := "DebtRows$Debt", name := "fixInterest", desc := "(LDebtRows$Rates;I)V" } : Jvm.MethodName)) : Cond) ∈ BIG := List.mem_of_getElem? (i := 279) rfl
theorem mB_280 : ((Jvm.Cond.instanceMethod ({ cls := "DebtRows$Debt", name := "fixInterest", desc := "(LDebtRows$Rates;I)V" } : Jvm.MethodName)) : Cond) ∈ BIG := List.mem_of_getElem? (i := 280) rfl
theorem mB_281 : ((Jvm.Cond.selects "DebtRows$Debt" ({ cls := "DebtRows$Debt", name := "fixInterest", desc := "(LDebtRows$Rates;I)V" } : Jvm.MethodName) ({ cls := "DebtRows$Debt", name := "fixInterest", desc := "(LDebtRows$Rates;I)V" } : Jvm.MethodName)) : Cond) ∈ BIG := List.mem_of_getElem? (i := 281) rfl
theorem mB_282 : ((Jvm.Cond.code ({ cls := "DebtRows$Debt", name := "fixInterest", desc := "(LDebtRows$Rates;I)V" } : Jvm.MethodName) prog_2_method_12_code (3 : Nat) (Option.none : Option Jvm.ClassFile.FieldType)) : Cond) ∈ BIG := List.mem_of_getElem? (i := 282) rfl
theorem mB_283 : ((Jvm.Cond.methodLink "DebtRows$Debt" (65 : Nat) ({ cls := "DebtRows$Debt", name := "runningInterest", desc := "(LDebtRows$Rates;I)J" } : Jvm.MethodName)) : Cond) ∈ BIG := List.mem_of_getElem? (i := 283) rfl
theorem mB_284 : ((Jvm.Cond.instanceMethod ({ cls := "DebtRows$Debt", name := "runningInterest", desc := "(LDebtRows$Rates;I)J" } : Jvm.MethodName)) : Cond) ∈ BIG := List.mem_of_getElem? (i := 284) rfl
theorem mB_285 : ((Jvm.Cond.selects "DebtRows$Debt" ({ cls := "DebtRows$Debt", name := "runningInterest", desc := "(LDebtRows$Rates;I)J" } : Jvm.MethodName) ({ cls := "DebtRows$Debt", name := "runningInterest", desc := "(LDebtRows$Rates;I)J" } : Jvm.MethodName)) : Cond) ∈ BIG := List.mem_of_getElem? (i := 285) rfl
theorem mB_286 : ((Jvm.Cond.code ({ cls := "DebtRows$Debt", name := "runningInterest", desc := "(LDebtRows$Rates;I)J" } : Jvm.MethodName) prog_2_method_11_code (3 : Nat) (Option.some Jvm.ClassFile.FieldType.long)) : Cond) ∈ BIG := List.mem_of_getElem? (i := 286) rfl
theorem mB_287 : ((Jvm.Cond.methodLink "DebtRows$Debt" (56 : Nat) ({ cls := "DebtRows$Rates", name := "interest", desc := "(JII)J" } : Jvm.MethodName)) : Cond) ∈ BIG := List.mem_of_getElem? (i := 287) rfl
theorem mB_288 : ((Jvm.Cond.instanceMethod ({ cls := "DebtRows$Rates", name := "interest", desc := "(JII)J" } : Jvm.MethodName)) : Cond) ∈ BIG := List.mem_of_getElem? (i := 288) rfl
theorem mB_289 : ((Jvm.Cond.selects "DebtRows$Rates" ({ cls := "DebtRows$Rates", name := "interest", desc := "(JII)J" } : Jvm.MethodName) ({ cls := "DebtRows$Rates", name := "interest", desc := "(JII)J" } : Jvm.MethodName)) : Cond) ∈ BIG := List.mem_of_getElem? (i := 289) rfl
theorem mB_290 : ((Jvm.Cond.code ({ cls := "DebtRows$Rates", name := "interest", desc := "(JII)J" } : Jvm.MethodName) prog_3_method_4_code (12 : Nat) (Option.some Jvm.ClassFile.FieldType.long)) : Cond) ∈ BIG := List.mem_of_getElem? (i := 290) rfl
theorem mB_291 : ((Jvm.Cond.methodLink "DebtRows$Rates" (25 : Nat) ({ cls := "java/lang/Math", name := "max", desc := "(II)I" } : Jvm.MethodName)) : Cond) ∈ BIG := List.mem_of_getElem? (i := 291) rfl
theorem mB_292 : ((Jvm.Cond.methodLink "DebtRows$Rates" (31 : Nat) ({ cls := "java/lang/Math", name := "min", desc := "(II)I" } : Jvm.MethodName)) : Cond) ∈ BIG := List.mem_of_getElem? (i := 292) rfl
theorem mB_293 : ((Jvm.Cond.static ({ cls := "java/lang/Math", name := "min", desc := "(II)I" } : Jvm.MethodName)) : Cond) ∈ BIG := List.mem_of_getElem? (i := 293) rfl
theorem mB_295 : ((Jvm.Cond.constantLong "DebtRows$Rates" (34 : Nat) (365 : Int64)) : Cond) ∈ BIG := List.mem_of_getElem? (i := 295) rfl
theorem mB_296 : ((Jvm.Cond.methodLink "DebtRows" (116 : Nat) ({ cls := "DebtRows$Debt", name := "take", desc := "(IJ)J" } : Jvm.MethodName)) : Cond) ∈ BIG := List.mem_of_getElem? (i := 296) rfl
theorem mB_297 : ((Jvm.Cond.instanceMethod ({ cls := "DebtRows$Debt", name := "take", desc := "(IJ)J" } : Jvm.MethodName)) : Cond) ∈ BIG := List.mem_of_getElem? (i := 297) rfl
theorem mB_298 : ((Jvm.Cond.selects "DebtRows$Debt" ({ cls := "DebtRows$Debt", name := "take", desc := "(IJ)J" } : Jvm.MethodName) ({ cls := "DebtRows$Debt", name := "take", desc := "(IJ)J" } : Jvm.MethodName)) : Cond) ∈ BIG := List.mem_of_getElem? (i := 298) rfl
theorem mB_299 : ((Jvm.Cond.code ({ cls := "DebtRows$Debt", name := "take", desc := "(IJ)J" } : Jvm.MethodName) prog_2_method_13_code (8 : Nat) (Option.some Jvm.ClassFile.FieldType.long)) : Cond) ∈ BIG := List.mem_of_getElem? (i := 299) rfl
theorem mB_300 : ((Jvm.Cond.methodLink "DebtRows$Debt" (43 : Nat) ({ cls := "DebtRows$Debt", name := "hasPlace", desc := "(I)Z" } : Jvm.MethodName)) : Cond) ∈ BIG := List.mem_of_getElem? (i := 300) rfl
theorem mB_301 : ((Jvm.Cond.instanceMethod ({ cls := "DebtRows$Debt", name := "hasPlace", desc := "(I)Z" } : Jvm.MethodName)) : Cond) ∈ BIG := List.mem_of_getElem? (i := 301) rfl
theorem mB_302 : ((Jvm.Cond.selects "DebtRows$Debt" ({ cls := "DebtRows$Debt", name := "hasPlace", desc := "(I)Z" } : Jvm.MethodName) ({ cls := "DebtRows$Debt", name := "hasPlace", desc := "(I)Z" } : Jvm.MethodName)) : Cond) ∈ BIG := List.mem_of_getElem? (i := 302) rfl
theorem mB_303 : ((Jvm.Cond.code ({ cls := "DebtRows$Debt", name := "hasPlace", desc := "(I)Z" } : Jvm.MethodName) prog_2_method_4_code (2 : Nat) (Option.some Jvm.ClassFile.FieldType.boolean)) : Cond) ∈ BIG := List.mem_of_getElem? (i := 303) rfl
theorem mB_304 : ((Jvm.Cond.methodLink "DebtRows$Debt" (69 : Nat) ({ cls := "java/lang/Math", name := "min", desc := "(JJ)J" } : Jvm.MethodName)) : Cond) ∈ BIG := List.mem_of_getElem? (i := 304) rfl
theorem mB_305 : ((Jvm.Cond.static ({ cls := "java/lang/Math", name := "min", desc := "(JJ)J" } : Jvm.MethodName)) : Cond) ∈ BIG := List.mem_of_getElem? (i := 305) rfl
theorem mB_307 : ((Jvm.Cond.methodLink "DebtRows$Debt" (76 : Nat) ({ cls := "DebtRows$Debt", name := "settle", desc := "()V" } : Jvm.MethodName)) : Cond) ∈ BIG := List.mem_of_getElem? (i := 307) rfl
theorem mB_308 : ((Jvm.Cond.instanceMethod ({ cls := "DebtRows$Debt", name := "settle", desc := "()V" } : Jvm.MethodName)) : Cond) ∈ BIG := List.mem_of_getElem? (i := 308) rfl
theorem mB_309 : ((Jvm.Cond.selects "DebtRows$Debt" ({ cls := "DebtRows$Debt", name := "settle", desc := "()V" } : Jvm.MethodName) ({ cls := "DebtRows$Debt", name := "settle", desc := "()V" } : Jvm.MethodName)) : Cond) ∈ BIG := List.mem_of_getElem? (i := 309) rfl
theorem mB_310 : ((Jvm.Cond.code ({ cls := "DebtRows$Debt", name := "settle", desc := "()V" } : Jvm.MethodName) prog_2_method_14_code (1 : Nat) (Option.none : Option Jvm.ClassFile.FieldType)) : Cond) ∈ BIG := List.mem_of_getElem? (i := 310) rfl
theorem mB_311 : ((Jvm.Cond.constantLong "DebtRows$Debt" (79 : Nat) (10 : Int64)) : Cond) ∈ BIG := List.mem_of_getElem? (i := 311) rfl
theorem mB_312 : ((Jvm.Cond.methodLink "DebtRows$Debt" (81 : Nat) ({ cls := "DebtRows$Debt", name := "lose", desc := "(I)V" } : Jvm.MethodName)) : Cond) ∈ BIG := List.mem_of_getElem? (i := 312) rfl
theorem mB_313 : ((Jvm.Cond.instanceMethod ({ cls := "DebtRows$Debt", name := "lose", desc := "(I)V" } : Jvm.MethodName)) : Cond) ∈ BIG := List.mem_of_getElem? (i := 313) rfl
theorem mB_314 : ((Jvm.Cond.selects "DebtRows$Debt" ({ cls := "DebtRows$Debt", name := "lose", desc := "(I)V" } : Jvm.MethodName) ({ cls := "DebtRows$Debt", name := "lose", desc := "(I)V" } : Jvm.MethodName)) : Cond) ∈ BIG := List.mem_of_getElem? (i := 314) rfl
theorem mB_315 : ((Jvm.Cond.code ({ cls := "DebtRows$Debt", name := "lose", desc := "(I)V" } : Jvm.MethodName) prog_2_method_15_code (2 : Nat) (Option.none : Option Jvm.ClassFile.FieldType)) : Cond) ∈ BIG := List.mem_of_getElem? (i := 315) rfl
theorem mB_322 : ((Jvm.Cond.methodLink "DebtRows" (122 : Nat) ({ cls := "DebtRows$Debt", name := "defer", desc := "(II)V" } : Jvm.MethodName)) : Cond) ∈ BIG := List.mem_of_getElem? (i := 322) rfl
theorem mB_323 : ((Jvm.Cond.instanceMethod ({ cls := "DebtRows$Debt", name := "defer", desc := "(II)V" } : Jvm.MethodName)) : Cond) ∈ BIG := List.mem_of_getElem? (i := 323) rfl
theorem mB_324 : ((Jvm.Cond.selects "DebtRows$Debt" ({ cls := "DebtRows$Debt", name := "defer", desc := "(II)V" } : Jvm.MethodName) ({ cls := "DebtRows$Debt", name := "defer", desc := "(II)V" } : Jvm.MethodName)) : Cond) ∈ BIG := List.mem_of_getElem? (i := 324) rfl
theorem mB_325 : ((Jvm.Cond.code ({ cls := "DebtRows$Debt", name := "defer", desc := "(II)V" } : Jvm.MethodName) prog_2_method_16_code (3 : Nat) (Option.none : Option Jvm.ClassFile.FieldType)) : Cond) ∈ BIG := List.mem_of_getElem? (i := 325) rfl
theorem mB_338 : ((Jvm.Cond.methodLink "DebtRows" (128 : Nat) ({ cls := "DebtRows$Debt", name := "lose", desc := "(I)V" } : Jvm.MethodName)) : Cond) ∈ BIG := List.mem_of_getElem? (i := 338) rfl
theorem mB_345 : ((Jvm.Cond.methodLink "DebtRows" (137 : Nat) ({ cls := "DebtRows$Debt", name := "endsBy", desc := "(I)Z" } : Jvm.MethodName)) : Cond) ∈ BIG := List.mem_of_getElem? (i := 345) rfl
theorem mB_346 : ((Jvm.Cond.instanceMethod ({ cls := "DebtRows$Debt", name := "endsBy", desc := "(I)Z" } : Jvm.MethodName)) : Cond) ∈ BIG := List.mem_of_getElem? (i := 346) rfl
theorem mB_347 : ((Jvm.Cond.selects "DebtRows$Debt" ({ cls := "DebtRows$Debt", name := "endsBy", desc := "(I)Z" } : Jvm.MethodName) ({ cls := "DebtRows$Debt", name := "endsBy", desc := "(I)Z" } : Jvm.MethodName)) : Cond) ∈ BIG := List.mem_of_getElem? (i := 347) rfl
theorem mB_348 : ((Jvm.Cond.code ({ cls := "DebtRows$Debt", name := "endsBy", desc := "(I)Z" } : Jvm.MethodName) prog_2_method_17_code (3 : Nat) (Option.some Jvm.ClassFile.FieldType.boolean)) : Cond) ∈ BIG := List.mem_of_getElem? (i := 348) rfl
theorem mB_349 : ((Jvm.Cond.methodLink "DebtRows$Debt" (97 : Nat) ({ cls := "DebtRows$Debt", name := "isTooLate", desc := "(I)Z" } : Jvm.MethodName)) : Cond) ∈ BIG := List.mem_of_getElem? (i := 349) rfl
theorem mB_350 : ((Jvm.Cond.methodLink "DebtRows$Debt" (100 : Nat) ({ cls := "DebtRows$Debt", name := "firstMissedDay", desc := "()I" } : Jvm.MethodName)) : Cond) ∈ BIG := List.mem_of_getElem? (i := 350) rfl
theorem mB_351 : ((Jvm.Cond.instanceMethod ({ cls := "DebtRows$Debt", name := "firstMissedDay", desc := "()I" } : Jvm.MethodName)) : Cond) ∈ BIG := List.mem_of_getElem? (i := 351) rfl
theorem mB_352 : ((Jvm.Cond.selects "DebtRows$Debt" ({ cls := "DebtRows$Debt", name := "firstMissedDay", desc := "()I" } : Jvm.MethodName) ({ cls := "DebtRows$Debt", name := "firstMissedDay", desc := "()I" } : Jvm.MethodName)) : Cond) ∈ BIG := List.mem_of_getElem? (i := 352) rfl
theorem mB_353 : ((Jvm.Cond.code ({ cls := "DebtRows$Debt", name := "firstMissedDay", desc := "()I" } : Jvm.MethodName) prog_2_method_18_code (2 : Nat) (Option.some Jvm.ClassFile.FieldType.int)) : Cond) ∈ BIG := List.mem_of_getElem? (i := 353) rfl
theorem mB_354 : ((Jvm.Cond.methodLink "DebtRows$Debt" (107 : Nat) ({ cls := "DebtRows$Debt", name := "mayBeOpen", desc := "(I)J" } : Jvm.MethodName)) : Cond) ∈ BIG := List.mem_of_getElem? (i := 354) rfl
theorem mB_355 : ((Jvm.Cond.instanceMethod ({ cls := "DebtRows$Debt", name := "mayBeOpen", desc := "(I)J" } : Jvm.MethodName)) : Cond) ∈ BIG := List.mem_of_getElem? (i := 355) rfl
theorem mB_356 : ((Jvm.Cond.selects "DebtRows$Debt" ({ cls := "DebtRows$Debt", name := "mayBeOpen", desc := "(I)J" } : Jvm.MethodName) ({ cls := "DebtRows$Debt", name := "mayBeOpen", desc := "(I)J" } : Jvm.MethodName)) : Cond) ∈ BIG := List.mem_of_getElem? (i := 356) rfl
theorem mB_357 : ((Jvm.Cond.code ({ cls := "DebtRows$Debt", name := "mayBeOpen", desc := "(I)J" } : Jvm.MethodName) prog_2_method_19_code (2 : Nat) (Option.some Jvm.ClassFile.FieldType.long)) : Cond) ∈ BIG := List.mem_of_getElem? (i := 357) rfl
theorem mB_358 : ((Jvm.Cond.methodLink "DebtRows$Debt" (104 : Nat) ({ cls := "DebtRows$Debt", name := "runAgain", desc := "(I)V" } : Jvm.MethodName)) : Cond) ∈ BIG := List.mem_of_getElem? (i := 358) rfl
theorem mB_365 : ((Jvm.Cond.methodLink "DebtRows" (146 : Nat) ({ cls := "DebtRows$Debt", name := "runningInterest", desc := "(LDebtRows$Rates;I)J" } : Jvm.MethodName)) : Cond) ∈ BIG := List.mem_of_getElem? (i := 365) rfl
theorem mB_372 : ((Jvm.Cond.methodLink "DebtRows" (160 : Nat) ({ cls := "DebtRows$Debt", name := "paidBy", desc := "(I)J" } : Jvm.MethodName)) : Cond) ∈ BIG := List.mem_of_getElem? (i := 372) rfl
theorem mB_373 : ((Jvm.Cond.instanceMethod ({ cls := "DebtRows$Debt", name := "paidBy", desc := "(I)J" } : Jvm.MethodName)) : Cond) ∈ BIG := List.mem_of_getElem? (i := 373) rfl
theorem mB_374 : ((Jvm.Cond.selects "DebtRows$Debt" ({ cls := "DebtRows$Debt", name := "paidBy", desc := "(I)J" } : Jvm.MethodName) ({ cls := "DebtRows$Debt", name := "paidBy", desc := "(I)J" } : Jvm.MethodName)) : Cond) ∈ BIG := List.mem_of_getElem? (i := 374) rfl
theorem mB_375 : ((Jvm.Cond.code ({ cls := "DebtRows$Debt", name := "paidBy", desc := "(I)J" } : Jvm.MethodName) prog_2_method_6_code (2 : Nat) (Option.some Jvm.ClassFile.FieldType.long)) : Cond) ∈ BIG := List.mem_of_getElem? (i := 375) rfl
theorem mB_376 : ((Jvm.Cond.methodLink "DebtRows" (164 : Nat) ({ cls := "DebtRows$Debt", name := "shareOf", desc := "(I)J" } : Jvm.MethodName)) : Cond) ∈ BIG := List.mem_of_getElem? (i := 376) rfl
theorem mB_377 : ((Jvm.Cond.instanceMethod ({ cls := "DebtRows$Debt", name := "shareOf", desc := "(I)J" } : Jvm.MethodName)) : Cond) ∈ BIG := List.mem_of_getElem? (i := 377) rfl
theorem mB_378 : ((Jvm.Cond.selects "DebtRows$Debt" ({ cls := "DebtRows$Debt", name := "shareOf", desc := "(I)J" } : Jvm.MethodName) ({ cls := "DebtRows$Debt", name := "shareOf", desc := "(I)J" } : Jvm.MethodName)) : Cond) ∈ BIG := List.mem_of_getElem? (i := 378) rfl
theorem mB_379 : ((Jvm.Cond.code ({ cls := "DebtRows$Debt", name := "shareOf", desc := "(I)J" } : Jvm.MethodName) prog_2_method_7_code (2 : Nat) (Option.some Jvm.ClassFile.FieldType.long)) : Cond) ∈ BIG := List.mem_of_getElem? (i := 379) rfl
theorem mB_380 : ((Jvm.Cond.methodLink "DebtRows" (167 : Nat) ({ cls := "java/lang/Math", name := "max", desc := "(JJ)J" } : Jvm.MethodName)) : Cond) ∈ BIG := List.mem_of_getElem? (i := 380) rfl
theorem mB_381 : ((Jvm.Cond.static ({ cls := "java/lang/Math", name := "max", desc := "(JJ)J" } : Jvm.MethodName)) : Cond) ∈ BIG := List.mem_of_getElem? (i := 381) rfl
theorem mB_390 : ((Jvm.Cond.classLink "DebtRows" (173 : Nat) "java/lang/IndexOutOfBoundsException") : Cond) ∈ BIG := List.mem_of_getElem? (i := 390) rfl
set_option maxRecDepth 20000 in
theorem mB_404 : ((Jvm.Cond.methodLink "DebtRows" (186 : Nat) ({ cls := "DebtRows$Debt", name := "personAt", desc := "(I)I" } : Jvm.MethodName)) : Cond) ∈ BIG := List.mem_of_getElem? (i := 404) rfl
set_option maxRecDepth 20000 in
theorem mB_405 : ((Jvm.Cond.instanceMethod ({ cls := "DebtRows$Debt", name := "personAt", desc := "(I)I" } : Jvm.MethodName)) : Cond) ∈ BIG := List.mem_of_getElem? (i := 405) rfl
set_option maxRecDepth 20000 in
theorem mB_406 : ((Jvm.Cond.selects "DebtRows$Debt" ({ cls := "DebtRows$Debt", name := "personAt", desc := "(I)I" } : Jvm.MethodName) ({ cls := "DebtRows$Debt", name := "personAt", desc := "(I)I" } : Jvm.MethodName)) : Cond) ∈ BIG := List.mem_of_getElem? (i := 406) rfl
set_option maxRecDepth 20000 in
theorem mB_407 : ((Jvm.Cond.code ({ cls := "DebtRows$Debt", name := "personAt", desc := "(I)I" } : Jvm.MethodName) prog_2_method_5_code (2 : Nat) (Option.some Jvm.ClassFile.FieldType.int)) : Cond) ∈ BIG := List.mem_of_getElem? (i := 407) rfl
