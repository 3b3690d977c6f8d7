theorem mB_18 : ((Jvm.Cond.initialized "java/lang/Throwable") : Cond) ∈ BIG := List.mem_of_getElem? (i := 18) rfl
theorem mB_27 : ((Jvm.Cond.classLink "DebtRowsLaw" (8 : Nat) "DebtRows") : Cond) ∈ BIG := List.mem_of_getElem? (i := 27) rfl
theorem mB_28 : ((Jvm.Cond.instantiable "DebtRows" (5 : Nat)) : Cond) ∈ BIG := List.mem_of_getElem? (i := 28) rfl
theorem mB_29 : ((Jvm.Cond.methodLink "DebtRowsLaw" (58 : Nat) ({ cls := "DebtRows", name := "<init>", desc := "()V" } : Jvm.MethodName)) : Cond) ∈ BIG := List.mem_of_getElem? (i := 29) rfl
theorem mB_30 : ((Jvm.Cond.instanceMethod ({ cls := "DebtRows", name := "<init>", desc := "()V" } : Jvm.MethodName)) : Cond) ∈ BIG := List.mem_of_getElem? (i := 30) rfl
theorem mB_31 : ((Jvm.Cond.code ({ cls := "DebtRows", name := "<init>", desc := "()V" } : Jvm.MethodName) prog_1_method_1_code (1 : Nat) (Option.none : Option Jvm.ClassFile.FieldType)) : Cond) ∈ BIG := List.mem_of_getElem? (i := 31) rfl
set_option maxRecDepth 20000 in
theorem mB_408 : ((Jvm.Cond.classLink "DebtRowsLaw" (59 : Nat) "DebtRowsModel") : Cond) ∈ BIG := List.mem_of_getElem? (i := 408) rfl
set_option maxRecDepth 20000 in
theorem mB_409 : ((Jvm.Cond.instantiable "DebtRowsModel" (23 : Nat)) : Cond) ∈ BIG := List.mem_of_getElem? (i := 409) rfl
set_option maxRecDepth 20000 in
theorem mB_410 : ((Jvm.Cond.methodLink "DebtRowsLaw" (61 : Nat) ({ cls := "DebtRowsModel", name := "<init>", desc := "()V" } : Jvm.MethodName)) : Cond) ∈ BIG := List.mem_of_getElem? (i := 410) rfl
set_option maxRecDepth 20000 in
theorem mB_411 : ((Jvm.Cond.instanceMethod ({ cls := "DebtRowsModel", name := "<init>", desc := "()V" } : Jvm.MethodName)) : Cond) ∈ BIG := List.mem_of_getElem? (i := 411) rfl
set_option maxRecDepth 20000 in
theorem mB_412 : ((Jvm.Cond.code ({ cls := "DebtRowsModel", name := "<init>", desc := "()V" } : Jvm.MethodName) prog_5_method_1_code (1 : Nat) (Option.none : Option Jvm.ClassFile.FieldType)) : Cond) ∈ BIG := List.mem_of_getElem? (i := 412) rfl
