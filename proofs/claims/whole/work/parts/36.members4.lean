theorem mB_14 : ((Jvm.Cond.initialized "DebtRowsLaw") : Cond) ∈ BIG := List.mem_of_getElem? (i := 14) rfl
theorem mB_65 : ((Jvm.Cond.methodLink "DebtRowsLaw" (78 : Nat) ({ cls := "DebtRows", name := "debtor", desc := "(II)Z" } : Jvm.MethodName)) : Cond) ∈ BIG := List.mem_of_getElem? (i := 65) rfl
theorem mB_66 : ((Jvm.Cond.instanceMethod ({ cls := "DebtRows", name := "debtor", desc := "(II)Z" } : Jvm.MethodName)) : Cond) ∈ BIG := List.mem_of_getElem? (i := 66) rfl
theorem mB_67 : ((Jvm.Cond.selects "DebtRows" ({ cls := "DebtRows", name := "debtor", desc := "(II)Z" } : Jvm.MethodName) ({ cls := "DebtRows", name := "debtor", desc := "(II)Z" } : Jvm.MethodName)) : Cond) ∈ BIG := List.mem_of_getElem? (i := 67) rfl
theorem mB_68 : ((Jvm.Cond.code ({ cls := "DebtRows", name := "debtor", desc := "(II)Z" } : Jvm.MethodName) prog_1_method_4_code (4 : Nat) (Option.some Jvm.ClassFile.FieldType.boolean)) : Cond) ∈ BIG := List.mem_of_getElem? (i := 68) rfl
theorem mB_83 : ((Jvm.Cond.methodLink "DebtRowsLaw" (114 : Nat) ({ cls := "DebtRows", name := "sum", desc := "(I)J" } : Jvm.MethodName)) : Cond) ∈ BIG := List.mem_of_getElem? (i := 83) rfl
theorem mB_84 : ((Jvm.Cond.instanceMethod ({ cls := "DebtRows", name := "sum", desc := "(I)J" } : Jvm.MethodName)) : Cond) ∈ BIG := List.mem_of_getElem? (i := 84) rfl
theorem mB_85 : ((Jvm.Cond.selects "DebtRows" ({ cls := "DebtRows", name := "sum", desc := "(I)J" } : Jvm.MethodName) ({ cls := "DebtRows", name := "sum", desc := "(I)J" } : Jvm.MethodName)) : Cond) ∈ BIG := List.mem_of_getElem? (i := 85) rfl
theorem mB_86 : ((Jvm.Cond.code ({ cls := "DebtRows", name := "sum", desc := "(I)J" } : Jvm.MethodName) prog_1_method_14_code (2 : Nat) (Option.some Jvm.ClassFile.FieldType.long)) : Cond) ∈ BIG := List.mem_of_getElem? (i := 86) rfl
theorem mB_95 : ((Jvm.Cond.methodLink "DebtRowsLaw" (62 : Nat) ({ cls := "DebtRowsLaw", name := "rate", desc := "(LDebtRows;III[J)I" } : Jvm.MethodName)) : Cond) ∈ BIG := List.mem_of_getElem? (i := 95) rfl
theorem mB_96 : ((Jvm.Cond.static ({ cls := "DebtRowsLaw", name := "rate", desc := "(LDebtRows;III[J)I" } : Jvm.MethodName)) : Cond) ∈ BIG := List.mem_of_getElem? (i := 96) rfl
theorem mB_193 : ((Jvm.Cond.methodLink "DebtRowsLaw" (74 : Nat) ({ cls := "DebtRowsLaw", name := "debt", desc := "(LDebtRows;JI[J)I" } : Jvm.MethodName)) : Cond) ∈ BIG := List.mem_of_getElem? (i := 193) rfl
theorem mB_194 : ((Jvm.Cond.static ({ cls := "DebtRowsLaw", name := "debt", desc := "(LDebtRows;JI[J)I" } : Jvm.MethodName)) : Cond) ∈ BIG := List.mem_of_getElem? (i := 194) rfl
theorem mB_248 : ((Jvm.Cond.methodLink "DebtRowsLaw" (83 : Nat) ({ cls := "DebtRowsLaw", name := "notified", desc := "(LDebtRows;I[J)I" } : Jvm.MethodName)) : Cond) ∈ BIG := List.mem_of_getElem? (i := 248) rfl
theorem mB_249 : ((Jvm.Cond.static ({ cls := "DebtRowsLaw", name := "notified", desc := "(LDebtRows;I[J)I" } : Jvm.MethodName)) : Cond) ∈ BIG := List.mem_of_getElem? (i := 249) rfl
theorem mB_268 : ((Jvm.Cond.methodLink "DebtRowsLaw" (87 : Nat) ({ cls := "DebtRowsLaw", name := "pay", desc := "(LDebtRows;IJ[J)I" } : Jvm.MethodName)) : Cond) ∈ BIG := List.mem_of_getElem? (i := 268) rfl
theorem mB_269 : ((Jvm.Cond.static ({ cls := "DebtRowsLaw", name := "pay", desc := "(LDebtRows;IJ[J)I" } : Jvm.MethodName)) : Cond) ∈ BIG := List.mem_of_getElem? (i := 269) rfl
theorem mB_316 : ((Jvm.Cond.methodLink "DebtRowsLaw" (91 : Nat) ({ cls := "DebtRowsLaw", name := "instalments", desc := "(LDebtRows;II[J)I" } : Jvm.MethodName)) : Cond) ∈ BIG := List.mem_of_getElem? (i := 316) rfl
theorem mB_317 : ((Jvm.Cond.static ({ cls := "DebtRowsLaw", name := "instalments", desc := "(LDebtRows;II[J)I" } : Jvm.MethodName)) : Cond) ∈ BIG := List.mem_of_getElem? (i := 317) rfl
theorem mB_326 : ((Jvm.Cond.methodLink "DebtRowsLaw" (95 : Nat) ({ cls := "DebtRowsLaw", name := "appeal", desc := "(LDebtRows;I[J)I" } : Jvm.MethodName)) : Cond) ∈ BIG := List.mem_of_getElem? (i := 326) rfl
theorem mB_327 : ((Jvm.Cond.static ({ cls := "DebtRowsLaw", name := "appeal", desc := "(LDebtRows;I[J)I" } : Jvm.MethodName)) : Cond) ∈ BIG := List.mem_of_getElem? (i := 327) rfl
theorem mB_332 : ((Jvm.Cond.methodLink "DebtRowsLaw" (98 : Nat) ({ cls := "DebtRowsLaw", name := "decide", desc := "(LDebtRows;IZ[J)I" } : Jvm.MethodName)) : Cond) ∈ BIG := List.mem_of_getElem? (i := 332) rfl
theorem mB_333 : ((Jvm.Cond.static ({ cls := "DebtRowsLaw", name := "decide", desc := "(LDebtRows;IZ[J)I" } : Jvm.MethodName)) : Cond) ∈ BIG := List.mem_of_getElem? (i := 333) rfl
theorem mB_339 : ((Jvm.Cond.methodLink "DebtRowsLaw" (102 : Nat) ({ cls := "DebtRowsLaw", name := "tick", desc := "(LDebtRows;I[J)I" } : Jvm.MethodName)) : Cond) ∈ BIG := List.mem_of_getElem? (i := 339) rfl
theorem mB_340 : ((Jvm.Cond.static ({ cls := "DebtRowsLaw", name := "tick", desc := "(LDebtRows;I[J)I" } : Jvm.MethodName)) : Cond) ∈ BIG := List.mem_of_getElem? (i := 340) rfl
theorem mB_359 : ((Jvm.Cond.methodLink "DebtRowsLaw" (105 : Nat) ({ cls := "DebtRowsLaw", name := "due", desc := "(LDebtRows;II[J)I" } : Jvm.MethodName)) : Cond) ∈ BIG := List.mem_of_getElem? (i := 359) rfl
theorem mB_360 : ((Jvm.Cond.static ({ cls := "DebtRowsLaw", name := "due", desc := "(LDebtRows;II[J)I" } : Jvm.MethodName)) : Cond) ∈ BIG := List.mem_of_getElem? (i := 360) rfl
theorem mB_366 : ((Jvm.Cond.methodLink "DebtRowsLaw" (108 : Nat) ({ cls := "DebtRowsLaw", name := "recourse", desc := "(LDebtRows;III[J)I" } : Jvm.MethodName)) : Cond) ∈ BIG := List.mem_of_getElem? (i := 366) rfl
theorem mB_367 : ((Jvm.Cond.static ({ cls := "DebtRowsLaw", name := "recourse", desc := "(LDebtRows;III[J)I" } : Jvm.MethodName)) : Cond) ∈ BIG := List.mem_of_getElem? (i := 367) rfl
theorem mB_383 : ((Jvm.Cond.methodLink "DebtRowsLaw" (111 : Nat) ({ cls := "DebtRowsLaw", name := "look", desc := "(LDebtRows;II[J)I" } : Jvm.MethodName)) : Cond) ∈ BIG := List.mem_of_getElem? (i := 383) rfl
theorem mB_384 : ((Jvm.Cond.static ({ cls := "DebtRowsLaw", name := "look", desc := "(LDebtRows;II[J)I" } : Jvm.MethodName)) : Cond) ∈ BIG := List.mem_of_getElem? (i := 384) rfl
set_option maxRecDepth 20000 in
theorem mB_461 : ((Jvm.Cond.methodLink "DebtRowsLaw" (68 : Nat) ({ cls := "DebtRowsModel", name := "thrown", desc := "()I" } : Jvm.MethodName)) : Cond) ∈ BIG := List.mem_of_getElem? (i := 461) rfl
set_option maxRecDepth 20000 in
theorem mB_462 : ((Jvm.Cond.instanceMethod ({ cls := "DebtRowsModel", name := "thrown", desc := "()I" } : Jvm.MethodName)) : Cond) ∈ BIG := List.mem_of_getElem? (i := 462) rfl
set_option maxRecDepth 20000 in
theorem mB_463 : ((Jvm.Cond.selects "DebtRowsModel" ({ cls := "DebtRowsModel", name := "thrown", desc := "()I" } : Jvm.MethodName) ({ cls := "DebtRowsModel", name := "thrown", desc := "()I" } : Jvm.MethodName)) : Cond) ∈ BIG := List.mem_of_getElem? (i := 463) rfl
set_option maxRecDepth 20000 in
theorem mB_464 : ((Jvm.Cond.code ({ cls := "DebtRowsModel", name := "thrown", desc := "()I" } : Jvm.MethodName) prog_5_method_2_code (1 : Nat) (Option.some Jvm.ClassFile.FieldType.int)) : Cond) ∈ BIG := List.mem_of_getElem? (i := 464) rfl
set_option maxRecDepth 20000 in
theorem mB_465 : ((Jvm.Cond.methodLink "DebtRowsLaw" (67 : Nat) ({ cls := "DebtRowsModel", name := "rate", desc := "(III)I" } : Jvm.MethodName)) : Cond) ∈ BIG := List.mem_of_getElem? (i := 465) rfl
set_option maxRecDepth 20000 in
theorem mB_466 : ((Jvm.Cond.instanceMethod ({ cls := "DebtRowsModel", name := "rate", desc := "(III)I" } : Jvm.MethodName)) : Cond) ∈ BIG := List.mem_of_getElem? (i := 466) rfl
set_option maxRecDepth 20000 in
theorem mB_467 : ((Jvm.Cond.selects "DebtRowsModel" ({ cls := "DebtRowsModel", name := "rate", desc := "(III)I" } : Jvm.MethodName) ({ cls := "DebtRowsModel", name := "rate", desc := "(III)I" } : Jvm.MethodName)) : Cond) ∈ BIG := List.mem_of_getElem? (i := 467) rfl
set_option maxRecDepth 20000 in
theorem mB_468 : ((Jvm.Cond.code ({ cls := "DebtRowsModel", name := "rate", desc := "(III)I" } : Jvm.MethodName) prog_5_method_7_code (4 : Nat) (Option.some Jvm.ClassFile.FieldType.int)) : Cond) ∈ BIG := List.mem_of_getElem? (i := 468) rfl
set_option maxRecDepth 20000 in
theorem mB_473 : ((Jvm.Cond.methodLink "DebtRowsLaw" (77 : Nat) ({ cls := "DebtRowsModel", name := "debt", desc := "(JI)I" } : Jvm.MethodName)) : Cond) ∈ BIG := List.mem_of_getElem? (i := 473) rfl
set_option maxRecDepth 20000 in
theorem mB_474 : ((Jvm.Cond.instanceMethod ({ cls := "DebtRowsModel", name := "debt", desc := "(JI)I" } : Jvm.MethodName)) : Cond) ∈ BIG := List.mem_of_getElem? (i := 474) rfl
set_option maxRecDepth 20000 in
theorem mB_475 : ((Jvm.Cond.selects "DebtRowsModel" ({ cls := "DebtRowsModel", name := "debt", desc := "(JI)I" } : Jvm.MethodName) ({ cls := "DebtRowsModel", name := "debt", desc := "(JI)I" } : Jvm.MethodName)) : Cond) ∈ BIG := List.mem_of_getElem? (i := 475) rfl
set_option maxRecDepth 20000 in
theorem mB_476 : ((Jvm.Cond.code ({ cls := "DebtRowsModel", name := "debt", desc := "(JI)I" } : Jvm.MethodName) prog_5_method_8_code (4 : Nat) (Option.some Jvm.ClassFile.FieldType.int)) : Cond) ∈ BIG := List.mem_of_getElem? (i := 476) rfl
set_option maxRecDepth 20000 in
theorem mB_484 : ((Jvm.Cond.methodLink "DebtRowsLaw" (82 : Nat) ({ cls := "DebtRowsModel", name := "debtor", desc := "(II)Z" } : Jvm.MethodName)) : Cond) ∈ BIG := List.mem_of_getElem? (i := 484) rfl
set_option maxRecDepth 20000 in
theorem mB_485 : ((Jvm.Cond.instanceMethod ({ cls := "DebtRowsModel", name := "debtor", desc := "(II)Z" } : Jvm.MethodName)) : Cond) ∈ BIG := List.mem_of_getElem? (i := 485) rfl
set_option maxRecDepth 20000 in
theorem mB_486 : ((Jvm.Cond.selects "DebtRowsModel" ({ cls := "DebtRowsModel", name := "debtor", desc := "(II)Z" } : Jvm.MethodName) ({ cls := "DebtRowsModel", name := "debtor", desc := "(II)Z" } : Jvm.MethodName)) : Cond) ∈ BIG := List.mem_of_getElem? (i := 486) rfl
set_option maxRecDepth 20000 in
theorem mB_487 : ((Jvm.Cond.code ({ cls := "DebtRowsModel", name := "debtor", desc := "(II)Z" } : Jvm.MethodName) prog_5_method_10_code (3 : Nat) (Option.some Jvm.ClassFile.FieldType.boolean)) : Cond) ∈ BIG := List.mem_of_getElem? (i := 487) rfl
set_option maxRecDepth 20000 in
theorem mB_494 : ((Jvm.Cond.methodLink "DebtRowsLaw" (86 : Nat) ({ cls := "DebtRowsModel", name := "notified", desc := "(I)I" } : Jvm.MethodName)) : Cond) ∈ BIG := List.mem_of_getElem? (i := 494) rfl
set_option maxRecDepth 20000 in
theorem mB_495 : ((Jvm.Cond.instanceMethod ({ cls := "DebtRowsModel", name := "notified", desc := "(I)I" } : Jvm.MethodName)) : Cond) ∈ BIG := List.mem_of_getElem? (i := 495) rfl
set_option maxRecDepth 20000 in
theorem mB_496 : ((Jvm.Cond.selects "DebtRowsModel" ({ cls := "DebtRowsModel", name := "notified", desc := "(I)I" } : Jvm.MethodName) ({ cls := "DebtRowsModel", name := "notified", desc := "(I)I" } : Jvm.MethodName)) : Cond) ∈ BIG := List.mem_of_getElem? (i := 496) rfl
set_option maxRecDepth 20000 in
theorem mB_497 : ((Jvm.Cond.code ({ cls := "DebtRowsModel", name := "notified", desc := "(I)I" } : Jvm.MethodName) prog_5_method_11_code (2 : Nat) (Option.some Jvm.ClassFile.FieldType.int)) : Cond) ∈ BIG := List.mem_of_getElem? (i := 497) rfl
set_option maxRecDepth 20000 in
theorem mB_498 : ((Jvm.Cond.methodLink "DebtRowsLaw" (90 : Nat) ({ cls := "DebtRowsModel", name := "pay", desc := "(IJ)I" } : Jvm.MethodName)) : Cond) ∈ BIG := List.mem_of_getElem? (i := 498) rfl
set_option maxRecDepth 20000 in
theorem mB_499 : ((Jvm.Cond.instanceMethod ({ cls := "DebtRowsModel", name := "pay", desc := "(IJ)I" } : Jvm.MethodName)) : Cond) ∈ BIG := List.mem_of_getElem? (i := 499) rfl
set_option maxRecDepth 20000 in
theorem mB_500 : ((Jvm.Cond.selects "DebtRowsModel" ({ cls := "DebtRowsModel", name := "pay", desc := "(IJ)I" } : Jvm.MethodName) ({ cls := "DebtRowsModel", name := "pay", desc := "(IJ)I" } : Jvm.MethodName)) : Cond) ∈ BIG := List.mem_of_getElem? (i := 500) rfl
set_option maxRecDepth 20000 in
theorem mB_501 : ((Jvm.Cond.code ({ cls := "DebtRowsModel", name := "pay", desc := "(IJ)I" } : Jvm.MethodName) prog_5_method_17_code (8 : Nat) (Option.some Jvm.ClassFile.FieldType.int)) : Cond) ∈ BIG := List.mem_of_getElem? (i := 501) rfl
set_option maxRecDepth 20000 in
theorem mB_519 : ((Jvm.Cond.methodLink "DebtRowsLaw" (94 : Nat) ({ cls := "DebtRowsModel", name := "instalments", desc := "(II)I" } : Jvm.MethodName)) : Cond) ∈ BIG := List.mem_of_getElem? (i := 519) rfl
set_option maxRecDepth 20000 in
theorem mB_520 : ((Jvm.Cond.instanceMethod ({ cls := "DebtRowsModel", name := "instalments", desc := "(II)I" } : Jvm.MethodName)) : Cond) ∈ BIG := List.mem_of_getElem? (i := 520) rfl
set_option maxRecDepth 20000 in
theorem mB_521 : ((Jvm.Cond.selects "DebtRowsModel" ({ cls := "DebtRowsModel", name := "instalments", desc := "(II)I" } : Jvm.MethodName) ({ cls := "DebtRowsModel", name := "instalments", desc := "(II)I" } : Jvm.MethodName)) : Cond) ∈ BIG := List.mem_of_getElem? (i := 521) rfl
set_option maxRecDepth 20000 in
theorem mB_522 : ((Jvm.Cond.code ({ cls := "DebtRowsModel", name := "instalments", desc := "(II)I" } : Jvm.MethodName) prog_5_method_18_code (3 : Nat) (Option.some Jvm.ClassFile.FieldType.int)) : Cond) ∈ BIG := List.mem_of_getElem? (i := 522) rfl
set_option maxRecDepth 20000 in
theorem mB_525 : ((Jvm.Cond.methodLink "DebtRowsLaw" (97 : Nat) ({ cls := "DebtRowsModel", name := "appeal", desc := "(I)I" } : Jvm.MethodName)) : Cond) ∈ BIG := List.mem_of_getElem? (i := 525) rfl
set_option maxRecDepth 20000 in
theorem mB_526 : ((Jvm.Cond.instanceMethod ({ cls := "DebtRowsModel", name := "appeal", desc := "(I)I" } : Jvm.MethodName)) : Cond) ∈ BIG := List.mem_of_getElem? (i := 526) rfl
set_option maxRecDepth 20000 in
theorem mB_527 : ((Jvm.Cond.selects "DebtRowsModel" ({ cls := "DebtRowsModel", name := "appeal", desc := "(I)I" } : Jvm.MethodName) ({ cls := "DebtRowsModel", name := "appeal", desc := "(I)I" } : Jvm.MethodName)) : Cond) ∈ BIG := List.mem_of_getElem? (i := 527) rfl
set_option maxRecDepth 20000 in
theorem mB_528 : ((Jvm.Cond.code ({ cls := "DebtRowsModel", name := "appeal", desc := "(I)I" } : Jvm.MethodName) prog_5_method_19_code (2 : Nat) (Option.some Jvm.ClassFile.FieldType.int)) : Cond) ∈ BIG := List.mem_of_getElem? (i := 528) rfl
set_option maxRecDepth 20000 in
theorem mB_529 : ((Jvm.Cond.methodLink "DebtRowsLaw" (101 : Nat) ({ cls := "DebtRowsModel", name := "decide", desc := "(IZ)J" } : Jvm.MethodName)) : Cond) ∈ BIG := List.mem_of_getElem? (i := 529) rfl
set_option maxRecDepth 20000 in
theorem mB_530 : ((Jvm.Cond.instanceMethod ({ cls := "DebtRowsModel", name := "decide", desc := "(IZ)J" } : Jvm.MethodName)) : Cond) ∈ BIG := List.mem_of_getElem? (i := 530) rfl
set_option maxRecDepth 20000 in
theorem mB_531 : ((Jvm.Cond.selects "DebtRowsModel" ({ cls := "DebtRowsModel", name := "decide", desc := "(IZ)J" } : Jvm.MethodName) ({ cls := "DebtRowsModel", name := "decide", desc := "(IZ)J" } : Jvm.MethodName)) : Cond) ∈ BIG := List.mem_of_getElem? (i := 531) rfl
set_option maxRecDepth 20000 in
theorem mB_532 : ((Jvm.Cond.code ({ cls := "DebtRowsModel", name := "decide", desc := "(IZ)J" } : Jvm.MethodName) prog_5_method_21_code (3 : Nat) (Option.some Jvm.ClassFile.FieldType.long)) : Cond) ∈ BIG := List.mem_of_getElem? (i := 532) rfl
set_option maxRecDepth 20000 in
theorem mB_537 : ((Jvm.Cond.methodLink "DebtRowsLaw" (104 : Nat) ({ cls := "DebtRowsModel", name := "tick", desc := "(I)I" } : Jvm.MethodName)) : Cond) ∈ BIG := List.mem_of_getElem? (i := 537) rfl
set_option maxRecDepth 20000 in
theorem mB_538 : ((Jvm.Cond.instanceMethod ({ cls := "DebtRowsModel", name := "tick", desc := "(I)I" } : Jvm.MethodName)) : Cond) ∈ BIG := List.mem_of_getElem? (i := 538) rfl
set_option maxRecDepth 20000 in
theorem mB_539 : ((Jvm.Cond.selects "DebtRowsModel" ({ cls := "DebtRowsModel", name := "tick", desc := "(I)I" } : Jvm.MethodName) ({ cls := "DebtRowsModel", name := "tick", desc := "(I)I" } : Jvm.MethodName)) : Cond) ∈ BIG := List.mem_of_getElem? (i := 539) rfl
set_option maxRecDepth 20000 in
theorem mB_540 : ((Jvm.Cond.code ({ cls := "DebtRowsModel", name := "tick", desc := "(I)I" } : Jvm.MethodName) prog_5_method_23_code (6 : Nat) (Option.some Jvm.ClassFile.FieldType.int)) : Cond) ∈ BIG := List.mem_of_getElem? (i := 540) rfl
set_option maxRecDepth 20000 in
theorem mB_546 : ((Jvm.Cond.methodLink "DebtRowsLaw" (107 : Nat) ({ cls := "DebtRowsModel", name := "due", desc := "(II)J" } : Jvm.MethodName)) : Cond) ∈ BIG := List.mem_of_getElem? (i := 546) rfl
set_option maxRecDepth 20000 in
theorem mB_547 : ((Jvm.Cond.instanceMethod ({ cls := "DebtRowsModel", name := "due", desc := "(II)J" } : Jvm.MethodName)) : Cond) ∈ BIG := List.mem_of_getElem? (i := 547) rfl
set_option maxRecDepth 20000 in
theorem mB_548 : ((Jvm.Cond.selects "DebtRowsModel" ({ cls := "DebtRowsModel", name := "due", desc := "(II)J" } : Jvm.MethodName) ({ cls := "DebtRowsModel", name := "due", desc := "(II)J" } : Jvm.MethodName)) : Cond) ∈ BIG := List.mem_of_getElem? (i := 548) rfl
set_option maxRecDepth 20000 in
theorem mB_549 : ((Jvm.Cond.code ({ cls := "DebtRowsModel", name := "due", desc := "(II)J" } : Jvm.MethodName) prog_5_method_24_code (3 : Nat) (Option.some Jvm.ClassFile.FieldType.long)) : Cond) ∈ BIG := List.mem_of_getElem? (i := 549) rfl
set_option maxRecDepth 20000 in
theorem mB_551 : ((Jvm.Cond.methodLink "DebtRowsLaw" (110 : Nat) ({ cls := "DebtRowsModel", name := "recourse", desc := "(III)J" } : Jvm.MethodName)) : Cond) ∈ BIG := List.mem_of_getElem? (i := 551) rfl
set_option maxRecDepth 20000 in
theorem mB_552 : ((Jvm.Cond.instanceMethod ({ cls := "DebtRowsModel", name := "recourse", desc := "(III)J" } : Jvm.MethodName)) : Cond) ∈ BIG := List.mem_of_getElem? (i := 552) rfl
set_option maxRecDepth 20000 in
theorem mB_553 : ((Jvm.Cond.selects "DebtRowsModel" ({ cls := "DebtRowsModel", name := "recourse", desc := "(III)J" } : Jvm.MethodName) ({ cls := "DebtRowsModel", name := "recourse", desc := "(III)J" } : Jvm.MethodName)) : Cond) ∈ BIG := List.mem_of_getElem? (i := 553) rfl
set_option maxRecDepth 20000 in
theorem mB_554 : ((Jvm.Cond.code ({ cls := "DebtRowsModel", name := "recourse", desc := "(III)J" } : Jvm.MethodName) prog_5_method_25_code (9 : Nat) (Option.some Jvm.ClassFile.FieldType.long)) : Cond) ∈ BIG := List.mem_of_getElem? (i := 554) rfl
set_option maxRecDepth 20000 in
theorem mB_555 : ((Jvm.Cond.methodLink "DebtRowsLaw" (113 : Nat) ({ cls := "DebtRowsModel", name := "look", desc := "(II)I" } : Jvm.MethodName)) : Cond) ∈ BIG := List.mem_of_getElem? (i := 555) rfl
set_option maxRecDepth 20000 in
theorem mB_556 : ((Jvm.Cond.instanceMethod ({ cls := "DebtRowsModel", name := "look", desc := "(II)I" } : Jvm.MethodName)) : Cond) ∈ BIG := List.mem_of_getElem? (i := 556) rfl
set_option maxRecDepth 20000 in
theorem mB_557 : ((Jvm.Cond.selects "DebtRowsModel" ({ cls := "DebtRowsModel", name := "look", desc := "(II)I" } : Jvm.MethodName) ({ cls := "DebtRowsModel", name := "look", desc := "(II)I" } : Jvm.MethodName)) : Cond) ∈ BIG := List.mem_of_getElem? (i := 557) rfl
set_option maxRecDepth 20000 in
theorem mB_558 : ((Jvm.Cond.code ({ cls := "DebtRowsModel", name := "look", desc := "(II)I" } : Jvm.MethodName) prog_5_method_26_code (3 : Nat) (Option.some Jvm.ClassFile.FieldType.int)) : Cond) ∈ BIG := List.mem_of_getElem? (i := 558) rfl
set_option maxRecDepth 20000 in
theorem mB_559 : ((Jvm.Cond.methodLink "DebtRowsLaw" (118 : Nat) ({ cls := "DebtRowsModel", name := "sum", desc := "(I)J" } : Jvm.MethodName)) : Cond) ∈ BIG := List.mem_of_getElem? (i := 559) rfl
set_option maxRecDepth 20000 in
theorem mB_560 : ((Jvm.Cond.instanceMethod ({ cls := "DebtRowsModel", name := "sum", desc := "(I)J" } : Jvm.MethodName)) : Cond) ∈ BIG := List.mem_of_getElem? (i := 560) rfl
set_option maxRecDepth 20000 in
theorem mB_561 : ((Jvm.Cond.selects "DebtRowsModel" ({ cls := "DebtRowsModel", name := "sum", desc := "(I)J" } : Jvm.MethodName) ({ cls := "DebtRowsModel", name := "sum", desc := "(I)J" } : Jvm.MethodName)) : Cond) ∈ BIG := List.mem_of_getElem? (i := 561) rfl
set_option maxRecDepth 20000 in
theorem mB_562 : ((Jvm.Cond.code ({ cls := "DebtRowsModel", name := "sum", desc := "(I)J" } : Jvm.MethodName) prog_5_method_27_code (14 : Nat) (Option.some Jvm.ClassFile.FieldType.long)) : Cond) ∈ BIG := List.mem_of_getElem? (i := 562) rfl
set_option maxRecDepth 20000 in
theorem mB_563 : ((Jvm.Cond.constantLong "DebtRowsLaw" (72 : Nat) (4294967295 : Int64)) : Cond) ∈ BIG := List.mem_of_getElem? (i := 563) rfl
