theorem mB_4 : (.selects "DebtRowsModel" ⟨"DebtRowsModel", "fails", "(I)I"⟩ ⟨"DebtRowsModel", "fails", "(I)I"⟩ : Cond) ∈ BIG := List.mem_of_getElem? (i := 4) rfl
theorem mB_5 : (.selects "DebtRowsModel" ⟨"DebtRowsModel", "isDebt", "(I)Z"⟩ ⟨"DebtRowsModel", "isDebt", "(I)Z"⟩ : Cond) ∈ BIG := List.mem_of_getElem? (i := 5) rfl
theorem mB_6 : (.selects "DebtRowsModel" ⟨"DebtRowsModel", "debtorOf", "(II)I"⟩ ⟨"DebtRowsModel", "debtorOf", "(II)I"⟩ : Cond) ∈ BIG := List.mem_of_getElem? (i := 6) rfl
theorem mB_7 : (.selects "DebtRowsModel" ⟨"DebtRowsModel", "payOf", "(IIJ)J"⟩ ⟨"DebtRowsModel", "payOf", "(IIJ)J"⟩ : Cond) ∈ BIG := List.mem_of_getElem? (i := 7) rfl
theorem mB_8 : (.selects "DebtRowsModel" ⟨"DebtRowsModel", "fix", "(I)V"⟩ ⟨"DebtRowsModel", "fix", "(I)V"⟩ : Cond) ∈ BIG := List.mem_of_getElem? (i := 8) rfl
theorem mB_9 : (.selects "DebtRowsModel" ⟨"DebtRowsModel", "running", "(I)J"⟩ ⟨"DebtRowsModel", "running", "(I)J"⟩ : Cond) ∈ BIG := List.mem_of_getElem? (i := 9) rfl
theorem mB_10 : (.selects "DebtRowsModel" ⟨"DebtRowsModel", "daysOf", "(III)J"⟩ ⟨"DebtRowsModel", "daysOf", "(III)J"⟩ : Cond) ∈ BIG := List.mem_of_getElem? (i := 10) rfl
theorem mB_11 : (.selects "DebtRowsModel" ⟨"DebtRowsModel", "lose", "(II)J"⟩ ⟨"DebtRowsModel", "lose", "(II)J"⟩ : Cond) ∈ BIG := List.mem_of_getElem? (i := 11) rfl
theorem mB_12 : (.selects "DebtRowsModel" ⟨"DebtRowsModel", "again", "(II)V"⟩ ⟨"DebtRowsModel", "again", "(II)V"⟩ : Cond) ∈ BIG := List.mem_of_getElem? (i := 12) rfl
theorem mB_13 : (.selects "DebtRowsModel" ⟨"DebtRowsModel", "missedOn", "(I)I"⟩ ⟨"DebtRowsModel", "missedOn", "(I)I"⟩ : Cond) ∈ BIG := List.mem_of_getElem? (i := 13) rfl
theorem mB_17 : ((Jvm.Cond.initialized "DebtRowsModel") : Cond) ∈ BIG := List.mem_of_getElem? (i := 17) rfl
set_option maxRecDepth 20000 in
theorem mB_413 : ((Jvm.Cond.methodLink "DebtRowsModel" (1 : Nat) ({ cls := "java/lang/Object", name := "<init>", desc := "()V" } : Jvm.MethodName)) : Cond) ∈ BIG := List.mem_of_getElem? (i := 413) rfl
set_option maxRecDepth 20000 in
theorem mB_414 : ((Jvm.Cond.fieldLink "DebtRowsModel" (68 : Nat) "DebtRowsModel" "thrown" "I") : Cond) ∈ BIG := List.mem_of_getElem? (i := 414) rfl
set_option maxRecDepth 20000 in
theorem mB_415 : ((Jvm.Cond.fieldLink "DebtRowsModel" (79 : Nat) "DebtRowsModel" "today" "I") : Cond) ∈ BIG := List.mem_of_getElem? (i := 415) rfl
set_option maxRecDepth 20000 in
theorem mB_416 : ((Jvm.Cond.fieldLink "DebtRowsModel" (83 : Nat) "DebtRowsModel" "rates" "I") : Cond) ∈ BIG := List.mem_of_getElem? (i := 416) rfl
set_option maxRecDepth 20000 in
theorem mB_417 : ((Jvm.Cond.fieldLink "DebtRowsModel" (7 : Nat) "DebtRowsModel" "from" "[I") : Cond) ∈ BIG := List.mem_of_getElem? (i := 417) rfl
set_option maxRecDepth 20000 in
theorem mB_418 : ((Jvm.Cond.fieldLink "DebtRowsModel" (13 : Nat) "DebtRowsModel" "up" "[I") : Cond) ∈ BIG := List.mem_of_getElem? (i := 418) rfl
set_option maxRecDepth 20000 in
theorem mB_419 : ((Jvm.Cond.fieldLink "DebtRowsModel" (16 : Nat) "DebtRowsModel" "down" "[I") : Cond) ∈ BIG := List.mem_of_getElem? (i := 419) rfl
set_option maxRecDepth 20000 in
theorem mB_420 : ((Jvm.Cond.fieldLink "DebtRowsModel" (72 : Nat) "DebtRowsModel" "debts" "I") : Cond) ∈ BIG := List.mem_of_getElem? (i := 420) rfl
set_option maxRecDepth 20000 in
theorem mB_421 : ((Jvm.Cond.fieldLink "DebtRowsModel" (19 : Nat) "DebtRowsModel" "state" "[I") : Cond) ∈ BIG := List.mem_of_getElem? (i := 421) rfl
set_option maxRecDepth 20000 in
theorem mB_422 : ((Jvm.Cond.fieldLink "DebtRowsModel" (22 : Nat) "DebtRowsModel" "born" "[I") : Cond) ∈ BIG := List.mem_of_getElem? (i := 422) rfl
set_option maxRecDepth 20000 in
theorem mB_423 : ((Jvm.Cond.fieldLink "DebtRowsModel" (25 : Nat) "DebtRowsModel" "dueDay" "[I") : Cond) ∈ BIG := List.mem_of_getElem? (i := 423) rfl
set_option maxRecDepth 20000 in
theorem mB_424 : ((Jvm.Cond.fieldLink "DebtRowsModel" (28 : Nat) "DebtRowsModel" "cents" "[J") : Cond) ∈ BIG := List.mem_of_getElem? (i := 424) rfl
set_option maxRecDepth 20000 in
theorem mB_425 : ((Jvm.Cond.fieldLink "DebtRowsModel" (32 : Nat) "DebtRowsModel" "open" "[J") : Cond) ∈ BIG := List.mem_of_getElem? (i := 425) rfl
set_option maxRecDepth 20000 in
theorem mB_426 : ((Jvm.Cond.fieldLink "DebtRowsModel" (35 : Nat) "DebtRowsModel" "lost" "[J") : Cond) ∈ BIG := List.mem_of_getElem? (i := 426) rfl
set_option maxRecDepth 20000 in
theorem mB_427 : ((Jvm.Cond.fieldLink "DebtRowsModel" (38 : Nat) "DebtRowsModel" "fixed" "[J") : Cond) ∈ BIG := List.mem_of_getElem? (i := 427) rfl
set_option maxRecDepth 20000 in
theorem mB_428 : ((Jvm.Cond.fieldLink "DebtRowsModel" (41 : Nat) "DebtRowsModel" "runsFrom" "[I") : Cond) ∈ BIG := List.mem_of_getElem? (i := 428) rfl
set_option maxRecDepth 20000 in
theorem mB_429 : ((Jvm.Cond.fieldLink "DebtRowsModel" (44 : Nat) "DebtRowsModel" "interestPaid" "[J") : Cond) ∈ BIG := List.mem_of_getElem? (i := 429) rfl
set_option maxRecDepth 20000 in
theorem mB_430 : ((Jvm.Cond.fieldLink "DebtRowsModel" (47 : Nat) "DebtRowsModel" "parts" "[I") : Cond) ∈ BIG := List.mem_of_getElem? (i := 430) rfl
set_option maxRecDepth 20000 in
theorem mB_431 : ((Jvm.Cond.fieldLink "DebtRowsModel" (50 : Nat) "DebtRowsModel" "deferredOn" "[I") : Cond) ∈ BIG := List.mem_of_getElem? (i := 431) rfl
set_option maxRecDepth 20000 in
theorem mB_432 : ((Jvm.Cond.fieldLink "DebtRowsModel" (53 : Nat) "DebtRowsModel" "deferred" "[J") : Cond) ∈ BIG := List.mem_of_getElem? (i := 432) rfl
set_option maxRecDepth 20000 in
theorem mB_433 : ((Jvm.Cond.fieldLink "DebtRowsModel" (56 : Nat) "DebtRowsModel" "debtors" "[I") : Cond) ∈ BIG := List.mem_of_getElem? (i := 433) rfl
set_option maxRecDepth 20000 in
theorem mB_434 : ((Jvm.Cond.fieldLink "DebtRowsModel" (59 : Nat) "DebtRowsModel" "debtor" "[I") : Cond) ∈ BIG := List.mem_of_getElem? (i := 434) rfl
set_option maxRecDepth 20000 in
theorem mB_435 : ((Jvm.Cond.fieldLink "DebtRowsModel" (62 : Nat) "DebtRowsModel" "paidBy" "[J") : Cond) ∈ BIG := List.mem_of_getElem? (i := 435) rfl
set_option maxRecDepth 20000 in
theorem mB_436 : ((Jvm.Cond.fieldLink "DebtRowsModel" (65 : Nat) "DebtRowsModel" "credit" "[J") : Cond) ∈ BIG := List.mem_of_getElem? (i := 436) rfl
set_option maxRecDepth 20000 in
theorem mB_469 : ((Jvm.Cond.methodLink "DebtRowsModel" (75 : Nat) ({ cls := "DebtRowsModel", name := "fails", desc := "(I)I" } : Jvm.MethodName)) : Cond) ∈ BIG := List.mem_of_getElem? (i := 469) rfl
set_option maxRecDepth 20000 in
theorem mB_470 : ((Jvm.Cond.instanceMethod ({ cls := "DebtRowsModel", name := "fails", desc := "(I)I" } : Jvm.MethodName)) : Cond) ∈ BIG := List.mem_of_getElem? (i := 470) rfl
set_option maxRecDepth 20000 in
theorem mB_471 : ((Jvm.Cond.code ({ cls := "DebtRowsModel", name := "fails", desc := "(I)I" } : Jvm.MethodName) prog_5_method_3_code (2 : Nat) (Option.some Jvm.ClassFile.FieldType.int)) : Cond) ∈ BIG := List.mem_of_getElem? (i := 471) rfl
set_option maxRecDepth 20000 in
theorem mB_472 : ((Jvm.Cond.constant "DebtRowsModel" (82 : Nat) (100000 : Int32)) : Cond) ∈ BIG := List.mem_of_getElem? (i := 472) rfl
set_option maxRecDepth 20000 in
theorem mB_477 : ((Jvm.Cond.constantLong "DebtRowsModel" (86 : Nat) (1000000000 : Int64)) : Cond) ∈ BIG := List.mem_of_getElem? (i := 477) rfl
set_option maxRecDepth 20000 in
theorem mB_478 : ((Jvm.Cond.methodLink "DebtRowsModel" (88 : Nat) ({ cls := "DebtRowsModel", name := "in", desc := "(JJJ)Z" } : Jvm.MethodName)) : Cond) ∈ BIG := List.mem_of_getElem? (i := 478) rfl
set_option maxRecDepth 20000 in
theorem mB_479 : ((Jvm.Cond.static ({ cls := "DebtRowsModel", name := "in", desc := "(JJJ)Z" } : Jvm.MethodName)) : Cond) ∈ BIG := List.mem_of_getElem? (i := 479) rfl
set_option maxRecDepth 20000 in
theorem mB_480 : ((Jvm.Cond.code ({ cls := "DebtRowsModel", name := "in", desc := "(JJJ)Z" } : Jvm.MethodName) prog_5_method_4_code (6 : Nat) (Option.some Jvm.ClassFile.FieldType.boolean)) : Cond) ∈ BIG := List.mem_of_getElem? (i := 480) rfl
set_option maxRecDepth 20000 in
theorem mB_481 : ((Jvm.Cond.methodLink "DebtRowsModel" (92 : Nat) ({ cls := "DebtRowsModel", name := "isPerson", desc := "(I)Z" } : Jvm.MethodName)) : Cond) ∈ BIG := List.mem_of_getElem? (i := 481) rfl
set_option maxRecDepth 20000 in
theorem mB_482 : ((Jvm.Cond.static ({ cls := "DebtRowsModel", name := "isPerson", desc := "(I)Z" } : Jvm.MethodName)) : Cond) ∈ BIG := List.mem_of_getElem? (i := 482) rfl
set_option maxRecDepth 20000 in
theorem mB_483 : ((Jvm.Cond.code ({ cls := "DebtRowsModel", name := "isPerson", desc := "(I)Z" } : Jvm.MethodName) prog_5_method_6_code (1 : Nat) (Option.some Jvm.ClassFile.FieldType.boolean)) : Cond) ∈ BIG := List.mem_of_getElem? (i := 483) rfl
set_option maxRecDepth 20000 in
theorem mB_488 : ((Jvm.Cond.methodLink "DebtRowsModel" (96 : Nat) ({ cls := "DebtRowsModel", name := "isDebt", desc := "(I)Z" } : Jvm.MethodName)) : Cond) ∈ BIG := List.mem_of_getElem? (i := 488) rfl
set_option maxRecDepth 20000 in
theorem mB_489 : ((Jvm.Cond.instanceMethod ({ cls := "DebtRowsModel", name := "isDebt", desc := "(I)Z" } : Jvm.MethodName)) : Cond) ∈ BIG := List.mem_of_getElem? (i := 489) rfl
set_option maxRecDepth 20000 in
theorem mB_490 : ((Jvm.Cond.code ({ cls := "DebtRowsModel", name := "isDebt", desc := "(I)Z" } : Jvm.MethodName) prog_5_method_5_code (2 : Nat) (Option.some Jvm.ClassFile.FieldType.boolean)) : Cond) ∈ BIG := List.mem_of_getElem? (i := 490) rfl
set_option maxRecDepth 20000 in
theorem mB_491 : ((Jvm.Cond.methodLink "DebtRowsModel" (99 : Nat) ({ cls := "DebtRowsModel", name := "debtorOf", desc := "(II)I" } : Jvm.MethodName)) : Cond) ∈ BIG := List.mem_of_getElem? (i := 491) rfl
set_option maxRecDepth 20000 in
theorem mB_492 : ((Jvm.Cond.instanceMethod ({ cls := "DebtRowsModel", name := "debtorOf", desc := "(II)I" } : Jvm.MethodName)) : Cond) ∈ BIG := List.mem_of_getElem? (i := 492) rfl
set_option maxRecDepth 20000 in
theorem mB_493 : ((Jvm.Cond.code ({ cls := "DebtRowsModel", name := "debtorOf", desc := "(II)I" } : Jvm.MethodName) prog_5_method_9_code (5 : Nat) (Option.some Jvm.ClassFile.FieldType.int)) : Cond) ∈ BIG := List.mem_of_getElem? (i := 493) rfl
set_option maxRecDepth 20000 in
theorem mB_502 : ((Jvm.Cond.methodLink "DebtRowsModel" (123 : Nat) ({ cls := "DebtRowsModel", name := "payOf", desc := "(IIJ)J" } : Jvm.MethodName)) : Cond) ∈ BIG := List.mem_of_getElem? (i := 502) rfl
set_option maxRecDepth 20000 in
theorem mB_503 : ((Jvm.Cond.instanceMethod ({ cls := "DebtRowsModel", name := "payOf", desc := "(IIJ)J" } : Jvm.MethodName)) : Cond) ∈ BIG := List.mem_of_getElem? (i := 503) rfl
set_option maxRecDepth 20000 in
theorem mB_504 : ((Jvm.Cond.code ({ cls := "DebtRowsModel", name := "payOf", desc := "(IIJ)J" } : Jvm.MethodName) prog_5_method_16_code (11 : Nat) (Option.some Jvm.ClassFile.FieldType.long)) : Cond) ∈ BIG := List.mem_of_getElem? (i := 504) rfl
set_option maxRecDepth 20000 in
theorem mB_505 : ((Jvm.Cond.methodLink "DebtRowsModel" (113 : Nat) ({ cls := "DebtRowsModel", name := "fix", desc := "(I)V" } : Jvm.MethodName)) : Cond) ∈ BIG := List.mem_of_getElem? (i := 505) rfl
set_option maxRecDepth 20000 in
theorem mB_506 : ((Jvm.Cond.instanceMethod ({ cls := "DebtRowsModel", name := "fix", desc := "(I)V" } : Jvm.MethodName)) : Cond) ∈ BIG := List.mem_of_getElem? (i := 506) rfl
set_option maxRecDepth 20000 in
theorem mB_507 : ((Jvm.Cond.code ({ cls := "DebtRowsModel", name := "fix", desc := "(I)V" } : Jvm.MethodName) prog_5_method_14_code (2 : Nat) (Option.none : Option Jvm.ClassFile.FieldType)) : Cond) ∈ BIG := List.mem_of_getElem? (i := 507) rfl
set_option maxRecDepth 20000 in
theorem mB_508 : ((Jvm.Cond.methodLink "DebtRowsModel" (109 : Nat) ({ cls := "DebtRowsModel", name := "running", desc := "(I)J" } : Jvm.MethodName)) : Cond) ∈ BIG := List.mem_of_getElem? (i := 508) rfl
set_option maxRecDepth 20000 in
theorem mB_509 : ((Jvm.Cond.instanceMethod ({ cls := "DebtRowsModel", name := "running", desc := "(I)J" } : Jvm.MethodName)) : Cond) ∈ BIG := List.mem_of_getElem? (i := 509) rfl
set_option maxRecDepth 20000 in
theorem mB_510 : ((Jvm.Cond.code ({ cls := "DebtRowsModel", name := "running", desc := "(I)J" } : Jvm.MethodName) prog_5_method_13_code (5 : Nat) (Option.some Jvm.ClassFile.FieldType.long)) : Cond) ∈ BIG := List.mem_of_getElem? (i := 510) rfl
set_option maxRecDepth 20000 in
theorem mB_511 : ((Jvm.Cond.methodLink "DebtRowsModel" (103 : Nat) ({ cls := "DebtRowsModel", name := "daysOf", desc := "(III)J" } : Jvm.MethodName)) : Cond) ∈ BIG := List.mem_of_getElem? (i := 511) rfl
set_option maxRecDepth 20000 in
theorem mB_512 : ((Jvm.Cond.instanceMethod ({ cls := "DebtRowsModel", name := "daysOf", desc := "(III)J" } : Jvm.MethodName)) : Cond) ∈ BIG := List.mem_of_getElem? (i := 512) rfl
set_option maxRecDepth 20000 in
theorem mB_513 : ((Jvm.Cond.code ({ cls := "DebtRowsModel", name := "daysOf", desc := "(III)J" } : Jvm.MethodName) prog_5_method_12_code (6 : Nat) (Option.some Jvm.ClassFile.FieldType.long)) : Cond) ∈ BIG := List.mem_of_getElem? (i := 513) rfl
set_option maxRecDepth 20000 in
theorem mB_514 : ((Jvm.Cond.constantLong "DebtRowsModel" (107 : Nat) (365 : Int64)) : Cond) ∈ BIG := List.mem_of_getElem? (i := 514) rfl
set_option maxRecDepth 20000 in
theorem mB_515 : ((Jvm.Cond.constantLong "DebtRowsModel" (117 : Nat) (10 : Int64)) : Cond) ∈ BIG := List.mem_of_getElem? (i := 515) rfl
set_option maxRecDepth 20000 in
theorem mB_516 : ((Jvm.Cond.methodLink "DebtRowsModel" (119 : Nat) ({ cls := "DebtRowsModel", name := "lose", desc := "(II)J" } : Jvm.MethodName)) : Cond) ∈ BIG := List.mem_of_getElem? (i := 516) rfl
set_option maxRecDepth 20000 in
theorem mB_517 : ((Jvm.Cond.instanceMethod ({ cls := "DebtRowsModel", name := "lose", desc := "(II)J" } : Jvm.MethodName)) : Cond) ∈ BIG := List.mem_of_getElem? (i := 517) rfl
set_option maxRecDepth 20000 in
theorem mB_518 : ((Jvm.Cond.code ({ cls := "DebtRowsModel", name := "lose", desc := "(II)J" } : Jvm.MethodName) prog_5_method_15_code (5 : Nat) (Option.some Jvm.ClassFile.FieldType.long)) : Cond) ∈ BIG := List.mem_of_getElem? (i := 518) rfl
set_option maxRecDepth 20000 in
theorem mB_523 : ((Jvm.Cond.constantLong "DebtRowsModel" (127 : Nat) (2 : Int64)) : Cond) ∈ BIG := List.mem_of_getElem? (i := 523) rfl
set_option maxRecDepth 20000 in
theorem mB_524 : ((Jvm.Cond.constantLong "DebtRowsModel" (129 : Nat) (12 : Int64)) : Cond) ∈ BIG := List.mem_of_getElem? (i := 524) rfl
set_option maxRecDepth 20000 in
theorem mB_533 : ((Jvm.Cond.constantLong "DebtRowsModel" (131 : Nat) (-1 : Int64)) : Cond) ∈ BIG := List.mem_of_getElem? (i := 533) rfl
set_option maxRecDepth 20000 in
theorem mB_534 : ((Jvm.Cond.methodLink "DebtRowsModel" (133 : Nat) ({ cls := "DebtRowsModel", name := "again", desc := "(II)V" } : Jvm.MethodName)) : Cond) ∈ BIG := List.mem_of_getElem? (i := 534) rfl
set_option maxRecDepth 20000 in
theorem mB_535 : ((Jvm.Cond.instanceMethod ({ cls := "DebtRowsModel", name := "again", desc := "(II)V" } : Jvm.MethodName)) : Cond) ∈ BIG := List.mem_of_getElem? (i := 535) rfl
set_option maxRecDepth 20000 in
theorem mB_536 : ((Jvm.Cond.code ({ cls := "DebtRowsModel", name := "again", desc := "(II)V" } : Jvm.MethodName) prog_5_method_20_code (3 : Nat) (Option.none : Option Jvm.ClassFile.FieldType)) : Cond) ∈ BIG := List.mem_of_getElem? (i := 536) rfl
set_option maxRecDepth 20000 in
theorem mB_541 : ((Jvm.Cond.constantLong "DebtRowsModel" (138 : Nat) (100000 : Int64)) : Cond) ∈ BIG := List.mem_of_getElem? (i := 541) rfl
set_option maxRecDepth 20000 in
theorem mB_542 : ((Jvm.Cond.methodLink "DebtRowsModel" (140 : Nat) ({ cls := "DebtRowsModel", name := "missedOn", desc := "(I)I" } : Jvm.MethodName)) : Cond) ∈ BIG := List.mem_of_getElem? (i := 542) rfl
set_option maxRecDepth 20000 in
theorem mB_543 : ((Jvm.Cond.instanceMethod ({ cls := "DebtRowsModel", name := "missedOn", desc := "(I)I" } : Jvm.MethodName)) : Cond) ∈ BIG := List.mem_of_getElem? (i := 543) rfl
set_option maxRecDepth 20000 in
theorem mB_544 : ((Jvm.Cond.code ({ cls := "DebtRowsModel", name := "missedOn", desc := "(I)I" } : Jvm.MethodName) prog_5_method_22_code (3 : Nat) (Option.some Jvm.ClassFile.FieldType.int)) : Cond) ∈ BIG := List.mem_of_getElem? (i := 544) rfl
set_option maxRecDepth 20000 in
theorem mB_545 : ((Jvm.Cond.constant "DebtRowsModel" (137 : Nat) (100001 : Int32)) : Cond) ∈ BIG := List.mem_of_getElem? (i := 545) rfl
set_option maxRecDepth 20000 in
theorem mB_550 : ((Jvm.Cond.constantLong "DebtRowsModel" (143 : Nat) (4 : Int64)) : Cond) ∈ BIG := List.mem_of_getElem? (i := 550) rfl
