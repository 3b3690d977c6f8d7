abbrev b_D_init : ByteArray := prog_2_method_1_code
def y_D_init : MethodName := ⟨R_D, "<init>", "(JI)V"⟩
def w_D_init : List Cond := .code y_D_init b_D_init 4 none :: BIG
theorem d_D_init_0 : decode b_D_init 0 = .ok (.aload_n 0, 1) := by decide +kernel
theorem d_D_init_1 : decode b_D_init 1 = .ok (.invokespecial 3, 3) := by decide +kernel
theorem d_D_init_4 : decode b_D_init 4 = .ok (.aload_n 0, 1) := by decide +kernel
theorem d_D_init_5 : decode b_D_init 5 = .ok (.lload_n 1, 1) := by decide +kernel
theorem d_D_init_6 : decode b_D_init 6 = .ok (.putfield 9, 3) := by decide +kernel
theorem d_D_init_9 : decode b_D_init 9 = .ok (.aload_n 0, 1) := by decide +kernel
theorem d_D_init_10 : decode b_D_init 10 = .ok (.iload_n 3, 1) := by decide +kernel
theorem d_D_init_11 : decode b_D_init 11 = .ok (.putfield 15, 3) := by decide +kernel
theorem d_D_init_14 : decode b_D_init 14 = .ok (.aload_n 0, 1) := by decide +kernel
theorem d_D_init_15 : decode b_D_init 15 = .ok (.iconst 4, 1) := by decide +kernel
theorem d_D_init_16 : decode b_D_init 16 = .ok (.newarray .int, 2) := by decide +kernel
theorem d_D_init_18 : decode b_D_init 18 = .ok (.putfield 19, 3) := by decide +kernel
theorem d_D_init_21 : decode b_D_init 21 = .ok (.aload_n 0, 1) := by decide +kernel
theorem d_D_init_22 : decode b_D_init 22 = .ok (.iconst 4, 1) := by decide +kernel
theorem d_D_init_23 : decode b_D_init 23 = .ok (.newarray .long, 2) := by decide +kernel
theorem d_D_init_25 : decode b_D_init 25 = .ok (.putfield 23, 3) := by decide +kernel
theorem d_D_init_28 : decode b_D_init 28 = .ok (.aload_n 0, 1) := by decide +kernel
theorem d_D_init_29 : decode b_D_init 29 = .ok (.iconst 0, 1) := by decide +kernel
theorem d_D_init_30 : decode b_D_init 30 = .ok (.putfield 27, 3) := by decide +kernel
theorem d_D_init_33 : decode b_D_init 33 = .ok (.aload_n 0, 1) := by decide +kernel
theorem d_D_init_34 : decode b_D_init 34 = .ok (.iconst (-1), 1) := by decide +kernel
theorem d_D_init_35 : decode b_D_init 35 = .ok (.putfield 30, 3) := by decide +kernel
theorem d_D_init_38 : decode b_D_init 38 = .ok (.aload_n 0, 1) := by decide +kernel
theorem d_D_init_39 : decode b_D_init 39 = .ok (.lload_n 1, 1) := by decide +kernel
theorem d_D_init_40 : decode b_D_init 40 = .ok (.putfield 33, 3) := by decide +kernel
theorem d_D_init_43 : decode b_D_init 43 = .ok (.return_, 1) := by decide +kernel
abbrev b_D_join : ByteArray := prog_2_method_2_code
def y_D_join : MethodName := ⟨R_D, "join", "(I)Z"⟩
def w_D_join : List Cond := .code y_D_join b_D_join 2 (some .boolean) :: BIG
theorem d_D_join_0 : decode b_D_join 0 = .ok (.aload_n 0, 1) := by decide +kernel
theorem d_D_join_1 : decode b_D_join 1 = .ok (.getfield 36, 3) := by decide +kernel
theorem d_D_join_4 : decode b_D_join 4 = .ok (.iconst 4, 1) := by decide +kernel
theorem d_D_join_5 : decode b_D_join 5 = .ok (.if_icmp .ge 12, 3) := by decide +kernel
theorem d_D_join_8 : decode b_D_join 8 = .ok (.aload_n 0, 1) := by decide +kernel
theorem d_D_join_9 : decode b_D_join 9 = .ok (.iload_n 1, 1) := by decide +kernel
theorem d_D_join_10 : decode b_D_join 10 = .ok (.invokevirtual 39, 3) := by decide +kernel
theorem d_D_join_13 : decode b_D_join 13 = .ok (.iconst (-1), 1) := by decide +kernel
theorem d_D_join_14 : decode b_D_join 14 = .ok (.if_icmp .eq 5, 3) := by decide +kernel
theorem d_D_join_17 : decode b_D_join 17 = .ok (.iconst 0, 1) := by decide +kernel
theorem d_D_join_18 : decode b_D_join 18 = .ok (.ireturn, 1) := by decide +kernel
theorem d_D_join_19 : decode b_D_join 19 = .ok (.aload_n 0, 1) := by decide +kernel
theorem d_D_join_20 : decode b_D_join 20 = .ok (.getfield 19, 3) := by decide +kernel
theorem d_D_join_23 : decode b_D_join 23 = .ok (.aload_n 0, 1) := by decide +kernel
theorem d_D_join_24 : decode b_D_join 24 = .ok (.getfield 36, 3) := by decide +kernel
theorem d_D_join_27 : decode b_D_join 27 = .ok (.iload_n 1, 1) := by decide +kernel
theorem d_D_join_28 : decode b_D_join 28 = .ok (.iastore, 1) := by decide +kernel
theorem d_D_join_29 : decode b_D_join 29 = .ok (.aload_n 0, 1) := by decide +kernel
theorem d_D_join_30 : decode b_D_join 30 = .ok (.dup, 1) := by decide +kernel
theorem d_D_join_31 : decode b_D_join 31 = .ok (.getfield 36, 3) := by decide +kernel
theorem d_D_join_34 : decode b_D_join 34 = .ok (.iconst 1, 1) := by decide +kernel
theorem d_D_join_35 : decode b_D_join 35 = .ok (.iadd, 1) := by decide +kernel
theorem d_D_join_36 : decode b_D_join 36 = .ok (.putfield 36, 3) := by decide +kernel
theorem d_D_join_39 : decode b_D_join 39 = .ok (.iconst 1, 1) := by decide +kernel
theorem d_D_join_40 : decode b_D_join 40 = .ok (.ireturn, 1) := by decide +kernel
abbrev b_D_placeOf : ByteArray := prog_2_method_3_code
def y_D_placeOf : MethodName := ⟨R_D, "placeOf", "(I)I"⟩
def w_D_placeOf : List Cond := .code y_D_placeOf b_D_placeOf 3 (some .int) :: BIG
theorem d_D_placeOf_0 : decode b_D_placeOf 0 = .ok (.iconst 0, 1) := by decide +kernel
theorem d_D_placeOf_1 : decode b_D_placeOf 1 = .ok (.istore_n 2, 1) := by decide +kernel
theorem d_D_placeOf_2 : decode b_D_placeOf 2 = .ok (.iload_n 2, 1) := by decide +kernel
theorem d_D_placeOf_3 : decode b_D_placeOf 3 = .ok (.aload_n 0, 1) := by decide +kernel
theorem d_D_placeOf_4 : decode b_D_placeOf 4 = .ok (.getfield 36, 3) := by decide +kernel
theorem d_D_placeOf_7 : decode b_D_placeOf 7 = .ok (.if_icmp .ge 21, 3) := by decide +kernel
theorem d_D_placeOf_10 : decode b_D_placeOf 10 = .ok (.aload_n 0, 1) := by decide +kernel
theorem d_D_placeOf_11 : decode b_D_placeOf 11 = .ok (.getfield 19, 3) := by decide +kernel
theorem d_D_placeOf_14 : decode b_D_placeOf 14 = .ok (.iload_n 2, 1) := by decide +kernel
theorem d_D_placeOf_15 : decode b_D_placeOf 15 = .ok (.iaload, 1) := by decide +kernel
theorem d_D_placeOf_16 : decode b_D_placeOf 16 = .ok (.iload_n 1, 1) := by decide +kernel
theorem d_D_placeOf_17 : decode b_D_placeOf 17 = .ok (.if_icmp .ne 5, 3) := by decide +kernel
theorem d_D_placeOf_20 : decode b_D_placeOf 20 = .ok (.iload_n 2, 1) := by decide +kernel
theorem d_D_placeOf_21 : decode b_D_placeOf 21 = .ok (.ireturn, 1) := by decide +kernel
theorem d_D_placeOf_22 : decode b_D_placeOf 22 = .ok (.iinc 2 1, 3) := by decide +kernel
theorem d_D_placeOf_25 : decode b_D_placeOf 25 = .ok (.goto (-23), 3) := by decide +kernel
theorem d_D_placeOf_28 : decode b_D_placeOf 28 = .ok (.iconst (-1), 1) := by decide +kernel
theorem d_D_placeOf_29 : decode b_D_placeOf 29 = .ok (.ireturn, 1) := by decide +kernel
abbrev b_D_hasPlace : ByteArray := prog_2_method_4_code
def y_D_hasPlace : MethodName := ⟨R_D, "hasPlace", "(I)Z"⟩
def w_D_hasPlace : List Cond := .code y_D_hasPlace b_D_hasPlace 2 (some .boolean) :: BIG
theorem d_D_hasPlace_0 : decode b_D_hasPlace 0 = .ok (.iload_n 1, 1) := by decide +kernel
theorem d_D_hasPlace_1 : decode b_D_hasPlace 1 = .ok (.ifCond .lt 15, 3) := by decide +kernel
theorem d_D_hasPlace_4 : decode b_D_hasPlace 4 = .ok (.iload_n 1, 1) := by decide +kernel
theorem d_D_hasPlace_5 : decode b_D_hasPlace 5 = .ok (.aload_n 0, 1) := by decide +kernel
theorem d_D_hasPlace_6 : decode b_D_hasPlace 6 = .ok (.getfield 36, 3) := by decide +kernel
theorem d_D_hasPlace_9 : decode b_D_hasPlace 9 = .ok (.if_icmp .ge 7, 3) := by decide +kernel
theorem d_D_hasPlace_12 : decode b_D_hasPlace 12 = .ok (.iconst 1, 1) := by decide +kernel
theorem d_D_hasPlace_13 : decode b_D_hasPlace 13 = .ok (.goto 4, 3) := by decide +kernel
theorem d_D_hasPlace_16 : decode b_D_hasPlace 16 = .ok (.iconst 0, 1) := by decide +kernel
theorem d_D_hasPlace_17 : decode b_D_hasPlace 17 = .ok (.ireturn, 1) := by decide +kernel
abbrev b_D_personAt : ByteArray := prog_2_method_5_code
def y_D_personAt : MethodName := ⟨R_D, "personAt", "(I)I"⟩
def w_D_personAt : List Cond := .code y_D_personAt b_D_personAt 2 (some .int) :: BIG
theorem d_D_personAt_0 : decode b_D_personAt 0 = .ok (.aload_n 0, 1) := by decide +kernel
theorem d_D_personAt_1 : decode b_D_personAt 1 = .ok (.iload_n 1, 1) := by decide +kernel
theorem d_D_personAt_2 : decode b_D_personAt 2 = .ok (.invokevirtual 43, 3) := by decide +kernel
theorem d_D_personAt_5 : decode b_D_personAt 5 = .ok (.ifCond .eq 12, 3) := by decide +kernel
theorem d_D_personAt_8 : decode b_D_personAt 8 = .ok (.aload_n 0, 1) := by decide +kernel
theorem d_D_personAt_9 : decode b_D_personAt 9 = .ok (.getfield 19, 3) := by decide +kernel
theorem d_D_personAt_12 : decode b_D_personAt 12 = .ok (.iload_n 1, 1) := by decide +kernel
theorem d_D_personAt_13 : decode b_D_personAt 13 = .ok (.iaload, 1) := by decide +kernel
theorem d_D_personAt_14 : decode b_D_personAt 14 = .ok (.goto 4, 3) := by decide +kernel
theorem d_D_personAt_17 : decode b_D_personAt 17 = .ok (.iconst (-1), 1) := by decide +kernel
theorem d_D_personAt_18 : decode b_D_personAt 18 = .ok (.ireturn, 1) := by decide +kernel
abbrev b_D_paidBy : ByteArray := prog_2_method_6_code
def y_D_paidBy : MethodName := ⟨R_D, "paidBy", "(I)J"⟩
def w_D_paidBy : List Cond := .code y_D_paidBy b_D_paidBy 2 (some .long) :: BIG
theorem d_D_paidBy_0 : decode b_D_paidBy 0 = .ok (.aload_n 0, 1) := by decide +kernel
theorem d_D_paidBy_1 : decode b_D_paidBy 1 = .ok (.iload_n 1, 1) := by decide +kernel
theorem d_D_paidBy_2 : decode b_D_paidBy 2 = .ok (.invokevirtual 43, 3) := by decide +kernel
theorem d_D_paidBy_5 : decode b_D_paidBy 5 = .ok (.ifCond .eq 12, 3) := by decide +kernel
theorem d_D_paidBy_8 : decode b_D_paidBy 8 = .ok (.aload_n 0, 1) := by decide +kernel
theorem d_D_paidBy_9 : decode b_D_paidBy 9 = .ok (.getfield 23, 3) := by decide +kernel
theorem d_D_paidBy_12 : decode b_D_paidBy 12 = .ok (.iload_n 1, 1) := by decide +kernel
theorem d_D_paidBy_13 : decode b_D_paidBy 13 = .ok (.laload, 1) := by decide +kernel
theorem d_D_paidBy_14 : decode b_D_paidBy 14 = .ok (.goto 4, 3) := by decide +kernel
theorem d_D_paidBy_17 : decode b_D_paidBy 17 = .ok (.lconst 0, 1) := by decide +kernel
theorem d_D_paidBy_18 : decode b_D_paidBy 18 = .ok (.lreturn, 1) := by decide +kernel
abbrev b_D_shareOf : ByteArray := prog_2_method_7_code
def y_D_shareOf : MethodName := ⟨R_D, "shareOf", "(I)J"⟩
def w_D_shareOf : List Cond := .code y_D_shareOf b_D_shareOf 2 (some .long) :: BIG
theorem d_D_shareOf_0 : decode b_D_shareOf 0 = .ok (.aload_n 0, 1) := by decide +kernel
theorem d_D_shareOf_1 : decode b_D_shareOf 1 = .ok (.getfield 36, 3) := by decide +kernel
theorem d_D_shareOf_4 : decode b_D_shareOf 4 = .ok (.iconst 1, 1) := by decide +kernel
theorem d_D_shareOf_5 : decode b_D_shareOf 5 = .ok (.if_icmp .ge 5, 3) := by decide +kernel
theorem d_D_shareOf_8 : decode b_D_shareOf 8 = .ok (.lconst 0, 1) := by decide +kernel
theorem d_D_shareOf_9 : decode b_D_shareOf 9 = .ok (.lreturn, 1) := by decide +kernel
theorem d_D_shareOf_10 : decode b_D_shareOf 10 = .ok (.aload_n 0, 1) := by decide +kernel
theorem d_D_shareOf_11 : decode b_D_shareOf 11 = .ok (.getfield 9, 3) := by decide +kernel
theorem d_D_shareOf_14 : decode b_D_shareOf 14 = .ok (.aload_n 0, 1) := by decide +kernel
theorem d_D_shareOf_15 : decode b_D_shareOf 15 = .ok (.getfield 36, 3) := by decide +kernel
theorem d_D_shareOf_18 : decode b_D_shareOf 18 = .ok (.i2l, 1) := by decide +kernel
theorem d_D_shareOf_19 : decode b_D_shareOf 19 = .ok (.ldiv, 1) := by decide +kernel
theorem d_D_shareOf_20 : decode b_D_shareOf 20 = .ok (.iload_n 1, 1) := by decide +kernel
theorem d_D_shareOf_21 : decode b_D_shareOf 21 = .ok (.i2l, 1) := by decide +kernel
theorem d_D_shareOf_22 : decode b_D_shareOf 22 = .ok (.aload_n 0, 1) := by decide +kernel
theorem d_D_shareOf_23 : decode b_D_shareOf 23 = .ok (.getfield 9, 3) := by decide +kernel
theorem d_D_shareOf_26 : decode b_D_shareOf 26 = .ok (.aload_n 0, 1) := by decide +kernel
theorem d_D_shareOf_27 : decode b_D_shareOf 27 = .ok (.getfield 36, 3) := by decide +kernel
theorem d_D_shareOf_30 : decode b_D_shareOf 30 = .ok (.i2l, 1) := by decide +kernel
theorem d_D_shareOf_31 : decode b_D_shareOf 31 = .ok (.lrem, 1) := by decide +kernel
theorem d_D_shareOf_32 : decode b_D_shareOf 32 = .ok (.lcmp, 1) := by decide +kernel
theorem d_D_shareOf_33 : decode b_D_shareOf 33 = .ok (.ifCond .ge 7, 3) := by decide +kernel
theorem d_D_shareOf_36 : decode b_D_shareOf 36 = .ok (.iconst 1, 1) := by decide +kernel
theorem d_D_shareOf_37 : decode b_D_shareOf 37 = .ok (.goto 4, 3) := by decide +kernel
theorem d_D_shareOf_40 : decode b_D_shareOf 40 = .ok (.iconst 0, 1) := by decide +kernel
theorem d_D_shareOf_41 : decode b_D_shareOf 41 = .ok (.i2l, 1) := by decide +kernel
theorem d_D_shareOf_42 : decode b_D_shareOf 42 = .ok (.ladd, 1) := by decide +kernel
theorem d_D_shareOf_43 : decode b_D_shareOf 43 = .ok (.lreturn, 1) := by decide +kernel
abbrev b_D_isPayable : ByteArray := prog_2_method_8_code
def y_D_isPayable : MethodName := ⟨R_D, "isPayable", "()Z"⟩
def w_D_isPayable : List Cond := .code y_D_isPayable b_D_isPayable 1 (some .boolean) :: BIG
theorem d_D_isPayable_0 : decode b_D_isPayable 0 = .ok (.aload_n 0, 1) := by decide +kernel
theorem d_D_isPayable_1 : decode b_D_isPayable 1 = .ok (.getfield 27, 3) := by decide +kernel
theorem d_D_isPayable_4 : decode b_D_isPayable 4 = .ok (.iconst 1, 1) := by decide +kernel
theorem d_D_isPayable_5 : decode b_D_isPayable 5 = .ok (.if_icmp .eq 11, 3) := by decide +kernel
theorem d_D_isPayable_8 : decode b_D_isPayable 8 = .ok (.aload_n 0, 1) := by decide +kernel
theorem d_D_isPayable_9 : decode b_D_isPayable 9 = .ok (.getfield 27, 3) := by decide +kernel
theorem d_D_isPayable_12 : decode b_D_isPayable 12 = .ok (.iconst 2, 1) := by decide +kernel
theorem d_D_isPayable_13 : decode b_D_isPayable 13 = .ok (.if_icmp .ne 7, 3) := by decide +kernel
theorem d_D_isPayable_16 : decode b_D_isPayable 16 = .ok (.iconst 1, 1) := by decide +kernel
theorem d_D_isPayable_17 : decode b_D_isPayable 17 = .ok (.goto 4, 3) := by decide +kernel
theorem d_D_isPayable_20 : decode b_D_isPayable 20 = .ok (.iconst 0, 1) := by decide +kernel
theorem d_D_isPayable_21 : decode b_D_isPayable 21 = .ok (.ireturn, 1) := by decide +kernel
abbrev b_D_isTooLate : ByteArray := prog_2_method_9_code
def y_D_isTooLate : MethodName := ⟨R_D, "isTooLate", "(I)Z"⟩
def w_D_isTooLate : List Cond := .code y_D_isTooLate b_D_isTooLate 2 (some .boolean) :: BIG
theorem d_D_isTooLate_0 : decode b_D_isTooLate 0 = .ok (.iload_n 1, 1) := by decide +kernel
theorem d_D_isTooLate_1 : decode b_D_isTooLate 1 = .ok (.aload_n 0, 1) := by decide +kernel
theorem d_D_isTooLate_2 : decode b_D_isTooLate 2 = .ok (.getfield 15, 3) := by decide +kernel
theorem d_D_isTooLate_5 : decode b_D_isTooLate 5 = .ok (.isub, 1) := by decide +kernel
theorem d_D_isTooLate_6 : decode b_D_isTooLate 6 = .ok (.sipush 1095, 3) := by decide +kernel
theorem d_D_isTooLate_9 : decode b_D_isTooLate 9 = .ok (.if_icmp .le 7, 3) := by decide +kernel
theorem d_D_isTooLate_12 : decode b_D_isTooLate 12 = .ok (.iconst 1, 1) := by decide +kernel
theorem d_D_isTooLate_13 : decode b_D_isTooLate 13 = .ok (.goto 4, 3) := by decide +kernel
theorem d_D_isTooLate_16 : decode b_D_isTooLate 16 = .ok (.iconst 0, 1) := by decide +kernel
theorem d_D_isTooLate_17 : decode b_D_isTooLate 17 = .ok (.ireturn, 1) := by decide +kernel
abbrev b_D_runAgain : ByteArray := prog_2_method_10_code
def y_D_runAgain : MethodName := ⟨R_D, "runAgain", "(I)V"⟩
def w_D_runAgain : List Cond := .code y_D_runAgain b_D_runAgain 2 none :: BIG
theorem d_D_runAgain_0 : decode b_D_runAgain 0 = .ok (.aload_n 0, 1) := by decide +kernel
theorem d_D_runAgain_1 : decode b_D_runAgain 1 = .ok (.iconst 1, 1) := by decide +kernel
theorem d_D_runAgain_2 : decode b_D_runAgain 2 = .ok (.putfield 27, 3) := by decide +kernel
theorem d_D_runAgain_5 : decode b_D_runAgain 5 = .ok (.aload_n 0, 1) := by decide +kernel
theorem d_D_runAgain_6 : decode b_D_runAgain 6 = .ok (.aload_n 0, 1) := by decide +kernel
theorem d_D_runAgain_7 : decode b_D_runAgain 7 = .ok (.getfield 30, 3) := by decide +kernel
theorem d_D_runAgain_10 : decode b_D_runAgain 10 = .ok (.iload_n 1, 1) := by decide +kernel
theorem d_D_runAgain_11 : decode b_D_runAgain 11 = .ok (.invokestatic 47, 3) := by decide +kernel
theorem d_D_runAgain_14 : decode b_D_runAgain 14 = .ok (.putfield 53, 3) := by decide +kernel
theorem d_D_runAgain_17 : decode b_D_runAgain 17 = .ok (.return_, 1) := by decide +kernel
abbrev b_D_runningInterest : ByteArray := prog_2_method_11_code
def y_D_runningInterest : MethodName := ⟨R_D, "runningInterest", "(LDebtRows$Rates;I)J"⟩
def w_D_runningInterest : List Cond := .code y_D_runningInterest b_D_runningInterest 3 (some .long) :: BIG
theorem d_D_runningInterest_0 : decode b_D_runningInterest 0 = .ok (.aload_n 0, 1) := by decide +kernel
theorem d_D_runningInterest_1 : decode b_D_runningInterest 1 = .ok (.getfield 27, 3) := by decide +kernel
theorem d_D_runningInterest_4 : decode b_D_runningInterest 4 = .ok (.iconst 1, 1) := by decide +kernel
theorem d_D_runningInterest_5 : decode b_D_runningInterest 5 = .ok (.if_icmp .ne 19, 3) := by decide +kernel
theorem d_D_runningInterest_8 : decode b_D_runningInterest 8 = .ok (.aload_n 1, 1) := by decide +kernel
theorem d_D_runningInterest_9 : decode b_D_runningInterest 9 = .ok (.aload_n 0, 1) := by decide +kernel
theorem d_D_runningInterest_10 : decode b_D_runningInterest 10 = .ok (.getfield 33, 3) := by decide +kernel
theorem d_D_runningInterest_13 : decode b_D_runningInterest 13 = .ok (.aload_n 0, 1) := by decide +kernel
theorem d_D_runningInterest_14 : decode b_D_runningInterest 14 = .ok (.getfield 53, 3) := by decide +kernel
theorem d_D_runningInterest_17 : decode b_D_runningInterest 17 = .ok (.iload_n 2, 1) := by decide +kernel
theorem d_D_runningInterest_18 : decode b_D_runningInterest 18 = .ok (.invokevirtual 56, 3) := by decide +kernel
theorem d_D_runningInterest_21 : decode b_D_runningInterest 21 = .ok (.goto 4, 3) := by decide +kernel
theorem d_D_runningInterest_24 : decode b_D_runningInterest 24 = .ok (.lconst 0, 1) := by decide +kernel
theorem d_D_runningInterest_25 : decode b_D_runningInterest 25 = .ok (.lreturn, 1) := by decide +kernel
abbrev b_D_fixInterest : ByteArray := prog_2_method_12_code
def y_D_fixInterest : MethodName := ⟨R_D, "fixInterest", "(LDebtRows$Rates;I)V"⟩
def w_D_fixInterest : List Cond := .code y_D_fixInterest b_D_fixInterest 3 none :: BIG
theorem d_D_fixInterest_0 : decode b_D_fixInterest 0 = .ok (.aload_n 0, 1) := by decide +kernel
theorem d_D_fixInterest_1 : decode b_D_fixInterest 1 = .ok (.dup, 1) := by decide +kernel
theorem d_D_fixInterest_2 : decode b_D_fixInterest 2 = .ok (.getfield 62, 3) := by decide +kernel
theorem d_D_fixInterest_5 : decode b_D_fixInterest 5 = .ok (.aload_n 0, 1) := by decide +kernel
theorem d_D_fixInterest_6 : decode b_D_fixInterest 6 = .ok (.aload_n 1, 1) := by decide +kernel
theorem d_D_fixInterest_7 : decode b_D_fixInterest 7 = .ok (.iload_n 2, 1) := by decide +kernel
theorem d_D_fixInterest_8 : decode b_D_fixInterest 8 = .ok (.invokevirtual 65, 3) := by decide +kernel
theorem d_D_fixInterest_11 : decode b_D_fixInterest 11 = .ok (.ladd, 1) := by decide +kernel
theorem d_D_fixInterest_12 : decode b_D_fixInterest 12 = .ok (.putfield 62, 3) := by decide +kernel
theorem d_D_fixInterest_15 : decode b_D_fixInterest 15 = .ok (.aload_n 0, 1) := by decide +kernel
theorem d_D_fixInterest_16 : decode b_D_fixInterest 16 = .ok (.aload_n 0, 1) := by decide +kernel
theorem d_D_fixInterest_17 : decode b_D_fixInterest 17 = .ok (.getfield 53, 3) := by decide +kernel
theorem d_D_fixInterest_20 : decode b_D_fixInterest 20 = .ok (.iload_n 2, 1) := by decide +kernel
theorem d_D_fixInterest_21 : decode b_D_fixInterest 21 = .ok (.invokestatic 47, 3) := by decide +kernel
theorem d_D_fixInterest_24 : decode b_D_fixInterest 24 = .ok (.putfield 53, 3) := by decide +kernel
theorem d_D_fixInterest_27 : decode b_D_fixInterest 27 = .ok (.return_, 1) := by decide +kernel
abbrev b_D_take : ByteArray := prog_2_method_13_code
def y_D_take : MethodName := ⟨R_D, "take", "(IJ)J"⟩
def w_D_take : List Cond := .code y_D_take b_D_take 8 (some .long) :: BIG
theorem d_D_take_0 : decode b_D_take 0 = .ok (.aload_n 0, 1) := by decide +kernel
theorem d_D_take_1 : decode b_D_take 1 = .ok (.iload_n 1, 1) := by decide +kernel
theorem d_D_take_2 : decode b_D_take 2 = .ok (.invokevirtual 43, 3) := by decide +kernel
theorem d_D_take_5 : decode b_D_take 5 = .ok (.ifCond .ne 5, 3) := by decide +kernel
theorem d_D_take_8 : decode b_D_take 8 = .ok (.lconst 0, 1) := by decide +kernel
theorem d_D_take_9 : decode b_D_take 9 = .ok (.lreturn, 1) := by decide +kernel
theorem d_D_take_10 : decode b_D_take 10 = .ok (.lload_n 2, 1) := by decide +kernel
theorem d_D_take_11 : decode b_D_take 11 = .ok (.aload_n 0, 1) := by decide +kernel
theorem d_D_take_12 : decode b_D_take 12 = .ok (.getfield 62, 3) := by decide +kernel
theorem d_D_take_15 : decode b_D_take 15 = .ok (.invokestatic 69, 3) := by decide +kernel
theorem d_D_take_18 : decode b_D_take 18 = .ok (.lstore 4, 2) := by decide +kernel
theorem d_D_take_20 : decode b_D_take 20 = .ok (.lload_n 2, 1) := by decide +kernel
theorem d_D_take_21 : decode b_D_take 21 = .ok (.lload 4, 2) := by decide +kernel
theorem d_D_take_23 : decode b_D_take 23 = .ok (.lsub, 1) := by decide +kernel
theorem d_D_take_24 : decode b_D_take 24 = .ok (.aload_n 0, 1) := by decide +kernel
theorem d_D_take_25 : decode b_D_take 25 = .ok (.getfield 33, 3) := by decide +kernel
theorem d_D_take_28 : decode b_D_take 28 = .ok (.invokestatic 69, 3) := by decide +kernel
theorem d_D_take_31 : decode b_D_take 31 = .ok (.lstore 6, 2) := by decide +kernel
theorem d_D_take_33 : decode b_D_take 33 = .ok (.aload_n 0, 1) := by decide +kernel
theorem d_D_take_34 : decode b_D_take 34 = .ok (.dup, 1) := by decide +kernel
theorem d_D_take_35 : decode b_D_take 35 = .ok (.getfield 62, 3) := by decide +kernel
theorem d_D_take_38 : decode b_D_take 38 = .ok (.lload 4, 2) := by decide +kernel
theorem d_D_take_40 : decode b_D_take 40 = .ok (.lsub, 1) := by decide +kernel
theorem d_D_take_41 : decode b_D_take 41 = .ok (.putfield 62, 3) := by decide +kernel
theorem d_D_take_44 : decode b_D_take 44 = .ok (.aload_n 0, 1) := by decide +kernel
theorem d_D_take_45 : decode b_D_take 45 = .ok (.dup, 1) := by decide +kernel
theorem d_D_take_46 : decode b_D_take 46 = .ok (.getfield 73, 3) := by decide +kernel
theorem d_D_take_49 : decode b_D_take 49 = .ok (.lload 4, 2) := by decide +kernel
theorem d_D_take_51 : decode b_D_take 51 = .ok (.ladd, 1) := by decide +kernel
theorem d_D_take_52 : decode b_D_take 52 = .ok (.putfield 73, 3) := by decide +kernel
theorem d_D_take_55 : decode b_D_take 55 = .ok (.aload_n 0, 1) := by decide +kernel
theorem d_D_take_56 : decode b_D_take 56 = .ok (.dup, 1) := by decide +kernel
theorem d_D_take_57 : decode b_D_take 57 = .ok (.getfield 33, 3) := by decide +kernel
theorem d_D_take_60 : decode b_D_take 60 = .ok (.lload 6, 2) := by decide +kernel
theorem d_D_take_62 : decode b_D_take 62 = .ok (.lsub, 1) := by decide +kernel
theorem d_D_take_63 : decode b_D_take 63 = .ok (.putfield 33, 3) := by decide +kernel
theorem d_D_take_66 : decode b_D_take 66 = .ok (.aload_n 0, 1) := by decide +kernel
theorem d_D_take_67 : decode b_D_take 67 = .ok (.getfield 23, 3) := by decide +kernel
theorem d_D_take_70 : decode b_D_take 70 = .ok (.iload_n 1, 1) := by decide +kernel
theorem d_D_take_71 : decode b_D_take 71 = .ok (.dup2, 1) := by decide +kernel
theorem d_D_take_72 : decode b_D_take 72 = .ok (.laload, 1) := by decide +kernel
theorem d_D_take_73 : decode b_D_take 73 = .ok (.lload 6, 2) := by decide +kernel
theorem d_D_take_75 : decode b_D_take 75 = .ok (.ladd, 1) := by decide +kernel
theorem d_D_take_76 : decode b_D_take 76 = .ok (.lastore, 1) := by decide +kernel
theorem d_D_take_77 : decode b_D_take 77 = .ok (.aload_n 0, 1) := by decide +kernel
theorem d_D_take_78 : decode b_D_take 78 = .ok (.invokevirtual 76, 3) := by decide +kernel
theorem d_D_take_81 : decode b_D_take 81 = .ok (.lload 4, 2) := by decide +kernel
theorem d_D_take_83 : decode b_D_take 83 = .ok (.lload 6, 2) := by decide +kernel
theorem d_D_take_85 : decode b_D_take 85 = .ok (.ladd, 1) := by decide +kernel
theorem d_D_take_86 : decode b_D_take 86 = .ok (.lreturn, 1) := by decide +kernel
abbrev b_D_settle : ByteArray := prog_2_method_14_code
def y_D_settle : MethodName := ⟨R_D, "settle", "()V"⟩
def w_D_settle : List Cond := .code y_D_settle b_D_settle 1 none :: BIG
theorem d_D_settle_0 : decode b_D_settle 0 = .ok (.aload_n 0, 1) := by decide +kernel
theorem d_D_settle_1 : decode b_D_settle 1 = .ok (.getfield 62, 3) := by decide +kernel
theorem d_D_settle_4 : decode b_D_settle 4 = .ok (.lconst 0, 1) := by decide +kernel
theorem d_D_settle_5 : decode b_D_settle 5 = .ok (.lcmp, 1) := by decide +kernel
theorem d_D_settle_6 : decode b_D_settle 6 = .ok (.ifCond .gt 14, 3) := by decide +kernel
theorem d_D_settle_9 : decode b_D_settle 9 = .ok (.aload_n 0, 1) := by decide +kernel
theorem d_D_settle_10 : decode b_D_settle 10 = .ok (.getfield 33, 3) := by decide +kernel
theorem d_D_settle_13 : decode b_D_settle 13 = .ok (.ldc2_w 79, 3) := by decide +kernel
theorem d_D_settle_16 : decode b_D_settle 16 = .ok (.lcmp, 1) := by decide +kernel
theorem d_D_settle_17 : decode b_D_settle 17 = .ok (.ifCond .le 4, 3) := by decide +kernel
theorem d_D_settle_20 : decode b_D_settle 20 = .ok (.return_, 1) := by decide +kernel
theorem d_D_settle_21 : decode b_D_settle 21 = .ok (.aload_n 0, 1) := by decide +kernel
theorem d_D_settle_22 : decode b_D_settle 22 = .ok (.getfield 33, 3) := by decide +kernel
theorem d_D_settle_25 : decode b_D_settle 25 = .ok (.lconst 0, 1) := by decide +kernel
theorem d_D_settle_26 : decode b_D_settle 26 = .ok (.lcmp, 1) := by decide +kernel
theorem d_D_settle_27 : decode b_D_settle 27 = .ok (.ifCond .ne 11, 3) := by decide +kernel
theorem d_D_settle_30 : decode b_D_settle 30 = .ok (.aload_n 0, 1) := by decide +kernel
theorem d_D_settle_31 : decode b_D_settle 31 = .ok (.iconst 4, 1) := by decide +kernel
theorem d_D_settle_32 : decode b_D_settle 32 = .ok (.putfield 27, 3) := by decide +kernel
theorem d_D_settle_35 : decode b_D_settle 35 = .ok (.goto 9, 3) := by decide +kernel
theorem d_D_settle_38 : decode b_D_settle 38 = .ok (.aload_n 0, 1) := by decide +kernel
theorem d_D_settle_39 : decode b_D_settle 39 = .ok (.bipush 7, 2) := by decide +kernel
theorem d_D_settle_41 : decode b_D_settle 41 = .ok (.invokevirtual 81, 3) := by decide +kernel
theorem d_D_settle_44 : decode b_D_settle 44 = .ok (.return_, 1) := by decide +kernel
abbrev b_D_lose : ByteArray := prog_2_method_15_code
def y_D_lose : MethodName := ⟨R_D, "lose", "(I)V"⟩
def w_D_lose : List Cond := .code y_D_lose b_D_lose 2 none :: BIG
theorem d_D_lose_0 : decode b_D_lose 0 = .ok (.aload_n 0, 1) := by decide +kernel
theorem d_D_lose_1 : decode b_D_lose 1 = .ok (.iload_n 1, 1) := by decide +kernel
theorem d_D_lose_2 : decode b_D_lose 2 = .ok (.putfield 27, 3) := by decide +kernel
theorem d_D_lose_5 : decode b_D_lose 5 = .ok (.aload_n 0, 1) := by decide +kernel
theorem d_D_lose_6 : decode b_D_lose 6 = .ok (.aload_n 0, 1) := by decide +kernel
theorem d_D_lose_7 : decode b_D_lose 7 = .ok (.getfield 33, 3) := by decide +kernel
theorem d_D_lose_10 : decode b_D_lose 10 = .ok (.putfield 85, 3) := by decide +kernel
theorem d_D_lose_13 : decode b_D_lose 13 = .ok (.aload_n 0, 1) := by decide +kernel
theorem d_D_lose_14 : decode b_D_lose 14 = .ok (.lconst 0, 1) := by decide +kernel
theorem d_D_lose_15 : decode b_D_lose 15 = .ok (.putfield 33, 3) := by decide +kernel
theorem d_D_lose_18 : decode b_D_lose 18 = .ok (.return_, 1) := by decide +kernel
abbrev b_D_defer : ByteArray := prog_2_method_16_code
def y_D_defer : MethodName := ⟨R_D, "defer", "(II)V"⟩
def w_D_defer : List Cond := .code y_D_defer b_D_defer 3 none :: BIG
theorem d_D_defer_0 : decode b_D_defer 0 = .ok (.aload_n 0, 1) := by decide +kernel
theorem d_D_defer_1 : decode b_D_defer 1 = .ok (.iconst 2, 1) := by decide +kernel
theorem d_D_defer_2 : decode b_D_defer 2 = .ok (.putfield 27, 3) := by decide +kernel
theorem d_D_defer_5 : decode b_D_defer 5 = .ok (.aload_n 0, 1) := by decide +kernel
theorem d_D_defer_6 : decode b_D_defer 6 = .ok (.iload_n 1, 1) := by decide +kernel
theorem d_D_defer_7 : decode b_D_defer 7 = .ok (.putfield 88, 3) := by decide +kernel
theorem d_D_defer_10 : decode b_D_defer 10 = .ok (.aload_n 0, 1) := by decide +kernel
theorem d_D_defer_11 : decode b_D_defer 11 = .ok (.iload_n 2, 1) := by decide +kernel
theorem d_D_defer_12 : decode b_D_defer 12 = .ok (.putfield 91, 3) := by decide +kernel
theorem d_D_defer_15 : decode b_D_defer 15 = .ok (.aload_n 0, 1) := by decide +kernel
theorem d_D_defer_16 : decode b_D_defer 16 = .ok (.aload_n 0, 1) := by decide +kernel
theorem d_D_defer_17 : decode b_D_defer 17 = .ok (.getfield 33, 3) := by decide +kernel
theorem d_D_defer_20 : decode b_D_defer 20 = .ok (.putfield 94, 3) := by decide +kernel
theorem d_D_defer_23 : decode b_D_defer 23 = .ok (.return_, 1) := by decide +kernel
abbrev b_D_endsBy : ByteArray := prog_2_method_17_code
def y_D_endsBy : MethodName := ⟨R_D, "endsBy", "(I)Z"⟩
def w_D_endsBy : List Cond := .code y_D_endsBy b_D_endsBy 3 (some .boolean) :: BIG
theorem d_D_endsBy_0 : decode b_D_endsBy 0 = .ok (.aload_n 0, 1) := by decide +kernel
theorem d_D_endsBy_1 : decode b_D_endsBy 1 = .ok (.getfield 27, 3) := by decide +kernel
theorem d_D_endsBy_4 : decode b_D_endsBy 4 = .ok (.ifCond .ne 19, 3) := by decide +kernel
theorem d_D_endsBy_7 : decode b_D_endsBy 7 = .ok (.aload_n 0, 1) := by decide +kernel
theorem d_D_endsBy_8 : decode b_D_endsBy 8 = .ok (.iload_n 1, 1) := by decide +kernel
theorem d_D_endsBy_9 : decode b_D_endsBy 9 = .ok (.invokevirtual 97, 3) := by decide +kernel
theorem d_D_endsBy_12 : decode b_D_endsBy 12 = .ok (.ifCond .eq 11, 3) := by decide +kernel
theorem d_D_endsBy_15 : decode b_D_endsBy 15 = .ok (.aload_n 0, 1) := by decide +kernel
theorem d_D_endsBy_16 : decode b_D_endsBy 16 = .ok (.bipush 6, 2) := by decide +kernel
theorem d_D_endsBy_18 : decode b_D_endsBy 18 = .ok (.invokevirtual 81, 3) := by decide +kernel
theorem d_D_endsBy_21 : decode b_D_endsBy 21 = .ok (.iconst 1, 1) := by decide +kernel
theorem d_D_endsBy_22 : decode b_D_endsBy 22 = .ok (.ireturn, 1) := by decide +kernel
theorem d_D_endsBy_23 : decode b_D_endsBy 23 = .ok (.aload_n 0, 1) := by decide +kernel
theorem d_D_endsBy_24 : decode b_D_endsBy 24 = .ok (.getfield 27, 3) := by decide +kernel
theorem d_D_endsBy_27 : decode b_D_endsBy 27 = .ok (.iconst 2, 1) := by decide +kernel
theorem d_D_endsBy_28 : decode b_D_endsBy 28 = .ok (.if_icmp .eq 5, 3) := by decide +kernel
theorem d_D_endsBy_31 : decode b_D_endsBy 31 = .ok (.iconst 0, 1) := by decide +kernel
theorem d_D_endsBy_32 : decode b_D_endsBy 32 = .ok (.ireturn, 1) := by decide +kernel
theorem d_D_endsBy_33 : decode b_D_endsBy 33 = .ok (.aload_n 0, 1) := by decide +kernel
theorem d_D_endsBy_34 : decode b_D_endsBy 34 = .ok (.invokevirtual 100, 3) := by decide +kernel
theorem d_D_endsBy_37 : decode b_D_endsBy 37 = .ok (.istore_n 2, 1) := by decide +kernel
theorem d_D_endsBy_38 : decode b_D_endsBy 38 = .ok (.iload_n 2, 1) := by decide +kernel
theorem d_D_endsBy_39 : decode b_D_endsBy 39 = .ok (.iload_n 1, 1) := by decide +kernel
theorem d_D_endsBy_40 : decode b_D_endsBy 40 = .ok (.if_icmp .lt 5, 3) := by decide +kernel
theorem d_D_endsBy_43 : decode b_D_endsBy 43 = .ok (.iconst 0, 1) := by decide +kernel
theorem d_D_endsBy_44 : decode b_D_endsBy 44 = .ok (.ireturn, 1) := by decide +kernel
theorem d_D_endsBy_45 : decode b_D_endsBy 45 = .ok (.aload_n 0, 1) := by decide +kernel
theorem d_D_endsBy_46 : decode b_D_endsBy 46 = .ok (.iload_n 2, 1) := by decide +kernel
theorem d_D_endsBy_47 : decode b_D_endsBy 47 = .ok (.iconst 1, 1) := by decide +kernel
theorem d_D_endsBy_48 : decode b_D_endsBy 48 = .ok (.iadd, 1) := by decide +kernel
theorem d_D_endsBy_49 : decode b_D_endsBy 49 = .ok (.invokevirtual 104, 3) := by decide +kernel
theorem d_D_endsBy_52 : decode b_D_endsBy 52 = .ok (.iconst 1, 1) := by decide +kernel
theorem d_D_endsBy_53 : decode b_D_endsBy 53 = .ok (.ireturn, 1) := by decide +kernel
abbrev b_D_firstMissedDay : ByteArray := prog_2_method_18_code
def y_D_firstMissedDay : MethodName := ⟨R_D, "firstMissedDay", "()I"⟩
def w_D_firstMissedDay : List Cond := .code y_D_firstMissedDay b_D_firstMissedDay 2 (some .int) :: BIG
theorem d_D_firstMissedDay_0 : decode b_D_firstMissedDay 0 = .ok (.iconst 1, 1) := by decide +kernel
theorem d_D_firstMissedDay_1 : decode b_D_firstMissedDay 1 = .ok (.istore_n 1, 1) := by decide +kernel
theorem d_D_firstMissedDay_2 : decode b_D_firstMissedDay 2 = .ok (.iload_n 1, 1) := by decide +kernel
theorem d_D_firstMissedDay_3 : decode b_D_firstMissedDay 3 = .ok (.aload_n 0, 1) := by decide +kernel
theorem d_D_firstMissedDay_4 : decode b_D_firstMissedDay 4 = .ok (.getfield 91, 3) := by decide +kernel
theorem d_D_firstMissedDay_7 : decode b_D_firstMissedDay 7 = .ok (.if_icmp .ge 22, 3) := by decide +kernel
theorem d_D_firstMissedDay_10 : decode b_D_firstMissedDay 10 = .ok (.aload_n 0, 1) := by decide +kernel
theorem d_D_firstMissedDay_11 : decode b_D_firstMissedDay 11 = .ok (.getfield 33, 3) := by decide +kernel
theorem d_D_firstMissedDay_14 : decode b_D_firstMissedDay 14 = .ok (.aload_n 0, 1) := by decide +kernel
theorem d_D_firstMissedDay_15 : decode b_D_firstMissedDay 15 = .ok (.iload_n 1, 1) := by decide +kernel
theorem d_D_firstMissedDay_16 : decode b_D_firstMissedDay 16 = .ok (.invokevirtual 107, 3) := by decide +kernel
theorem d_D_firstMissedDay_19 : decode b_D_firstMissedDay 19 = .ok (.lcmp, 1) := by decide +kernel
theorem d_D_firstMissedDay_20 : decode b_D_firstMissedDay 20 = .ok (.ifCond .gt 9, 3) := by decide +kernel
theorem d_D_firstMissedDay_23 : decode b_D_firstMissedDay 23 = .ok (.iinc 1 1, 3) := by decide +kernel
theorem d_D_firstMissedDay_26 : decode b_D_firstMissedDay 26 = .ok (.goto (-24), 3) := by decide +kernel
theorem d_D_firstMissedDay_29 : decode b_D_firstMissedDay 29 = .ok (.aload_n 0, 1) := by decide +kernel
theorem d_D_firstMissedDay_30 : decode b_D_firstMissedDay 30 = .ok (.getfield 88, 3) := by decide +kernel
theorem d_D_firstMissedDay_33 : decode b_D_firstMissedDay 33 = .ok (.bipush 30, 2) := by decide +kernel
theorem d_D_firstMissedDay_35 : decode b_D_firstMissedDay 35 = .ok (.iload_n 1, 1) := by decide +kernel
theorem d_D_firstMissedDay_36 : decode b_D_firstMissedDay 36 = .ok (.imul, 1) := by decide +kernel
theorem d_D_firstMissedDay_37 : decode b_D_firstMissedDay 37 = .ok (.iadd, 1) := by decide +kernel
theorem d_D_firstMissedDay_38 : decode b_D_firstMissedDay 38 = .ok (.ireturn, 1) := by decide +kernel
abbrev b_D_mayBeOpen : ByteArray := prog_2_method_19_code
def y_D_mayBeOpen : MethodName := ⟨R_D, "mayBeOpen", "(I)J"⟩
def w_D_mayBeOpen : List Cond := .code y_D_mayBeOpen b_D_mayBeOpen 2 (some .long) :: BIG
theorem d_D_mayBeOpen_0 : decode b_D_mayBeOpen 0 = .ok (.aload_n 0, 1) := by decide +kernel
theorem d_D_mayBeOpen_1 : decode b_D_mayBeOpen 1 = .ok (.getfield 91, 3) := by decide +kernel
theorem d_D_mayBeOpen_4 : decode b_D_mayBeOpen 4 = .ok (.iconst 1, 1) := by decide +kernel
theorem d_D_mayBeOpen_5 : decode b_D_mayBeOpen 5 = .ok (.if_icmp .ge 7, 3) := by decide +kernel
theorem d_D_mayBeOpen_8 : decode b_D_mayBeOpen 8 = .ok (.lconst 0, 1) := by decide +kernel
theorem d_D_mayBeOpen_9 : decode b_D_mayBeOpen 9 = .ok (.goto 21, 3) := by decide +kernel
theorem d_D_mayBeOpen_12 : decode b_D_mayBeOpen 12 = .ok (.aload_n 0, 1) := by decide +kernel
theorem d_D_mayBeOpen_13 : decode b_D_mayBeOpen 13 = .ok (.getfield 94, 3) := by decide +kernel
theorem d_D_mayBeOpen_16 : decode b_D_mayBeOpen 16 = .ok (.aload_n 0, 1) := by decide +kernel
theorem d_D_mayBeOpen_17 : decode b_D_mayBeOpen 17 = .ok (.getfield 91, 3) := by decide +kernel
theorem d_D_mayBeOpen_20 : decode b_D_mayBeOpen 20 = .ok (.iload_n 1, 1) := by decide +kernel
theorem d_D_mayBeOpen_21 : decode b_D_mayBeOpen 21 = .ok (.isub, 1) := by decide +kernel
theorem d_D_mayBeOpen_22 : decode b_D_mayBeOpen 22 = .ok (.i2l, 1) := by decide +kernel
theorem d_D_mayBeOpen_23 : decode b_D_mayBeOpen 23 = .ok (.lmul, 1) := by decide +kernel
theorem d_D_mayBeOpen_24 : decode b_D_mayBeOpen 24 = .ok (.aload_n 0, 1) := by decide +kernel
theorem d_D_mayBeOpen_25 : decode b_D_mayBeOpen 25 = .ok (.getfield 91, 3) := by decide +kernel
theorem d_D_mayBeOpen_28 : decode b_D_mayBeOpen 28 = .ok (.i2l, 1) := by decide +kernel
theorem d_D_mayBeOpen_29 : decode b_D_mayBeOpen 29 = .ok (.ldiv, 1) := by decide +kernel
theorem d_D_mayBeOpen_30 : decode b_D_mayBeOpen 30 = .ok (.lreturn, 1) := by decide +kernel
abbrev b_D_part : ByteArray := prog_2_method_20_code
def y_D_part : MethodName := ⟨R_D, "part", "(I)J"⟩
def w_D_part : List Cond := .code y_D_part b_D_part 2 (some .long) :: BIG
theorem d_D_part_0 : decode b_D_part 0 = .ok (.iload_n 1, 1) := by decide +kernel
theorem d_D_part_1 : decode b_D_part 1 = .ok (.tableswitch 61 0 3 #[31, 36, 41, 56], 31) := by decide +kernel
theorem d_D_part_32 : decode b_D_part 32 = .ok (.aload_n 0, 1) := by decide +kernel
theorem d_D_part_33 : decode b_D_part 33 = .ok (.getfield 9, 3) := by decide +kernel
theorem d_D_part_36 : decode b_D_part 36 = .ok (.lreturn, 1) := by decide +kernel
theorem d_D_part_37 : decode b_D_part 37 = .ok (.aload_n 0, 1) := by decide +kernel
theorem d_D_part_38 : decode b_D_part 38 = .ok (.getfield 33, 3) := by decide +kernel
theorem d_D_part_41 : decode b_D_part 41 = .ok (.lreturn, 1) := by decide +kernel
theorem d_D_part_42 : decode b_D_part 42 = .ok (.aload_n 0, 1) := by decide +kernel
theorem d_D_part_43 : decode b_D_part 43 = .ok (.getfield 9, 3) := by decide +kernel
theorem d_D_part_46 : decode b_D_part 46 = .ok (.aload_n 0, 1) := by decide +kernel
theorem d_D_part_47 : decode b_D_part 47 = .ok (.getfield 33, 3) := by decide +kernel
theorem d_D_part_50 : decode b_D_part 50 = .ok (.lsub, 1) := by decide +kernel
theorem d_D_part_51 : decode b_D_part 51 = .ok (.aload_n 0, 1) := by decide +kernel
theorem d_D_part_52 : decode b_D_part 52 = .ok (.getfield 85, 3) := by decide +kernel
theorem d_D_part_55 : decode b_D_part 55 = .ok (.lsub, 1) := by decide +kernel
theorem d_D_part_56 : decode b_D_part 56 = .ok (.lreturn, 1) := by decide +kernel
theorem d_D_part_57 : decode b_D_part 57 = .ok (.aload_n 0, 1) := by decide +kernel
theorem d_D_part_58 : decode b_D_part 58 = .ok (.getfield 85, 3) := by decide +kernel
theorem d_D_part_61 : decode b_D_part 61 = .ok (.lreturn, 1) := by decide +kernel
theorem d_D_part_62 : decode b_D_part 62 = .ok (.aload_n 0, 1) := by decide +kernel
theorem d_D_part_63 : decode b_D_part 63 = .ok (.getfield 73, 3) := by decide +kernel
theorem d_D_part_66 : decode b_D_part 66 = .ok (.lreturn, 1) := by decide +kernel
abbrev b_S_init : ByteArray := prog_3_method_1_code
def y_S_init : MethodName := ⟨R_S, "<init>", "()V"⟩
def w_S_init : List Cond := .code y_S_init b_S_init 1 none :: BIG
theorem d_S_init_0 : decode b_S_init 0 = .ok (.aload_n 0, 1) := by decide +kernel
theorem d_S_init_1 : decode b_S_init 1 = .ok (.invokespecial 3, 3) := by decide +kernel
theorem d_S_init_4 : decode b_S_init 4 = .ok (.aload_n 0, 1) := by decide +kernel
theorem d_S_init_5 : decode b_S_init 5 = .ok (.bipush 20, 2) := by decide +kernel
theorem d_S_init_7 : decode b_S_init 7 = .ok (.newarray .int, 2) := by decide +kernel
theorem d_S_init_9 : decode b_S_init 9 = .ok (.putfield 9, 3) := by decide +kernel
theorem d_S_init_12 : decode b_S_init 12 = .ok (.aload_n 0, 1) := by decide +kernel
theorem d_S_init_13 : decode b_S_init 13 = .ok (.bipush 20, 2) := by decide +kernel
theorem d_S_init_15 : decode b_S_init 15 = .ok (.newarray .int, 2) := by decide +kernel
theorem d_S_init_17 : decode b_S_init 17 = .ok (.putfield 15, 3) := by decide +kernel
theorem d_S_init_20 : decode b_S_init 20 = .ok (.aload_n 0, 1) := by decide +kernel
theorem d_S_init_21 : decode b_S_init 21 = .ok (.bipush 20, 2) := by decide +kernel
theorem d_S_init_23 : decode b_S_init 23 = .ok (.newarray .int, 2) := by decide +kernel
theorem d_S_init_25 : decode b_S_init 25 = .ok (.putfield 18, 3) := by decide +kernel
theorem d_S_init_28 : decode b_S_init 28 = .ok (.aload_n 0, 1) := by decide +kernel
theorem d_S_init_29 : decode b_S_init 29 = .ok (.iconst 0, 1) := by decide +kernel
theorem d_S_init_30 : decode b_S_init 30 = .ok (.putfield 21, 3) := by decide +kernel
theorem d_S_init_33 : decode b_S_init 33 = .ok (.return_, 1) := by decide +kernel
abbrev b_S_latestDay : ByteArray := prog_3_method_2_code
def y_S_latestDay : MethodName := ⟨R_S, "latestDay", "()I"⟩
def w_S_latestDay : List Cond := .code y_S_latestDay b_S_latestDay 1 (some .int) :: BIG
theorem d_S_latestDay_0 : decode b_S_latestDay 0 = .ok (.aload_n 0, 1) := by decide +kernel
theorem d_S_latestDay_1 : decode b_S_latestDay 1 = .ok (.getfield 21, 3) := by decide +kernel
theorem d_S_latestDay_4 : decode b_S_latestDay 4 = .ok (.iconst 1, 1) := by decide +kernel
theorem d_S_latestDay_5 : decode b_S_latestDay 5 = .ok (.if_icmp .ge 7, 3) := by decide +kernel
theorem d_S_latestDay_8 : decode b_S_latestDay 8 = .ok (.iconst 0, 1) := by decide +kernel
theorem d_S_latestDay_9 : decode b_S_latestDay 9 = .ok (.goto 14, 3) := by decide +kernel
theorem d_S_latestDay_12 : decode b_S_latestDay 12 = .ok (.aload_n 0, 1) := by decide +kernel
theorem d_S_latestDay_13 : decode b_S_latestDay 13 = .ok (.getfield 9, 3) := by decide +kernel
theorem d_S_latestDay_16 : decode b_S_latestDay 16 = .ok (.aload_n 0, 1) := by decide +kernel
theorem d_S_latestDay_17 : decode b_S_latestDay 17 = .ok (.getfield 21, 3) := by decide +kernel
theorem d_S_latestDay_20 : decode b_S_latestDay 20 = .ok (.iconst 1, 1) := by decide +kernel
theorem d_S_latestDay_21 : decode b_S_latestDay 21 = .ok (.isub, 1) := by decide +kernel
theorem d_S_latestDay_22 : decode b_S_latestDay 22 = .ok (.iaload, 1) := by decide +kernel
theorem d_S_latestDay_23 : decode b_S_latestDay 23 = .ok (.ireturn, 1) := by decide +kernel
abbrev b_S_append : ByteArray := prog_3_method_3_code
def y_S_append : MethodName := ⟨R_S, "append", "(III)V"⟩
def w_S_append : List Cond := .code y_S_append b_S_append 4 none :: BIG
theorem d_S_append_0 : decode b_S_append 0 = .ok (.aload_n 0, 1) := by decide +kernel
theorem d_S_append_1 : decode b_S_append 1 = .ok (.getfield 21, 3) := by decide +kernel
theorem d_S_append_4 : decode b_S_append 4 = .ok (.bipush 20, 2) := by decide +kernel
theorem d_S_append_6 : decode b_S_append 6 = .ok (.if_icmp .lt 4, 3) := by decide +kernel
theorem d_S_append_9 : decode b_S_append 9 = .ok (.return_, 1) := by decide +kernel
theorem d_S_append_10 : decode b_S_append 10 = .ok (.aload_n 0, 1) := by decide +kernel
theorem d_S_append_11 : decode b_S_append 11 = .ok (.getfield 9, 3) := by decide +kernel
theorem d_S_append_14 : decode b_S_append 14 = .ok (.aload_n 0, 1) := by decide +kernel
theorem d_S_append_15 : decode b_S_append 15 = .ok (.getfield 21, 3) := by decide +kernel
theorem d_S_append_18 : decode b_S_append 18 = .ok (.iload_n 1, 1) := by decide +kernel
theorem d_S_append_19 : decode b_S_append 19 = .ok (.iastore, 1) := by decide +kernel
theorem d_S_append_20 : decode b_S_append 20 = .ok (.aload_n 0, 1) := by decide +kernel
theorem d_S_append_21 : decode b_S_append 21 = .ok (.getfield 15, 3) := by decide +kernel
theorem d_S_append_24 : decode b_S_append 24 = .ok (.aload_n 0, 1) := by decide +kernel
theorem d_S_append_25 : decode b_S_append 25 = .ok (.getfield 21, 3) := by decide +kernel
theorem d_S_append_28 : decode b_S_append 28 = .ok (.iload_n 2, 1) := by decide +kernel
theorem d_S_append_29 : decode b_S_append 29 = .ok (.iastore, 1) := by decide +kernel
theorem d_S_append_30 : decode b_S_append 30 = .ok (.aload_n 0, 1) := by decide +kernel
theorem d_S_append_31 : decode b_S_append 31 = .ok (.getfield 18, 3) := by decide +kernel
theorem d_S_append_34 : decode b_S_append 34 = .ok (.aload_n 0, 1) := by decide +kernel
theorem d_S_append_35 : decode b_S_append 35 = .ok (.getfield 21, 3) := by decide +kernel
theorem d_S_append_38 : decode b_S_append 38 = .ok (.iload_n 3, 1) := by decide +kernel
theorem d_S_append_39 : decode b_S_append 39 = .ok (.iastore, 1) := by decide +kernel
theorem d_S_append_40 : decode b_S_append 40 = .ok (.aload_n 0, 1) := by decide +kernel
theorem d_S_append_41 : decode b_S_append 41 = .ok (.dup, 1) := by decide +kernel
theorem d_S_append_42 : decode b_S_append 42 = .ok (.getfield 21, 3) := by decide +kernel
theorem d_S_append_45 : decode b_S_append 45 = .ok (.iconst 1, 1) := by decide +kernel
theorem d_S_append_46 : decode b_S_append 46 = .ok (.iadd, 1) := by decide +kernel
theorem d_S_append_47 : decode b_S_append 47 = .ok (.putfield 21, 3) := by decide +kernel
theorem d_S_append_50 : decode b_S_append 50 = .ok (.return_, 1) := by decide +kernel
abbrev b_S_interest : ByteArray := prog_3_method_4_code
def y_S_interest : MethodName := ⟨R_S, "interest", "(JII)J"⟩
def w_S_interest : List Cond := .code y_S_interest b_S_interest 12 (some .long) :: BIG
theorem d_S_interest_0 : decode b_S_interest 0 = .ok (.lconst 0, 1) := by decide +kernel
theorem d_S_interest_1 : decode b_S_interest 1 = .ok (.lstore 5, 2) := by decide +kernel
theorem d_S_interest_3 : decode b_S_interest 3 = .ok (.iconst 0, 1) := by decide +kernel
theorem d_S_interest_4 : decode b_S_interest 4 = .ok (.istore 7, 2) := by decide +kernel
theorem d_S_interest_6 : decode b_S_interest 6 = .ok (.iload 7, 2) := by decide +kernel
theorem d_S_interest_8 : decode b_S_interest 8 = .ok (.aload_n 0, 1) := by decide +kernel
theorem d_S_interest_9 : decode b_S_interest 9 = .ok (.getfield 21, 3) := by decide +kernel
theorem d_S_interest_12 : decode b_S_interest 12 = .ok (.if_icmp .ge 116, 3) := by decide +kernel
theorem d_S_interest_15 : decode b_S_interest 15 = .ok (.aload_n 0, 1) := by decide +kernel
theorem d_S_interest_16 : decode b_S_interest 16 = .ok (.getfield 9, 3) := by decide +kernel
theorem d_S_interest_19 : decode b_S_interest 19 = .ok (.iload 7, 2) := by decide +kernel
theorem d_S_interest_21 : decode b_S_interest 21 = .ok (.iaload, 1) := by decide +kernel
theorem d_S_interest_22 : decode b_S_interest 22 = .ok (.iload_n 3, 1) := by decide +kernel
theorem d_S_interest_23 : decode b_S_interest 23 = .ok (.iconst 1, 1) := by decide +kernel
theorem d_S_interest_24 : decode b_S_interest 24 = .ok (.iadd, 1) := by decide +kernel
theorem d_S_interest_25 : decode b_S_interest 25 = .ok (.invokestatic 25, 3) := by decide +kernel
theorem d_S_interest_28 : decode b_S_interest 28 = .ok (.istore 8, 2) := by decide +kernel
theorem d_S_interest_30 : decode b_S_interest 30 = .ok (.iload 7, 2) := by decide +kernel
theorem d_S_interest_32 : decode b_S_interest 32 = .ok (.iconst 1, 1) := by decide +kernel
theorem d_S_interest_33 : decode b_S_interest 33 = .ok (.iadd, 1) := by decide +kernel
theorem d_S_interest_34 : decode b_S_interest 34 = .ok (.aload_n 0, 1) := by decide +kernel
theorem d_S_interest_35 : decode b_S_interest 35 = .ok (.getfield 21, 3) := by decide +kernel
theorem d_S_interest_38 : decode b_S_interest 38 = .ok (.if_icmp .ge 22, 3) := by decide +kernel
theorem d_S_interest_41 : decode b_S_interest 41 = .ok (.iload 4, 2) := by decide +kernel
theorem d_S_interest_43 : decode b_S_interest 43 = .ok (.aload_n 0, 1) := by decide +kernel
theorem d_S_interest_44 : decode b_S_interest 44 = .ok (.getfield 9, 3) := by decide +kernel
theorem d_S_interest_47 : decode b_S_interest 47 = .ok (.iload 7, 2) := by decide +kernel
theorem d_S_interest_49 : decode b_S_interest 49 = .ok (.iconst 1, 1) := by decide +kernel
theorem d_S_interest_50 : decode b_S_interest 50 = .ok (.iadd, 1) := by decide +kernel
theorem d_S_interest_51 : decode b_S_interest 51 = .ok (.iaload, 1) := by decide +kernel
theorem d_S_interest_52 : decode b_S_interest 52 = .ok (.iconst 1, 1) := by decide +kernel
theorem d_S_interest_53 : decode b_S_interest 53 = .ok (.isub, 1) := by decide +kernel
theorem d_S_interest_54 : decode b_S_interest 54 = .ok (.invokestatic 31, 3) := by decide +kernel
theorem d_S_interest_57 : decode b_S_interest 57 = .ok (.goto 5, 3) := by decide +kernel
theorem d_S_interest_60 : decode b_S_interest 60 = .ok (.iload 4, 2) := by decide +kernel
theorem d_S_interest_62 : decode b_S_interest 62 = .ok (.istore 9, 2) := by decide +kernel
theorem d_S_interest_64 : decode b_S_interest 64 = .ok (.iload 8, 2) := by decide +kernel
theorem d_S_interest_66 : decode b_S_interest 66 = .ok (.iload 9, 2) := by decide +kernel
theorem d_S_interest_68 : decode b_S_interest 68 = .ok (.if_icmp .gt 54, 3) := by decide +kernel
theorem d_S_interest_71 : decode b_S_interest 71 = .ok (.aload_n 0, 1) := by decide +kernel
theorem d_S_interest_72 : decode b_S_interest 72 = .ok (.getfield 18, 3) := by decide +kernel
theorem d_S_interest_75 : decode b_S_interest 75 = .ok (.iload 7, 2) := by decide +kernel
theorem d_S_interest_77 : decode b_S_interest 77 = .ok (.iaload, 1) := by decide +kernel
theorem d_S_interest_78 : decode b_S_interest 78 = .ok (.ifCond .le 44, 3) := by decide +kernel
theorem d_S_interest_81 : decode b_S_interest 81 = .ok (.iload 9, 2) := by decide +kernel
theorem d_S_interest_83 : decode b_S_interest 83 = .ok (.iload 8, 2) := by decide +kernel
theorem d_S_interest_85 : decode b_S_interest 85 = .ok (.isub, 1) := by decide +kernel
theorem d_S_interest_86 : decode b_S_interest 86 = .ok (.iconst 1, 1) := by decide +kernel
theorem d_S_interest_87 : decode b_S_interest 87 = .ok (.iadd, 1) := by decide +kernel
theorem d_S_interest_88 : decode b_S_interest 88 = .ok (.i2l, 1) := by decide +kernel
theorem d_S_interest_89 : decode b_S_interest 89 = .ok (.lstore 10, 2) := by decide +kernel
theorem d_S_interest_91 : decode b_S_interest 91 = .ok (.lload 5, 2) := by decide +kernel
theorem d_S_interest_93 : decode b_S_interest 93 = .ok (.lload_n 1, 1) := by decide +kernel
theorem d_S_interest_94 : decode b_S_interest 94 = .ok (.lload 10, 2) := by decide +kernel
theorem d_S_interest_96 : decode b_S_interest 96 = .ok (.lmul, 1) := by decide +kernel
theorem d_S_interest_97 : decode b_S_interest 97 = .ok (.aload_n 0, 1) := by decide +kernel
theorem d_S_interest_98 : decode b_S_interest 98 = .ok (.getfield 15, 3) := by decide +kernel
theorem d_S_interest_101 : decode b_S_interest 101 = .ok (.iload 7, 2) := by decide +kernel
theorem d_S_interest_103 : decode b_S_interest 103 = .ok (.iaload, 1) := by decide +kernel
theorem d_S_interest_104 : decode b_S_interest 104 = .ok (.i2l, 1) := by decide +kernel
theorem d_S_interest_105 : decode b_S_interest 105 = .ok (.lmul, 1) := by decide +kernel
theorem d_S_interest_106 : decode b_S_interest 106 = .ok (.aload_n 0, 1) := by decide +kernel
theorem d_S_interest_107 : decode b_S_interest 107 = .ok (.getfield 18, 3) := by decide +kernel
theorem d_S_interest_110 : decode b_S_interest 110 = .ok (.iload 7, 2) := by decide +kernel
theorem d_S_interest_112 : decode b_S_interest 112 = .ok (.iaload, 1) := by decide +kernel
theorem d_S_interest_113 : decode b_S_interest 113 = .ok (.i2l, 1) := by decide +kernel
theorem d_S_interest_114 : decode b_S_interest 114 = .ok (.ldc2_w 34, 3) := by decide +kernel
theorem d_S_interest_117 : decode b_S_interest 117 = .ok (.lmul, 1) := by decide +kernel
theorem d_S_interest_118 : decode b_S_interest 118 = .ok (.ldiv, 1) := by decide +kernel
theorem d_S_interest_119 : decode b_S_interest 119 = .ok (.ladd, 1) := by decide +kernel
theorem d_S_interest_120 : decode b_S_interest 120 = .ok (.lstore 5, 2) := by decide +kernel
theorem d_S_interest_122 : decode b_S_interest 122 = .ok (.iinc 7 1, 3) := by decide +kernel
theorem d_S_interest_125 : decode b_S_interest 125 = .ok (.goto (-119), 3) := by decide +kernel
theorem d_S_interest_128 : decode b_S_interest 128 = .ok (.lload 5, 2) := by decide +kernel
theorem d_S_interest_130 : decode b_S_interest 130 = .ok (.lreturn, 1) := by decide +kernel
