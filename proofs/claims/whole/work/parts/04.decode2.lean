abbrev b_X_init : ByteArray := prog_1_method_1_code
def y_X_init : MethodName := ⟨R_X, "<init>", "()V"⟩
def w_X_init : List Cond := .code y_X_init b_X_init 1 none :: BIG
theorem d_X_init_0 : decode b_X_init 0 = .ok (.aload_n 0, 1) := by decide +kernel
theorem d_X_init_1 : decode b_X_init 1 = .ok (.invokespecial 1, 3) := by decide +kernel
theorem d_X_init_4 : decode b_X_init 4 = .ok (.aload_n 0, 1) := by decide +kernel
theorem d_X_init_5 : decode b_X_init 5 = .ok (.new 7, 3) := by decide +kernel
theorem d_X_init_8 : decode b_X_init 8 = .ok (.dup, 1) := by decide +kernel
theorem d_X_init_9 : decode b_X_init 9 = .ok (.invokespecial 9, 3) := by decide +kernel
theorem d_X_init_12 : decode b_X_init 12 = .ok (.putfield 10, 3) := by decide +kernel
theorem d_X_init_15 : decode b_X_init 15 = .ok (.aload_n 0, 1) := by decide +kernel
theorem d_X_init_16 : decode b_X_init 16 = .ok (.bipush 40, 2) := by decide +kernel
theorem d_X_init_18 : decode b_X_init 18 = .ok (.anewarray 16, 3) := by decide +kernel
theorem d_X_init_21 : decode b_X_init 21 = .ok (.putfield 18, 3) := by decide +kernel
theorem d_X_init_24 : decode b_X_init 24 = .ok (.aload_n 0, 1) := by decide +kernel
theorem d_X_init_25 : decode b_X_init 25 = .ok (.bipush 16, 2) := by decide +kernel
theorem d_X_init_27 : decode b_X_init 27 = .ok (.newarray .long, 2) := by decide +kernel
theorem d_X_init_29 : decode b_X_init 29 = .ok (.putfield 22, 3) := by decide +kernel
theorem d_X_init_32 : decode b_X_init 32 = .ok (.aload_n 0, 1) := by decide +kernel
theorem d_X_init_33 : decode b_X_init 33 = .ok (.iconst 0, 1) := by decide +kernel
theorem d_X_init_34 : decode b_X_init 34 = .ok (.putfield 26, 3) := by decide +kernel
theorem d_X_init_37 : decode b_X_init 37 = .ok (.aload_n 0, 1) := by decide +kernel
theorem d_X_init_38 : decode b_X_init 38 = .ok (.iconst 0, 1) := by decide +kernel
theorem d_X_init_39 : decode b_X_init 39 = .ok (.putfield 30, 3) := by decide +kernel
theorem d_X_init_42 : decode b_X_init 42 = .ok (.return_, 1) := by decide +kernel
abbrev b_X_rate : ByteArray := prog_1_method_2_code
def y_X_rate : MethodName := ⟨R_X, "rate", "(III)I"⟩
def w_X_rate : List Cond := .code y_X_rate b_X_rate 4 (some .int) :: BIG
theorem d_X_rate_0 : decode b_X_rate 0 = .ok (.iload_n 3, 1) := by decide +kernel
theorem d_X_rate_1 : decode b_X_rate 1 = .ok (.ifCond .ne 13, 3) := by decide +kernel
theorem d_X_rate_4 : decode b_X_rate 4 = .ok (.new 33, 3) := by decide +kernel
theorem d_X_rate_7 : decode b_X_rate 7 = .ok (.dup, 1) := by decide +kernel
theorem d_X_rate_8 : decode b_X_rate 8 = .ok (.ldc 35, 2) := by decide +kernel
theorem d_X_rate_10 : decode b_X_rate 10 = .ok (.invokespecial 37, 3) := by decide +kernel
theorem d_X_rate_13 : decode b_X_rate 13 = .ok (.athrow, 1) := by decide +kernel
theorem d_X_rate_14 : decode b_X_rate 14 = .ok (.iload_n 1, 1) := by decide +kernel
theorem d_X_rate_15 : decode b_X_rate 15 = .ok (.aload_n 0, 1) := by decide +kernel
theorem d_X_rate_16 : decode b_X_rate 16 = .ok (.getfield 30, 3) := by decide +kernel
theorem d_X_rate_19 : decode b_X_rate 19 = .ok (.if_icmp .le 20, 3) := by decide +kernel
theorem d_X_rate_22 : decode b_X_rate 22 = .ok (.iload_n 1, 1) := by decide +kernel
theorem d_X_rate_23 : decode b_X_rate 23 = .ok (.aload_n 0, 1) := by decide +kernel
theorem d_X_rate_24 : decode b_X_rate 24 = .ok (.getfield 10, 3) := by decide +kernel
theorem d_X_rate_27 : decode b_X_rate 27 = .ok (.invokevirtual 40, 3) := by decide +kernel
theorem d_X_rate_30 : decode b_X_rate 30 = .ok (.if_icmp .lt 9, 3) := by decide +kernel
theorem d_X_rate_33 : decode b_X_rate 33 = .ok (.iload_n 1, 1) := by decide +kernel
theorem d_X_rate_34 : decode b_X_rate 34 = .ok (.ldc 44, 2) := by decide +kernel
theorem d_X_rate_36 : decode b_X_rate 36 = .ok (.if_icmp .le 13, 3) := by decide +kernel
theorem d_X_rate_39 : decode b_X_rate 39 = .ok (.new 45, 3) := by decide +kernel
theorem d_X_rate_42 : decode b_X_rate 42 = .ok (.dup, 1) := by decide +kernel
theorem d_X_rate_43 : decode b_X_rate 43 = .ok (.ldc 47, 2) := by decide +kernel
theorem d_X_rate_45 : decode b_X_rate 45 = .ok (.invokespecial 49, 3) := by decide +kernel
theorem d_X_rate_48 : decode b_X_rate 48 = .ok (.athrow, 1) := by decide +kernel
theorem d_X_rate_49 : decode b_X_rate 49 = .ok (.iload_n 3, 1) := by decide +kernel
theorem d_X_rate_50 : decode b_X_rate 50 = .ok (.ifCond .lt 19, 3) := by decide +kernel
theorem d_X_rate_53 : decode b_X_rate 53 = .ok (.iload_n 3, 1) := by decide +kernel
theorem d_X_rate_54 : decode b_X_rate 54 = .ok (.sipush 1000, 3) := by decide +kernel
theorem d_X_rate_57 : decode b_X_rate 57 = .ok (.if_icmp .gt 12, 3) := by decide +kernel
theorem d_X_rate_60 : decode b_X_rate 60 = .ok (.iload_n 2, 1) := by decide +kernel
theorem d_X_rate_61 : decode b_X_rate 61 = .ok (.ifCond .lt 8, 3) := by decide +kernel
theorem d_X_rate_64 : decode b_X_rate 64 = .ok (.iload_n 2, 1) := by decide +kernel
theorem d_X_rate_65 : decode b_X_rate 65 = .ok (.iload_n 3, 1) := by decide +kernel
theorem d_X_rate_66 : decode b_X_rate 66 = .ok (.if_icmp .le 13, 3) := by decide +kernel
theorem d_X_rate_69 : decode b_X_rate 69 = .ok (.new 45, 3) := by decide +kernel
theorem d_X_rate_72 : decode b_X_rate 72 = .ok (.dup, 1) := by decide +kernel
theorem d_X_rate_73 : decode b_X_rate 73 = .ok (.ldc 50, 2) := by decide +kernel
theorem d_X_rate_75 : decode b_X_rate 75 = .ok (.invokespecial 49, 3) := by decide +kernel
theorem d_X_rate_78 : decode b_X_rate 78 = .ok (.athrow, 1) := by decide +kernel
theorem d_X_rate_79 : decode b_X_rate 79 = .ok (.aload_n 0, 1) := by decide +kernel
theorem d_X_rate_80 : decode b_X_rate 80 = .ok (.getfield 10, 3) := by decide +kernel
theorem d_X_rate_83 : decode b_X_rate 83 = .ok (.getfield 52, 3) := by decide +kernel
theorem d_X_rate_86 : decode b_X_rate 86 = .ok (.bipush 20, 2) := by decide +kernel
theorem d_X_rate_88 : decode b_X_rate 88 = .ok (.if_icmp .lt 13, 3) := by decide +kernel
theorem d_X_rate_91 : decode b_X_rate 91 = .ok (.new 55, 3) := by decide +kernel
theorem d_X_rate_94 : decode b_X_rate 94 = .ok (.dup, 1) := by decide +kernel
theorem d_X_rate_95 : decode b_X_rate 95 = .ok (.ldc 57, 2) := by decide +kernel
theorem d_X_rate_97 : decode b_X_rate 97 = .ok (.invokespecial 59, 3) := by decide +kernel
theorem d_X_rate_100 : decode b_X_rate 100 = .ok (.athrow, 1) := by decide +kernel
theorem d_X_rate_101 : decode b_X_rate 101 = .ok (.aload_n 0, 1) := by decide +kernel
theorem d_X_rate_102 : decode b_X_rate 102 = .ok (.getfield 10, 3) := by decide +kernel
theorem d_X_rate_105 : decode b_X_rate 105 = .ok (.iload_n 1, 1) := by decide +kernel
theorem d_X_rate_106 : decode b_X_rate 106 = .ok (.iload_n 2, 1) := by decide +kernel
theorem d_X_rate_107 : decode b_X_rate 107 = .ok (.iload_n 3, 1) := by decide +kernel
theorem d_X_rate_108 : decode b_X_rate 108 = .ok (.invokevirtual 60, 3) := by decide +kernel
theorem d_X_rate_111 : decode b_X_rate 111 = .ok (.aload_n 0, 1) := by decide +kernel
theorem d_X_rate_112 : decode b_X_rate 112 = .ok (.getfield 10, 3) := by decide +kernel
theorem d_X_rate_115 : decode b_X_rate 115 = .ok (.getfield 52, 3) := by decide +kernel
theorem d_X_rate_118 : decode b_X_rate 118 = .ok (.ireturn, 1) := by decide +kernel
abbrev b_X_debt : ByteArray := prog_1_method_3_code
def y_X_debt : MethodName := ⟨R_X, "debt", "(JI)I"⟩
def w_X_debt : List Cond := .code y_X_debt b_X_debt 5 (some .int) :: BIG
theorem d_X_debt_0 : decode b_X_debt 0 = .ok (.lload_n 1, 1) := by decide +kernel
theorem d_X_debt_1 : decode b_X_debt 1 = .ok (.invokestatic 64, 3) := by decide +kernel
theorem d_X_debt_4 : decode b_X_debt 4 = .ok (.ifCond .ne 13, 3) := by decide +kernel
theorem d_X_debt_7 : decode b_X_debt 7 = .ok (.new 45, 3) := by decide +kernel
theorem d_X_debt_10 : decode b_X_debt 10 = .ok (.dup, 1) := by decide +kernel
theorem d_X_debt_11 : decode b_X_debt 11 = .ok (.ldc 68, 2) := by decide +kernel
theorem d_X_debt_13 : decode b_X_debt 13 = .ok (.invokespecial 49, 3) := by decide +kernel
theorem d_X_debt_16 : decode b_X_debt 16 = .ok (.athrow, 1) := by decide +kernel
theorem d_X_debt_17 : decode b_X_debt 17 = .ok (.iload_n 3, 1) := by decide +kernel
theorem d_X_debt_18 : decode b_X_debt 18 = .ok (.invokestatic 70, 3) := by decide +kernel
theorem d_X_debt_21 : decode b_X_debt 21 = .ok (.ifCond .ne 13, 3) := by decide +kernel
theorem d_X_debt_24 : decode b_X_debt 24 = .ok (.new 45, 3) := by decide +kernel
theorem d_X_debt_27 : decode b_X_debt 27 = .ok (.dup, 1) := by decide +kernel
theorem d_X_debt_28 : decode b_X_debt 28 = .ok (.ldc 74, 2) := by decide +kernel
theorem d_X_debt_30 : decode b_X_debt 30 = .ok (.invokespecial 49, 3) := by decide +kernel
theorem d_X_debt_33 : decode b_X_debt 33 = .ok (.athrow, 1) := by decide +kernel
theorem d_X_debt_34 : decode b_X_debt 34 = .ok (.aload_n 0, 1) := by decide +kernel
theorem d_X_debt_35 : decode b_X_debt 35 = .ok (.getfield 26, 3) := by decide +kernel
theorem d_X_debt_38 : decode b_X_debt 38 = .ok (.bipush 40, 2) := by decide +kernel
theorem d_X_debt_40 : decode b_X_debt 40 = .ok (.if_icmp .lt 13, 3) := by decide +kernel
theorem d_X_debt_43 : decode b_X_debt 43 = .ok (.new 55, 3) := by decide +kernel
theorem d_X_debt_46 : decode b_X_debt 46 = .ok (.dup, 1) := by decide +kernel
theorem d_X_debt_47 : decode b_X_debt 47 = .ok (.ldc 76, 2) := by decide +kernel
theorem d_X_debt_49 : decode b_X_debt 49 = .ok (.invokespecial 59, 3) := by decide +kernel
theorem d_X_debt_52 : decode b_X_debt 52 = .ok (.athrow, 1) := by decide +kernel
theorem d_X_debt_53 : decode b_X_debt 53 = .ok (.new 16, 3) := by decide +kernel
theorem d_X_debt_56 : decode b_X_debt 56 = .ok (.dup, 1) := by decide +kernel
theorem d_X_debt_57 : decode b_X_debt 57 = .ok (.lload_n 1, 1) := by decide +kernel
theorem d_X_debt_58 : decode b_X_debt 58 = .ok (.aload_n 0, 1) := by decide +kernel
theorem d_X_debt_59 : decode b_X_debt 59 = .ok (.getfield 30, 3) := by decide +kernel
theorem d_X_debt_62 : decode b_X_debt 62 = .ok (.invokespecial 78, 3) := by decide +kernel
theorem d_X_debt_65 : decode b_X_debt 65 = .ok (.astore 4, 2) := by decide +kernel
theorem d_X_debt_67 : decode b_X_debt 67 = .ok (.aload 4, 2) := by decide +kernel
theorem d_X_debt_69 : decode b_X_debt 69 = .ok (.iload_n 3, 1) := by decide +kernel
theorem d_X_debt_70 : decode b_X_debt 70 = .ok (.invokevirtual 81, 3) := by decide +kernel
theorem d_X_debt_73 : decode b_X_debt 73 = .ok (.pop, 1) := by decide +kernel
theorem d_X_debt_74 : decode b_X_debt 74 = .ok (.aload_n 0, 1) := by decide +kernel
theorem d_X_debt_75 : decode b_X_debt 75 = .ok (.getfield 18, 3) := by decide +kernel
theorem d_X_debt_78 : decode b_X_debt 78 = .ok (.aload_n 0, 1) := by decide +kernel
theorem d_X_debt_79 : decode b_X_debt 79 = .ok (.getfield 26, 3) := by decide +kernel
theorem d_X_debt_82 : decode b_X_debt 82 = .ok (.aload 4, 2) := by decide +kernel
theorem d_X_debt_84 : decode b_X_debt 84 = .ok (.aastore, 1) := by decide +kernel
theorem d_X_debt_85 : decode b_X_debt 85 = .ok (.aload_n 0, 1) := by decide +kernel
theorem d_X_debt_86 : decode b_X_debt 86 = .ok (.dup, 1) := by decide +kernel
theorem d_X_debt_87 : decode b_X_debt 87 = .ok (.getfield 26, 3) := by decide +kernel
theorem d_X_debt_90 : decode b_X_debt 90 = .ok (.iconst 1, 1) := by decide +kernel
theorem d_X_debt_91 : decode b_X_debt 91 = .ok (.iadd, 1) := by decide +kernel
theorem d_X_debt_92 : decode b_X_debt 92 = .ok (.putfield 26, 3) := by decide +kernel
theorem d_X_debt_95 : decode b_X_debt 95 = .ok (.aload_n 0, 1) := by decide +kernel
theorem d_X_debt_96 : decode b_X_debt 96 = .ok (.getfield 26, 3) := by decide +kernel
theorem d_X_debt_99 : decode b_X_debt 99 = .ok (.ireturn, 1) := by decide +kernel
abbrev b_X_debtor : ByteArray := prog_1_method_4_code
def y_X_debtor : MethodName := ⟨R_X, "debtor", "(II)Z"⟩
def w_X_debtor : List Cond := .code y_X_debtor b_X_debtor 4 (some .boolean) :: BIG
theorem d_X_debtor_0 : decode b_X_debtor 0 = .ok (.aload_n 0, 1) := by decide +kernel
theorem d_X_debtor_1 : decode b_X_debtor 1 = .ok (.iload_n 1, 1) := by decide +kernel
theorem d_X_debtor_2 : decode b_X_debtor 2 = .ok (.invokevirtual 84, 3) := by decide +kernel
theorem d_X_debtor_5 : decode b_X_debtor 5 = .ok (.astore_n 3, 1) := by decide +kernel
theorem d_X_debtor_6 : decode b_X_debtor 6 = .ok (.aload_n 3, 1) := by decide +kernel
theorem d_X_debtor_7 : decode b_X_debtor 7 = .ok (.ifnull 10, 3) := by decide +kernel
theorem d_X_debtor_10 : decode b_X_debtor 10 = .ok (.iload_n 2, 1) := by decide +kernel
theorem d_X_debtor_11 : decode b_X_debtor 11 = .ok (.invokestatic 70, 3) := by decide +kernel
theorem d_X_debtor_14 : decode b_X_debtor 14 = .ok (.ifCond .ne 5, 3) := by decide +kernel
theorem d_X_debtor_17 : decode b_X_debtor 17 = .ok (.iconst 0, 1) := by decide +kernel
theorem d_X_debtor_18 : decode b_X_debtor 18 = .ok (.ireturn, 1) := by decide +kernel
theorem d_X_debtor_19 : decode b_X_debtor 19 = .ok (.aload_n 3, 1) := by decide +kernel
theorem d_X_debtor_20 : decode b_X_debtor 20 = .ok (.getfield 88, 3) := by decide +kernel
theorem d_X_debtor_23 : decode b_X_debtor 23 = .ok (.ifCond .ne 15, 3) := by decide +kernel
theorem d_X_debtor_26 : decode b_X_debtor 26 = .ok (.aload_n 3, 1) := by decide +kernel
theorem d_X_debtor_27 : decode b_X_debtor 27 = .ok (.iload_n 2, 1) := by decide +kernel
theorem d_X_debtor_28 : decode b_X_debtor 28 = .ok (.invokevirtual 81, 3) := by decide +kernel
theorem d_X_debtor_31 : decode b_X_debtor 31 = .ok (.ifCond .eq 7, 3) := by decide +kernel
theorem d_X_debtor_34 : decode b_X_debtor 34 = .ok (.iconst 1, 1) := by decide +kernel
theorem d_X_debtor_35 : decode b_X_debtor 35 = .ok (.goto 4, 3) := by decide +kernel
theorem d_X_debtor_38 : decode b_X_debtor 38 = .ok (.iconst 0, 1) := by decide +kernel
theorem d_X_debtor_39 : decode b_X_debtor 39 = .ok (.ireturn, 1) := by decide +kernel
abbrev b_X_notified : ByteArray := prog_1_method_5_code
def y_X_notified : MethodName := ⟨R_X, "notified", "(I)I"⟩
def w_X_notified : List Cond := .code y_X_notified b_X_notified 3 (some .int) :: BIG
theorem d_X_notified_0 : decode b_X_notified 0 = .ok (.aload_n 0, 1) := by decide +kernel
theorem d_X_notified_1 : decode b_X_notified 1 = .ok (.iload_n 1, 1) := by decide +kernel
theorem d_X_notified_2 : decode b_X_notified 2 = .ok (.invokevirtual 91, 3) := by decide +kernel
theorem d_X_notified_5 : decode b_X_notified 5 = .ok (.astore_n 2, 1) := by decide +kernel
theorem d_X_notified_6 : decode b_X_notified 6 = .ok (.aload_n 2, 1) := by decide +kernel
theorem d_X_notified_7 : decode b_X_notified 7 = .ok (.getfield 88, 3) := by decide +kernel
theorem d_X_notified_10 : decode b_X_notified 10 = .ok (.ifCond .ne 14, 3) := by decide +kernel
theorem d_X_notified_13 : decode b_X_notified 13 = .ok (.aload_n 2, 1) := by decide +kernel
theorem d_X_notified_14 : decode b_X_notified 14 = .ok (.aload_n 0, 1) := by decide +kernel
theorem d_X_notified_15 : decode b_X_notified 15 = .ok (.getfield 30, 3) := by decide +kernel
theorem d_X_notified_18 : decode b_X_notified 18 = .ok (.invokevirtual 94, 3) := by decide +kernel
theorem d_X_notified_21 : decode b_X_notified 21 = .ok (.ifCond .eq 5, 3) := by decide +kernel
theorem d_X_notified_24 : decode b_X_notified 24 = .ok (.iconst 0, 1) := by decide +kernel
theorem d_X_notified_25 : decode b_X_notified 25 = .ok (.ireturn, 1) := by decide +kernel
theorem d_X_notified_26 : decode b_X_notified 26 = .ok (.aload_n 2, 1) := by decide +kernel
theorem d_X_notified_27 : decode b_X_notified 27 = .ok (.aload_n 0, 1) := by decide +kernel
theorem d_X_notified_28 : decode b_X_notified 28 = .ok (.getfield 30, 3) := by decide +kernel
theorem d_X_notified_31 : decode b_X_notified 31 = .ok (.bipush 10, 2) := by decide +kernel
theorem d_X_notified_33 : decode b_X_notified 33 = .ok (.iadd, 1) := by decide +kernel
theorem d_X_notified_34 : decode b_X_notified 34 = .ok (.putfield 97, 3) := by decide +kernel
theorem d_X_notified_37 : decode b_X_notified 37 = .ok (.aload_n 2, 1) := by decide +kernel
theorem d_X_notified_38 : decode b_X_notified 38 = .ok (.aload_n 0, 1) := by decide +kernel
theorem d_X_notified_39 : decode b_X_notified 39 = .ok (.getfield 30, 3) := by decide +kernel
theorem d_X_notified_42 : decode b_X_notified 42 = .ok (.invokevirtual 100, 3) := by decide +kernel
theorem d_X_notified_45 : decode b_X_notified 45 = .ok (.aload_n 2, 1) := by decide +kernel
theorem d_X_notified_46 : decode b_X_notified 46 = .ok (.getfield 97, 3) := by decide +kernel
theorem d_X_notified_49 : decode b_X_notified 49 = .ok (.ireturn, 1) := by decide +kernel
abbrev b_X_pay : ByteArray := prog_1_method_6_code
def y_X_pay : MethodName := ⟨R_X, "pay", "(IJ)I"⟩
def w_X_pay : List Cond := .code y_X_pay b_X_pay 9 (some .int) :: BIG
theorem d_X_pay_0 : decode b_X_pay 0 = .ok (.iload_n 1, 1) := by decide +kernel
theorem d_X_pay_1 : decode b_X_pay 1 = .ok (.invokestatic 70, 3) := by decide +kernel
theorem d_X_pay_4 : decode b_X_pay 4 = .ok (.ifCond .ne 13, 3) := by decide +kernel
theorem d_X_pay_7 : decode b_X_pay 7 = .ok (.new 45, 3) := by decide +kernel
theorem d_X_pay_10 : decode b_X_pay 10 = .ok (.dup, 1) := by decide +kernel
theorem d_X_pay_11 : decode b_X_pay 11 = .ok (.ldc 74, 2) := by decide +kernel
theorem d_X_pay_13 : decode b_X_pay 13 = .ok (.invokespecial 49, 3) := by decide +kernel
theorem d_X_pay_16 : decode b_X_pay 16 = .ok (.athrow, 1) := by decide +kernel
theorem d_X_pay_17 : decode b_X_pay 17 = .ok (.lload_n 2, 1) := by decide +kernel
theorem d_X_pay_18 : decode b_X_pay 18 = .ok (.invokestatic 64, 3) := by decide +kernel
theorem d_X_pay_21 : decode b_X_pay 21 = .ok (.ifCond .ne 13, 3) := by decide +kernel
theorem d_X_pay_24 : decode b_X_pay 24 = .ok (.new 45, 3) := by decide +kernel
theorem d_X_pay_27 : decode b_X_pay 27 = .ok (.dup, 1) := by decide +kernel
theorem d_X_pay_28 : decode b_X_pay 28 = .ok (.ldc 68, 2) := by decide +kernel
theorem d_X_pay_30 : decode b_X_pay 30 = .ok (.invokespecial 49, 3) := by decide +kernel
theorem d_X_pay_33 : decode b_X_pay 33 = .ok (.athrow, 1) := by decide +kernel
theorem d_X_pay_34 : decode b_X_pay 34 = .ok (.lload_n 2, 1) := by decide +kernel
theorem d_X_pay_35 : decode b_X_pay 35 = .ok (.lstore 4, 2) := by decide +kernel
theorem d_X_pay_37 : decode b_X_pay 37 = .ok (.iconst 0, 1) := by decide +kernel
theorem d_X_pay_38 : decode b_X_pay 38 = .ok (.istore 6, 2) := by decide +kernel
theorem d_X_pay_40 : decode b_X_pay 40 = .ok (.iconst 0, 1) := by decide +kernel
theorem d_X_pay_41 : decode b_X_pay 41 = .ok (.istore 7, 2) := by decide +kernel
theorem d_X_pay_43 : decode b_X_pay 43 = .ok (.iload 7, 2) := by decide +kernel
theorem d_X_pay_45 : decode b_X_pay 45 = .ok (.aload_n 0, 1) := by decide +kernel
theorem d_X_pay_46 : decode b_X_pay 46 = .ok (.getfield 26, 3) := by decide +kernel
theorem d_X_pay_49 : decode b_X_pay 49 = .ok (.if_icmp .ge 82, 3) := by decide +kernel
theorem d_X_pay_52 : decode b_X_pay 52 = .ok (.lload 4, 2) := by decide +kernel
theorem d_X_pay_54 : decode b_X_pay 54 = .ok (.lconst 0, 1) := by decide +kernel
theorem d_X_pay_55 : decode b_X_pay 55 = .ok (.lcmp, 1) := by decide +kernel
theorem d_X_pay_56 : decode b_X_pay 56 = .ok (.ifCond .le 75, 3) := by decide +kernel
theorem d_X_pay_59 : decode b_X_pay 59 = .ok (.aload_n 0, 1) := by decide +kernel
theorem d_X_pay_60 : decode b_X_pay 60 = .ok (.getfield 18, 3) := by decide +kernel
theorem d_X_pay_63 : decode b_X_pay 63 = .ok (.iload 7, 2) := by decide +kernel
theorem d_X_pay_65 : decode b_X_pay 65 = .ok (.aaload, 1) := by decide +kernel
theorem d_X_pay_66 : decode b_X_pay 66 = .ok (.astore 8, 2) := by decide +kernel
theorem d_X_pay_68 : decode b_X_pay 68 = .ok (.aload 8, 2) := by decide +kernel
theorem d_X_pay_70 : decode b_X_pay 70 = .ok (.ifnull 55, 3) := by decide +kernel
theorem d_X_pay_73 : decode b_X_pay 73 = .ok (.aload 8, 2) := by decide +kernel
theorem d_X_pay_75 : decode b_X_pay 75 = .ok (.invokevirtual 104, 3) := by decide +kernel
theorem d_X_pay_78 : decode b_X_pay 78 = .ok (.ifCond .eq 47, 3) := by decide +kernel
theorem d_X_pay_81 : decode b_X_pay 81 = .ok (.aload 8, 2) := by decide +kernel
theorem d_X_pay_83 : decode b_X_pay 83 = .ok (.iload_n 1, 1) := by decide +kernel
theorem d_X_pay_84 : decode b_X_pay 84 = .ok (.invokevirtual 108, 3) := by decide +kernel
theorem d_X_pay_87 : decode b_X_pay 87 = .ok (.iconst (-1), 1) := by decide +kernel
theorem d_X_pay_88 : decode b_X_pay 88 = .ok (.if_icmp .eq 37, 3) := by decide +kernel
theorem d_X_pay_91 : decode b_X_pay 91 = .ok (.aload 8, 2) := by decide +kernel
theorem d_X_pay_93 : decode b_X_pay 93 = .ok (.aload_n 0, 1) := by decide +kernel
theorem d_X_pay_94 : decode b_X_pay 94 = .ok (.getfield 10, 3) := by decide +kernel
theorem d_X_pay_97 : decode b_X_pay 97 = .ok (.aload_n 0, 1) := by decide +kernel
theorem d_X_pay_98 : decode b_X_pay 98 = .ok (.getfield 30, 3) := by decide +kernel
theorem d_X_pay_101 : decode b_X_pay 101 = .ok (.invokevirtual 112, 3) := by decide +kernel
theorem d_X_pay_104 : decode b_X_pay 104 = .ok (.lload 4, 2) := by decide +kernel
theorem d_X_pay_106 : decode b_X_pay 106 = .ok (.aload 8, 2) := by decide +kernel
theorem d_X_pay_108 : decode b_X_pay 108 = .ok (.aload 8, 2) := by decide +kernel
theorem d_X_pay_110 : decode b_X_pay 110 = .ok (.iload_n 1, 1) := by decide +kernel
theorem d_X_pay_111 : decode b_X_pay 111 = .ok (.invokevirtual 108, 3) := by decide +kernel
theorem d_X_pay_114 : decode b_X_pay 114 = .ok (.lload 4, 2) := by decide +kernel
theorem d_X_pay_116 : decode b_X_pay 116 = .ok (.invokevirtual 116, 3) := by decide +kernel
theorem d_X_pay_119 : decode b_X_pay 119 = .ok (.lsub, 1) := by decide +kernel
theorem d_X_pay_120 : decode b_X_pay 120 = .ok (.lstore 4, 2) := by decide +kernel
theorem d_X_pay_122 : decode b_X_pay 122 = .ok (.iinc 6 1, 3) := by decide +kernel
theorem d_X_pay_125 : decode b_X_pay 125 = .ok (.iinc 7 1, 3) := by decide +kernel
theorem d_X_pay_128 : decode b_X_pay 128 = .ok (.goto (-85), 3) := by decide +kernel
theorem d_X_pay_131 : decode b_X_pay 131 = .ok (.aload_n 0, 1) := by decide +kernel
theorem d_X_pay_132 : decode b_X_pay 132 = .ok (.getfield 22, 3) := by decide +kernel
theorem d_X_pay_135 : decode b_X_pay 135 = .ok (.iload_n 1, 1) := by decide +kernel
theorem d_X_pay_136 : decode b_X_pay 136 = .ok (.dup2, 1) := by decide +kernel
theorem d_X_pay_137 : decode b_X_pay 137 = .ok (.laload, 1) := by decide +kernel
theorem d_X_pay_138 : decode b_X_pay 138 = .ok (.lload 4, 2) := by decide +kernel
theorem d_X_pay_140 : decode b_X_pay 140 = .ok (.ladd, 1) := by decide +kernel
theorem d_X_pay_141 : decode b_X_pay 141 = .ok (.lastore, 1) := by decide +kernel
theorem d_X_pay_142 : decode b_X_pay 142 = .ok (.iload 6, 2) := by decide +kernel
theorem d_X_pay_144 : decode b_X_pay 144 = .ok (.ireturn, 1) := by decide +kernel
abbrev b_X_instalments : ByteArray := prog_1_method_7_code
def y_X_instalments : MethodName := ⟨R_X, "instalments", "(II)I"⟩
def w_X_instalments : List Cond := .code y_X_instalments b_X_instalments 4 (some .int) :: BIG
theorem d_X_instalments_0 : decode b_X_instalments 0 = .ok (.aload_n 0, 1) := by decide +kernel
theorem d_X_instalments_1 : decode b_X_instalments 1 = .ok (.iload_n 1, 1) := by decide +kernel
theorem d_X_instalments_2 : decode b_X_instalments 2 = .ok (.invokevirtual 91, 3) := by decide +kernel
theorem d_X_instalments_5 : decode b_X_instalments 5 = .ok (.astore_n 3, 1) := by decide +kernel
theorem d_X_instalments_6 : decode b_X_instalments 6 = .ok (.iload_n 2, 1) := by decide +kernel
theorem d_X_instalments_7 : decode b_X_instalments 7 = .ok (.iconst 2, 1) := by decide +kernel
theorem d_X_instalments_8 : decode b_X_instalments 8 = .ok (.if_icmp .lt 9, 3) := by decide +kernel
theorem d_X_instalments_11 : decode b_X_instalments 11 = .ok (.iload_n 2, 1) := by decide +kernel
theorem d_X_instalments_12 : decode b_X_instalments 12 = .ok (.bipush 12, 2) := by decide +kernel
theorem d_X_instalments_14 : decode b_X_instalments 14 = .ok (.if_icmp .le 13, 3) := by decide +kernel
theorem d_X_instalments_17 : decode b_X_instalments 17 = .ok (.new 45, 3) := by decide +kernel
theorem d_X_instalments_20 : decode b_X_instalments 20 = .ok (.dup, 1) := by decide +kernel
theorem d_X_instalments_21 : decode b_X_instalments 21 = .ok (.ldc 120, 2) := by decide +kernel
theorem d_X_instalments_23 : decode b_X_instalments 23 = .ok (.invokespecial 49, 3) := by decide +kernel
theorem d_X_instalments_26 : decode b_X_instalments 26 = .ok (.athrow, 1) := by decide +kernel
theorem d_X_instalments_27 : decode b_X_instalments 27 = .ok (.aload_n 3, 1) := by decide +kernel
theorem d_X_instalments_28 : decode b_X_instalments 28 = .ok (.getfield 88, 3) := by decide +kernel
theorem d_X_instalments_31 : decode b_X_instalments 31 = .ok (.iconst 1, 1) := by decide +kernel
theorem d_X_instalments_32 : decode b_X_instalments 32 = .ok (.if_icmp .eq 5, 3) := by decide +kernel
theorem d_X_instalments_35 : decode b_X_instalments 35 = .ok (.iconst 0, 1) := by decide +kernel
theorem d_X_instalments_36 : decode b_X_instalments 36 = .ok (.ireturn, 1) := by decide +kernel
theorem d_X_instalments_37 : decode b_X_instalments 37 = .ok (.aload_n 3, 1) := by decide +kernel
theorem d_X_instalments_38 : decode b_X_instalments 38 = .ok (.aload_n 0, 1) := by decide +kernel
theorem d_X_instalments_39 : decode b_X_instalments 39 = .ok (.getfield 10, 3) := by decide +kernel
theorem d_X_instalments_42 : decode b_X_instalments 42 = .ok (.aload_n 0, 1) := by decide +kernel
theorem d_X_instalments_43 : decode b_X_instalments 43 = .ok (.getfield 30, 3) := by decide +kernel
theorem d_X_instalments_46 : decode b_X_instalments 46 = .ok (.invokevirtual 112, 3) := by decide +kernel
theorem d_X_instalments_49 : decode b_X_instalments 49 = .ok (.aload_n 3, 1) := by decide +kernel
theorem d_X_instalments_50 : decode b_X_instalments 50 = .ok (.aload_n 0, 1) := by decide +kernel
theorem d_X_instalments_51 : decode b_X_instalments 51 = .ok (.getfield 30, 3) := by decide +kernel
theorem d_X_instalments_54 : decode b_X_instalments 54 = .ok (.iload_n 2, 1) := by decide +kernel
theorem d_X_instalments_55 : decode b_X_instalments 55 = .ok (.invokevirtual 122, 3) := by decide +kernel
theorem d_X_instalments_58 : decode b_X_instalments 58 = .ok (.iconst 1, 1) := by decide +kernel
theorem d_X_instalments_59 : decode b_X_instalments 59 = .ok (.ireturn, 1) := by decide +kernel
abbrev b_X_appeal : ByteArray := prog_1_method_8_code
def y_X_appeal : MethodName := ⟨R_X, "appeal", "(I)I"⟩
def w_X_appeal : List Cond := .code y_X_appeal b_X_appeal 3 (some .int) :: BIG
theorem d_X_appeal_0 : decode b_X_appeal 0 = .ok (.aload_n 0, 1) := by decide +kernel
theorem d_X_appeal_1 : decode b_X_appeal 1 = .ok (.iload_n 1, 1) := by decide +kernel
theorem d_X_appeal_2 : decode b_X_appeal 2 = .ok (.invokevirtual 91, 3) := by decide +kernel
theorem d_X_appeal_5 : decode b_X_appeal 5 = .ok (.astore_n 2, 1) := by decide +kernel
theorem d_X_appeal_6 : decode b_X_appeal 6 = .ok (.aload_n 2, 1) := by decide +kernel
theorem d_X_appeal_7 : decode b_X_appeal 7 = .ok (.invokevirtual 104, 3) := by decide +kernel
theorem d_X_appeal_10 : decode b_X_appeal 10 = .ok (.ifCond .ne 5, 3) := by decide +kernel
theorem d_X_appeal_13 : decode b_X_appeal 13 = .ok (.iconst 0, 1) := by decide +kernel
theorem d_X_appeal_14 : decode b_X_appeal 14 = .ok (.ireturn, 1) := by decide +kernel
theorem d_X_appeal_15 : decode b_X_appeal 15 = .ok (.aload_n 2, 1) := by decide +kernel
theorem d_X_appeal_16 : decode b_X_appeal 16 = .ok (.aload_n 0, 1) := by decide +kernel
theorem d_X_appeal_17 : decode b_X_appeal 17 = .ok (.getfield 10, 3) := by decide +kernel
theorem d_X_appeal_20 : decode b_X_appeal 20 = .ok (.aload_n 0, 1) := by decide +kernel
theorem d_X_appeal_21 : decode b_X_appeal 21 = .ok (.getfield 30, 3) := by decide +kernel
theorem d_X_appeal_24 : decode b_X_appeal 24 = .ok (.invokevirtual 112, 3) := by decide +kernel
theorem d_X_appeal_27 : decode b_X_appeal 27 = .ok (.aload_n 2, 1) := by decide +kernel
theorem d_X_appeal_28 : decode b_X_appeal 28 = .ok (.iconst 3, 1) := by decide +kernel
theorem d_X_appeal_29 : decode b_X_appeal 29 = .ok (.putfield 88, 3) := by decide +kernel
theorem d_X_appeal_32 : decode b_X_appeal 32 = .ok (.iconst 1, 1) := by decide +kernel
theorem d_X_appeal_33 : decode b_X_appeal 33 = .ok (.ireturn, 1) := by decide +kernel
abbrev b_X_decide : ByteArray := prog_1_method_9_code
def y_X_decide : MethodName := ⟨R_X, "decide", "(IZ)J"⟩
def w_X_decide : List Cond := .code y_X_decide b_X_decide 4 (some .long) :: BIG
theorem d_X_decide_0 : decode b_X_decide 0 = .ok (.aload_n 0, 1) := by decide +kernel
theorem d_X_decide_1 : decode b_X_decide 1 = .ok (.iload_n 1, 1) := by decide +kernel
theorem d_X_decide_2 : decode b_X_decide 2 = .ok (.invokevirtual 91, 3) := by decide +kernel
theorem d_X_decide_5 : decode b_X_decide 5 = .ok (.astore_n 3, 1) := by decide +kernel
theorem d_X_decide_6 : decode b_X_decide 6 = .ok (.aload_n 3, 1) := by decide +kernel
theorem d_X_decide_7 : decode b_X_decide 7 = .ok (.getfield 88, 3) := by decide +kernel
theorem d_X_decide_10 : decode b_X_decide 10 = .ok (.iconst 3, 1) := by decide +kernel
theorem d_X_decide_11 : decode b_X_decide 11 = .ok (.if_icmp .eq 7, 3) := by decide +kernel
theorem d_X_decide_14 : decode b_X_decide 14 = .ok (.ldc2_w 126, 3) := by decide +kernel
theorem d_X_decide_17 : decode b_X_decide 17 = .ok (.lreturn, 1) := by decide +kernel
theorem d_X_decide_18 : decode b_X_decide 18 = .ok (.iload_n 2, 1) := by decide +kernel
theorem d_X_decide_19 : decode b_X_decide 19 = .ok (.ifCond .ne 13, 3) := by decide +kernel
theorem d_X_decide_22 : decode b_X_decide 22 = .ok (.aload_n 3, 1) := by decide +kernel
theorem d_X_decide_23 : decode b_X_decide 23 = .ok (.aload_n 0, 1) := by decide +kernel
theorem d_X_decide_24 : decode b_X_decide 24 = .ok (.getfield 30, 3) := by decide +kernel
theorem d_X_decide_27 : decode b_X_decide 27 = .ok (.invokevirtual 100, 3) := by decide +kernel
theorem d_X_decide_30 : decode b_X_decide 30 = .ok (.lconst 0, 1) := by decide +kernel
theorem d_X_decide_31 : decode b_X_decide 31 = .ok (.lreturn, 1) := by decide +kernel
theorem d_X_decide_32 : decode b_X_decide 32 = .ok (.aload_n 3, 1) := by decide +kernel
theorem d_X_decide_33 : decode b_X_decide 33 = .ok (.iconst 5, 1) := by decide +kernel
theorem d_X_decide_34 : decode b_X_decide 34 = .ok (.invokevirtual 128, 3) := by decide +kernel
theorem d_X_decide_37 : decode b_X_decide 37 = .ok (.aload_n 3, 1) := by decide +kernel
theorem d_X_decide_38 : decode b_X_decide 38 = .ok (.getfield 131, 3) := by decide +kernel
theorem d_X_decide_41 : decode b_X_decide 41 = .ok (.lreturn, 1) := by decide +kernel
abbrev b_X_tick : ByteArray := prog_1_method_10_code
def y_X_tick : MethodName := ⟨R_X, "tick", "(I)I"⟩
def w_X_tick : List Cond := .code y_X_tick b_X_tick 5 (some .int) :: BIG
theorem d_X_tick_0 : decode b_X_tick 0 = .ok (.iload_n 1, 1) := by decide +kernel
theorem d_X_tick_1 : decode b_X_tick 1 = .ok (.aload_n 0, 1) := by decide +kernel
theorem d_X_tick_2 : decode b_X_tick 2 = .ok (.getfield 30, 3) := by decide +kernel
theorem d_X_tick_5 : decode b_X_tick 5 = .ok (.if_icmp .lt 9, 3) := by decide +kernel
theorem d_X_tick_8 : decode b_X_tick 8 = .ok (.iload_n 1, 1) := by decide +kernel
theorem d_X_tick_9 : decode b_X_tick 9 = .ok (.ldc 44, 2) := by decide +kernel
theorem d_X_tick_11 : decode b_X_tick 11 = .ok (.if_icmp .le 13, 3) := by decide +kernel
theorem d_X_tick_14 : decode b_X_tick 14 = .ok (.new 45, 3) := by decide +kernel
theorem d_X_tick_17 : decode b_X_tick 17 = .ok (.dup, 1) := by decide +kernel
theorem d_X_tick_18 : decode b_X_tick 18 = .ok (.ldc 135, 2) := by decide +kernel
theorem d_X_tick_20 : decode b_X_tick 20 = .ok (.invokespecial 49, 3) := by decide +kernel
theorem d_X_tick_23 : decode b_X_tick 23 = .ok (.athrow, 1) := by decide +kernel
theorem d_X_tick_24 : decode b_X_tick 24 = .ok (.aload_n 0, 1) := by decide +kernel
theorem d_X_tick_25 : decode b_X_tick 25 = .ok (.iload_n 1, 1) := by decide +kernel
theorem d_X_tick_26 : decode b_X_tick 26 = .ok (.putfield 30, 3) := by decide +kernel
theorem d_X_tick_29 : decode b_X_tick 29 = .ok (.iconst 0, 1) := by decide +kernel
theorem d_X_tick_30 : decode b_X_tick 30 = .ok (.istore_n 2, 1) := by decide +kernel
theorem d_X_tick_31 : decode b_X_tick 31 = .ok (.iconst 0, 1) := by decide +kernel
theorem d_X_tick_32 : decode b_X_tick 32 = .ok (.istore_n 3, 1) := by decide +kernel
theorem d_X_tick_33 : decode b_X_tick 33 = .ok (.iload_n 3, 1) := by decide +kernel
theorem d_X_tick_34 : decode b_X_tick 34 = .ok (.aload_n 0, 1) := by decide +kernel
theorem d_X_tick_35 : decode b_X_tick 35 = .ok (.getfield 26, 3) := by decide +kernel
theorem d_X_tick_38 : decode b_X_tick 38 = .ok (.if_icmp .ge 34, 3) := by decide +kernel
theorem d_X_tick_41 : decode b_X_tick 41 = .ok (.aload_n 0, 1) := by decide +kernel
theorem d_X_tick_42 : decode b_X_tick 42 = .ok (.getfield 18, 3) := by decide +kernel
theorem d_X_tick_45 : decode b_X_tick 45 = .ok (.iload_n 3, 1) := by decide +kernel
theorem d_X_tick_46 : decode b_X_tick 46 = .ok (.aaload, 1) := by decide +kernel
theorem d_X_tick_47 : decode b_X_tick 47 = .ok (.astore 4, 2) := by decide +kernel
theorem d_X_tick_49 : decode b_X_tick 49 = .ok (.aload 4, 2) := by decide +kernel
theorem d_X_tick_51 : decode b_X_tick 51 = .ok (.ifnull 15, 3) := by decide +kernel
theorem d_X_tick_54 : decode b_X_tick 54 = .ok (.aload 4, 2) := by decide +kernel
theorem d_X_tick_56 : decode b_X_tick 56 = .ok (.iload_n 1, 1) := by decide +kernel
theorem d_X_tick_57 : decode b_X_tick 57 = .ok (.invokevirtual 137, 3) := by decide +kernel
theorem d_X_tick_60 : decode b_X_tick 60 = .ok (.ifCond .eq 6, 3) := by decide +kernel
theorem d_X_tick_63 : decode b_X_tick 63 = .ok (.iinc 2 1, 3) := by decide +kernel
theorem d_X_tick_66 : decode b_X_tick 66 = .ok (.iinc 3 1, 3) := by decide +kernel
theorem d_X_tick_69 : decode b_X_tick 69 = .ok (.goto (-36), 3) := by decide +kernel
theorem d_X_tick_72 : decode b_X_tick 72 = .ok (.iload_n 2, 1) := by decide +kernel
theorem d_X_tick_73 : decode b_X_tick 73 = .ok (.ireturn, 1) := by decide +kernel
abbrev b_X_due : ByteArray := prog_1_method_11_code
def y_X_due : MethodName := ⟨R_X, "due", "(II)J"⟩
def w_X_due : List Cond := .code y_X_due b_X_due 4 (some .long) :: BIG
theorem d_X_due_0 : decode b_X_due 0 = .ok (.aload_n 0, 1) := by decide +kernel
theorem d_X_due_1 : decode b_X_due 1 = .ok (.iload_n 1, 1) := by decide +kernel
theorem d_X_due_2 : decode b_X_due 2 = .ok (.invokevirtual 91, 3) := by decide +kernel
theorem d_X_due_5 : decode b_X_due 5 = .ok (.astore_n 3, 1) := by decide +kernel
theorem d_X_due_6 : decode b_X_due 6 = .ok (.iload_n 2, 1) := by decide +kernel
theorem d_X_due_7 : decode b_X_due 7 = .ok (.tableswitch 71 0 4 #[33, 38, 56, 61, 66], 33) := by decide +kernel
theorem d_X_due_40 : decode b_X_due 40 = .ok (.aload_n 3, 1) := by decide +kernel
theorem d_X_due_41 : decode b_X_due 41 = .ok (.getfield 140, 3) := by decide +kernel
theorem d_X_due_44 : decode b_X_due 44 = .ok (.lreturn, 1) := by decide +kernel
theorem d_X_due_45 : decode b_X_due 45 = .ok (.aload_n 3, 1) := by decide +kernel
theorem d_X_due_46 : decode b_X_due 46 = .ok (.getfield 143, 3) := by decide +kernel
theorem d_X_due_49 : decode b_X_due 49 = .ok (.aload_n 3, 1) := by decide +kernel
theorem d_X_due_50 : decode b_X_due 50 = .ok (.aload_n 0, 1) := by decide +kernel
theorem d_X_due_51 : decode b_X_due 51 = .ok (.getfield 10, 3) := by decide +kernel
theorem d_X_due_54 : decode b_X_due 54 = .ok (.aload_n 0, 1) := by decide +kernel
theorem d_X_due_55 : decode b_X_due 55 = .ok (.getfield 30, 3) := by decide +kernel
theorem d_X_due_58 : decode b_X_due 58 = .ok (.invokevirtual 146, 3) := by decide +kernel
theorem d_X_due_61 : decode b_X_due 61 = .ok (.ladd, 1) := by decide +kernel
theorem d_X_due_62 : decode b_X_due 62 = .ok (.lreturn, 1) := by decide +kernel
theorem d_X_due_63 : decode b_X_due 63 = .ok (.aload_n 3, 1) := by decide +kernel
theorem d_X_due_64 : decode b_X_due 64 = .ok (.getfield 150, 3) := by decide +kernel
theorem d_X_due_67 : decode b_X_due 67 = .ok (.lreturn, 1) := by decide +kernel
theorem d_X_due_68 : decode b_X_due 68 = .ok (.aload_n 3, 1) := by decide +kernel
theorem d_X_due_69 : decode b_X_due 69 = .ok (.getfield 131, 3) := by decide +kernel
theorem d_X_due_72 : decode b_X_due 72 = .ok (.lreturn, 1) := by decide +kernel
theorem d_X_due_73 : decode b_X_due 73 = .ok (.aload_n 3, 1) := by decide +kernel
theorem d_X_due_74 : decode b_X_due 74 = .ok (.getfield 153, 3) := by decide +kernel
theorem d_X_due_77 : decode b_X_due 77 = .ok (.lreturn, 1) := by decide +kernel
theorem d_X_due_78 : decode b_X_due 78 = .ok (.new 45, 3) := by decide +kernel
theorem d_X_due_81 : decode b_X_due 81 = .ok (.dup, 1) := by decide +kernel
theorem d_X_due_82 : decode b_X_due 82 = .ok (.ldc 156, 2) := by decide +kernel
theorem d_X_due_84 : decode b_X_due 84 = .ok (.invokespecial 49, 3) := by decide +kernel
theorem d_X_due_87 : decode b_X_due 87 = .ok (.athrow, 1) := by decide +kernel
abbrev b_X_recourse : ByteArray := prog_1_method_12_code
def y_X_recourse : MethodName := ⟨R_X, "recourse", "(III)J"⟩
def w_X_recourse : List Cond := .code y_X_recourse b_X_recourse 6 (some .long) :: BIG
theorem d_X_recourse_0 : decode b_X_recourse 0 = .ok (.aload_n 0, 1) := by decide +kernel
theorem d_X_recourse_1 : decode b_X_recourse 1 = .ok (.iload_n 1, 1) := by decide +kernel
theorem d_X_recourse_2 : decode b_X_recourse 2 = .ok (.invokevirtual 91, 3) := by decide +kernel
theorem d_X_recourse_5 : decode b_X_recourse 5 = .ok (.astore 4, 2) := by decide +kernel
theorem d_X_recourse_7 : decode b_X_recourse 7 = .ok (.aload 4, 2) := by decide +kernel
theorem d_X_recourse_9 : decode b_X_recourse 9 = .ok (.iload_n 2, 1) := by decide +kernel
theorem d_X_recourse_10 : decode b_X_recourse 10 = .ok (.invokevirtual 108, 3) := by decide +kernel
theorem d_X_recourse_13 : decode b_X_recourse 13 = .ok (.istore 5, 2) := by decide +kernel
theorem d_X_recourse_15 : decode b_X_recourse 15 = .ok (.iload 5, 2) := by decide +kernel
theorem d_X_recourse_17 : decode b_X_recourse 17 = .ok (.iconst (-1), 1) := by decide +kernel
theorem d_X_recourse_18 : decode b_X_recourse 18 = .ok (.if_icmp .ne 13, 3) := by decide +kernel
theorem d_X_recourse_21 : decode b_X_recourse 21 = .ok (.new 45, 3) := by decide +kernel
theorem d_X_recourse_24 : decode b_X_recourse 24 = .ok (.dup, 1) := by decide +kernel
theorem d_X_recourse_25 : decode b_X_recourse 25 = .ok (.ldc 158, 2) := by decide +kernel
theorem d_X_recourse_27 : decode b_X_recourse 27 = .ok (.invokespecial 49, 3) := by decide +kernel
theorem d_X_recourse_30 : decode b_X_recourse 30 = .ok (.athrow, 1) := by decide +kernel
theorem d_X_recourse_31 : decode b_X_recourse 31 = .ok (.iload_n 3, 1) := by decide +kernel
theorem d_X_recourse_32 : decode b_X_recourse 32 = .ok (.tableswitch 64 0 2 #[28, 36, 44], 28) := by decide +kernel
theorem d_X_recourse_60 : decode b_X_recourse 60 = .ok (.aload 4, 2) := by decide +kernel
theorem d_X_recourse_62 : decode b_X_recourse 62 = .ok (.iload 5, 2) := by decide +kernel
theorem d_X_recourse_64 : decode b_X_recourse 64 = .ok (.invokevirtual 160, 3) := by decide +kernel
theorem d_X_recourse_67 : decode b_X_recourse 67 = .ok (.lreturn, 1) := by decide +kernel
theorem d_X_recourse_68 : decode b_X_recourse 68 = .ok (.aload 4, 2) := by decide +kernel
theorem d_X_recourse_70 : decode b_X_recourse 70 = .ok (.iload 5, 2) := by decide +kernel
theorem d_X_recourse_72 : decode b_X_recourse 72 = .ok (.invokevirtual 164, 3) := by decide +kernel
theorem d_X_recourse_75 : decode b_X_recourse 75 = .ok (.lreturn, 1) := by decide +kernel
theorem d_X_recourse_76 : decode b_X_recourse 76 = .ok (.lconst 0, 1) := by decide +kernel
theorem d_X_recourse_77 : decode b_X_recourse 77 = .ok (.aload 4, 2) := by decide +kernel
theorem d_X_recourse_79 : decode b_X_recourse 79 = .ok (.iload 5, 2) := by decide +kernel
theorem d_X_recourse_81 : decode b_X_recourse 81 = .ok (.invokevirtual 160, 3) := by decide +kernel
theorem d_X_recourse_84 : decode b_X_recourse 84 = .ok (.aload 4, 2) := by decide +kernel
theorem d_X_recourse_86 : decode b_X_recourse 86 = .ok (.iload 5, 2) := by decide +kernel
theorem d_X_recourse_88 : decode b_X_recourse 88 = .ok (.invokevirtual 164, 3) := by decide +kernel
theorem d_X_recourse_91 : decode b_X_recourse 91 = .ok (.lsub, 1) := by decide +kernel
theorem d_X_recourse_92 : decode b_X_recourse 92 = .ok (.invokestatic 167, 3) := by decide +kernel
theorem d_X_recourse_95 : decode b_X_recourse 95 = .ok (.lreturn, 1) := by decide +kernel
theorem d_X_recourse_96 : decode b_X_recourse 96 = .ok (.new 45, 3) := by decide +kernel
theorem d_X_recourse_99 : decode b_X_recourse 99 = .ok (.dup, 1) := by decide +kernel
theorem d_X_recourse_100 : decode b_X_recourse 100 = .ok (.ldc 156, 2) := by decide +kernel
theorem d_X_recourse_102 : decode b_X_recourse 102 = .ok (.invokespecial 49, 3) := by decide +kernel
theorem d_X_recourse_105 : decode b_X_recourse 105 = .ok (.athrow, 1) := by decide +kernel
abbrev b_X_look : ByteArray := prog_1_method_13_code
def y_X_look : MethodName := ⟨R_X, "look", "(II)I"⟩
def w_X_look : List Cond := .code y_X_look b_X_look 4 (some .int) :: BIG
theorem d_X_look_0 : decode b_X_look 0 = .ok (.aload_n 0, 1) := by decide +kernel
theorem d_X_look_1 : decode b_X_look 1 = .ok (.iload_n 1, 1) := by decide +kernel
theorem d_X_look_2 : decode b_X_look 2 = .ok (.invokevirtual 84, 3) := by decide +kernel
theorem d_X_look_5 : decode b_X_look 5 = .ok (.astore_n 3, 1) := by decide +kernel
theorem d_X_look_6 : decode b_X_look 6 = .ok (.aload_n 3, 1) := by decide +kernel
theorem d_X_look_7 : decode b_X_look 7 = .ok (.ifnonnull 13, 3) := by decide +kernel
theorem d_X_look_10 : decode b_X_look 10 = .ok (.new 173, 3) := by decide +kernel
theorem d_X_look_13 : decode b_X_look 13 = .ok (.dup, 1) := by decide +kernel
theorem d_X_look_14 : decode b_X_look 14 = .ok (.ldc 175, 2) := by decide +kernel
theorem d_X_look_16 : decode b_X_look 16 = .ok (.invokespecial 177, 3) := by decide +kernel
theorem d_X_look_19 : decode b_X_look 19 = .ok (.athrow, 1) := by decide +kernel
theorem d_X_look_20 : decode b_X_look 20 = .ok (.iload_n 2, 1) := by decide +kernel
theorem d_X_look_21 : decode b_X_look 21 = .ok (.tableswitch 51 0 3 #[31, 36, 41, 46], 31) := by decide +kernel
theorem d_X_look_52 : decode b_X_look 52 = .ok (.aload_n 3, 1) := by decide +kernel
theorem d_X_look_53 : decode b_X_look 53 = .ok (.getfield 88, 3) := by decide +kernel
theorem d_X_look_56 : decode b_X_look 56 = .ok (.ireturn, 1) := by decide +kernel
theorem d_X_look_57 : decode b_X_look 57 = .ok (.aload_n 3, 1) := by decide +kernel
theorem d_X_look_58 : decode b_X_look 58 = .ok (.getfield 178, 3) := by decide +kernel
theorem d_X_look_61 : decode b_X_look 61 = .ok (.ireturn, 1) := by decide +kernel
theorem d_X_look_62 : decode b_X_look 62 = .ok (.aload_n 3, 1) := by decide +kernel
theorem d_X_look_63 : decode b_X_look 63 = .ok (.getfield 97, 3) := by decide +kernel
theorem d_X_look_66 : decode b_X_look 66 = .ok (.ireturn, 1) := by decide +kernel
theorem d_X_look_67 : decode b_X_look 67 = .ok (.aload_n 3, 1) := by decide +kernel
theorem d_X_look_68 : decode b_X_look 68 = .ok (.getfield 181, 3) := by decide +kernel
theorem d_X_look_71 : decode b_X_look 71 = .ok (.ireturn, 1) := by decide +kernel
theorem d_X_look_72 : decode b_X_look 72 = .ok (.iload_n 2, 1) := by decide +kernel
theorem d_X_look_73 : decode b_X_look 73 = .ok (.iconst 4, 1) := by decide +kernel
theorem d_X_look_74 : decode b_X_look 74 = .ok (.if_icmp .lt 13, 3) := by decide +kernel
theorem d_X_look_77 : decode b_X_look 77 = .ok (.iload_n 2, 1) := by decide +kernel
theorem d_X_look_78 : decode b_X_look 78 = .ok (.iconst 4, 1) := by decide +kernel
theorem d_X_look_79 : decode b_X_look 79 = .ok (.aload_n 3, 1) := by decide +kernel
theorem d_X_look_80 : decode b_X_look 80 = .ok (.getfield 181, 3) := by decide +kernel
theorem d_X_look_83 : decode b_X_look 83 = .ok (.iadd, 1) := by decide +kernel
theorem d_X_look_84 : decode b_X_look 84 = .ok (.if_icmp .lt 13, 3) := by decide +kernel
theorem d_X_look_87 : decode b_X_look 87 = .ok (.new 173, 3) := by decide +kernel
theorem d_X_look_90 : decode b_X_look 90 = .ok (.dup, 1) := by decide +kernel
theorem d_X_look_91 : decode b_X_look 91 = .ok (.ldc 184, 2) := by decide +kernel
theorem d_X_look_93 : decode b_X_look 93 = .ok (.invokespecial 177, 3) := by decide +kernel
theorem d_X_look_96 : decode b_X_look 96 = .ok (.athrow, 1) := by decide +kernel
theorem d_X_look_97 : decode b_X_look 97 = .ok (.aload_n 3, 1) := by decide +kernel
theorem d_X_look_98 : decode b_X_look 98 = .ok (.iload_n 2, 1) := by decide +kernel
theorem d_X_look_99 : decode b_X_look 99 = .ok (.iconst 4, 1) := by decide +kernel
theorem d_X_look_100 : decode b_X_look 100 = .ok (.isub, 1) := by decide +kernel
theorem d_X_look_101 : decode b_X_look 101 = .ok (.invokevirtual 186, 3) := by decide +kernel
theorem d_X_look_104 : decode b_X_look 104 = .ok (.ireturn, 1) := by decide +kernel
abbrev b_X_sum : ByteArray := prog_1_method_14_code
def y_X_sum : MethodName := ⟨R_X, "sum", "(I)J"⟩
def w_X_sum : List Cond := .code y_X_sum b_X_sum 2 (some .long) :: BIG
theorem d_X_sum_0 : decode b_X_sum 0 = .ok (.iload_n 1, 1) := by decide +kernel
theorem d_X_sum_1 : decode b_X_sum 1 = .ok (.bipush 20, 2) := by decide +kernel
theorem d_X_sum_3 : decode b_X_sum 3 = .ok (.if_icmp .lt 19, 3) := by decide +kernel
theorem d_X_sum_6 : decode b_X_sum 6 = .ok (.iload_n 1, 1) := by decide +kernel
theorem d_X_sum_7 : decode b_X_sum 7 = .ok (.bipush 36, 2) := by decide +kernel
theorem d_X_sum_9 : decode b_X_sum 9 = .ok (.if_icmp .ge 13, 3) := by decide +kernel
theorem d_X_sum_12 : decode b_X_sum 12 = .ok (.aload_n 0, 1) := by decide +kernel
theorem d_X_sum_13 : decode b_X_sum 13 = .ok (.getfield 22, 3) := by decide +kernel
theorem d_X_sum_16 : decode b_X_sum 16 = .ok (.iload_n 1, 1) := by decide +kernel
theorem d_X_sum_17 : decode b_X_sum 17 = .ok (.bipush 20, 2) := by decide +kernel
theorem d_X_sum_19 : decode b_X_sum 19 = .ok (.isub, 1) := by decide +kernel
theorem d_X_sum_20 : decode b_X_sum 20 = .ok (.laload, 1) := by decide +kernel
theorem d_X_sum_21 : decode b_X_sum 21 = .ok (.lreturn, 1) := by decide +kernel
theorem d_X_sum_22 : decode b_X_sum 22 = .ok (.iload_n 1, 1) := by decide +kernel
theorem d_X_sum_23 : decode b_X_sum 23 = .ok (.tableswitch 72 0 7 #[45, 45, 45, 45, 45, 51, 57, 63], 45) := by decide +kernel
theorem d_X_sum_68 : decode b_X_sum 68 = .ok (.aload_n 0, 1) := by decide +kernel
theorem d_X_sum_69 : decode b_X_sum 69 = .ok (.iload_n 1, 1) := by decide +kernel
theorem d_X_sum_70 : decode b_X_sum 70 = .ok (.invokevirtual 189, 3) := by decide +kernel
theorem d_X_sum_73 : decode b_X_sum 73 = .ok (.lreturn, 1) := by decide +kernel
theorem d_X_sum_74 : decode b_X_sum 74 = .ok (.aload_n 0, 1) := by decide +kernel
theorem d_X_sum_75 : decode b_X_sum 75 = .ok (.getfield 26, 3) := by decide +kernel
theorem d_X_sum_78 : decode b_X_sum 78 = .ok (.i2l, 1) := by decide +kernel
theorem d_X_sum_79 : decode b_X_sum 79 = .ok (.lreturn, 1) := by decide +kernel
theorem d_X_sum_80 : decode b_X_sum 80 = .ok (.aload_n 0, 1) := by decide +kernel
theorem d_X_sum_81 : decode b_X_sum 81 = .ok (.getfield 30, 3) := by decide +kernel
theorem d_X_sum_84 : decode b_X_sum 84 = .ok (.i2l, 1) := by decide +kernel
theorem d_X_sum_85 : decode b_X_sum 85 = .ok (.lreturn, 1) := by decide +kernel
theorem d_X_sum_86 : decode b_X_sum 86 = .ok (.aload_n 0, 1) := by decide +kernel
theorem d_X_sum_87 : decode b_X_sum 87 = .ok (.getfield 10, 3) := by decide +kernel
theorem d_X_sum_90 : decode b_X_sum 90 = .ok (.getfield 52, 3) := by decide +kernel
theorem d_X_sum_93 : decode b_X_sum 93 = .ok (.i2l, 1) := by decide +kernel
theorem d_X_sum_94 : decode b_X_sum 94 = .ok (.lreturn, 1) := by decide +kernel
theorem d_X_sum_95 : decode b_X_sum 95 = .ok (.ldc2_w 126, 3) := by decide +kernel
theorem d_X_sum_98 : decode b_X_sum 98 = .ok (.lreturn, 1) := by decide +kernel
abbrev b_X_overAllDebts : ByteArray := prog_1_method_15_code
def y_X_overAllDebts : MethodName := ⟨R_X, "overAllDebts", "(I)J"⟩
def w_X_overAllDebts : List Cond := .code y_X_overAllDebts b_X_overAllDebts 6 (some .long) :: BIG
theorem d_X_overAllDebts_0 : decode b_X_overAllDebts 0 = .ok (.lconst 0, 1) := by decide +kernel
theorem d_X_overAllDebts_1 : decode b_X_overAllDebts 1 = .ok (.lstore_n 2, 1) := by decide +kernel
theorem d_X_overAllDebts_2 : decode b_X_overAllDebts 2 = .ok (.iconst 0, 1) := by decide +kernel
theorem d_X_overAllDebts_3 : decode b_X_overAllDebts 3 = .ok (.istore 4, 2) := by decide +kernel
theorem d_X_overAllDebts_5 : decode b_X_overAllDebts 5 = .ok (.iload 4, 2) := by decide +kernel
theorem d_X_overAllDebts_7 : decode b_X_overAllDebts 7 = .ok (.aload_n 0, 1) := by decide +kernel
theorem d_X_overAllDebts_8 : decode b_X_overAllDebts 8 = .ok (.getfield 26, 3) := by decide +kernel
theorem d_X_overAllDebts_11 : decode b_X_overAllDebts 11 = .ok (.if_icmp .ge 32, 3) := by decide +kernel
theorem d_X_overAllDebts_14 : decode b_X_overAllDebts 14 = .ok (.aload_n 0, 1) := by decide +kernel
theorem d_X_overAllDebts_15 : decode b_X_overAllDebts 15 = .ok (.getfield 18, 3) := by decide +kernel
theorem d_X_overAllDebts_18 : decode b_X_overAllDebts 18 = .ok (.iload 4, 2) := by decide +kernel
theorem d_X_overAllDebts_20 : decode b_X_overAllDebts 20 = .ok (.aaload, 1) := by decide +kernel
theorem d_X_overAllDebts_21 : decode b_X_overAllDebts 21 = .ok (.astore 5, 2) := by decide +kernel
theorem d_X_overAllDebts_23 : decode b_X_overAllDebts 23 = .ok (.aload 5, 2) := by decide +kernel
theorem d_X_overAllDebts_25 : decode b_X_overAllDebts 25 = .ok (.ifnull 12, 3) := by decide +kernel
theorem d_X_overAllDebts_28 : decode b_X_overAllDebts 28 = .ok (.lload_n 2, 1) := by decide +kernel
theorem d_X_overAllDebts_29 : decode b_X_overAllDebts 29 = .ok (.aload 5, 2) := by decide +kernel
theorem d_X_overAllDebts_31 : decode b_X_overAllDebts 31 = .ok (.iload_n 1, 1) := by decide +kernel
theorem d_X_overAllDebts_32 : decode b_X_overAllDebts 32 = .ok (.invokevirtual 192, 3) := by decide +kernel
theorem d_X_overAllDebts_35 : decode b_X_overAllDebts 35 = .ok (.ladd, 1) := by decide +kernel
theorem d_X_overAllDebts_36 : decode b_X_overAllDebts 36 = .ok (.lstore_n 2, 1) := by decide +kernel
theorem d_X_overAllDebts_37 : decode b_X_overAllDebts 37 = .ok (.iinc 4 1, 3) := by decide +kernel
theorem d_X_overAllDebts_40 : decode b_X_overAllDebts 40 = .ok (.goto (-35), 3) := by decide +kernel
theorem d_X_overAllDebts_43 : decode b_X_overAllDebts 43 = .ok (.lload_n 2, 1) := by decide +kernel
theorem d_X_overAllDebts_44 : decode b_X_overAllDebts 44 = .ok (.lreturn, 1) := by decide +kernel
abbrev b_X_find : ByteArray := prog_1_method_16_code
def y_X_find : MethodName := ⟨R_X, "find", "(I)LDebtRows$Debt;"⟩
def w_X_find : List Cond := .code y_X_find b_X_find 2 (some (.object "DebtRows$Debt")) :: BIG
theorem d_X_find_0 : decode b_X_find 0 = .ok (.iload_n 1, 1) := by decide +kernel
theorem d_X_find_1 : decode b_X_find 1 = .ok (.iconst 1, 1) := by decide +kernel
theorem d_X_find_2 : decode b_X_find 2 = .ok (.if_icmp .lt 11, 3) := by decide +kernel
theorem d_X_find_5 : decode b_X_find 5 = .ok (.iload_n 1, 1) := by decide +kernel
theorem d_X_find_6 : decode b_X_find 6 = .ok (.aload_n 0, 1) := by decide +kernel
theorem d_X_find_7 : decode b_X_find 7 = .ok (.getfield 26, 3) := by decide +kernel
theorem d_X_find_10 : decode b_X_find 10 = .ok (.if_icmp .le 5, 3) := by decide +kernel
theorem d_X_find_13 : decode b_X_find 13 = .ok (.aconst_null, 1) := by decide +kernel
theorem d_X_find_14 : decode b_X_find 14 = .ok (.areturn, 1) := by decide +kernel
theorem d_X_find_15 : decode b_X_find 15 = .ok (.aload_n 0, 1) := by decide +kernel
theorem d_X_find_16 : decode b_X_find 16 = .ok (.getfield 18, 3) := by decide +kernel
theorem d_X_find_19 : decode b_X_find 19 = .ok (.iload_n 1, 1) := by decide +kernel
theorem d_X_find_20 : decode b_X_find 20 = .ok (.iconst 1, 1) := by decide +kernel
theorem d_X_find_21 : decode b_X_find 21 = .ok (.isub, 1) := by decide +kernel
theorem d_X_find_22 : decode b_X_find 22 = .ok (.aaload, 1) := by decide +kernel
theorem d_X_find_23 : decode b_X_find 23 = .ok (.areturn, 1) := by decide +kernel
abbrev b_X_findOrRefuse : ByteArray := prog_1_method_17_code
def y_X_findOrRefuse : MethodName := ⟨R_X, "findOrRefuse", "(I)LDebtRows$Debt;"⟩
def w_X_findOrRefuse : List Cond := .code y_X_findOrRefuse b_X_findOrRefuse 3 (some (.object "DebtRows$Debt")) :: BIG
theorem d_X_findOrRefuse_0 : decode b_X_findOrRefuse 0 = .ok (.aload_n 0, 1) := by decide +kernel
theorem d_X_findOrRefuse_1 : decode b_X_findOrRefuse 1 = .ok (.iload_n 1, 1) := by decide +kernel
theorem d_X_findOrRefuse_2 : decode b_X_findOrRefuse 2 = .ok (.invokevirtual 84, 3) := by decide +kernel
theorem d_X_findOrRefuse_5 : decode b_X_findOrRefuse 5 = .ok (.astore_n 2, 1) := by decide +kernel
theorem d_X_findOrRefuse_6 : decode b_X_findOrRefuse 6 = .ok (.aload_n 2, 1) := by decide +kernel
theorem d_X_findOrRefuse_7 : decode b_X_findOrRefuse 7 = .ok (.ifnonnull 13, 3) := by decide +kernel
theorem d_X_findOrRefuse_10 : decode b_X_findOrRefuse 10 = .ok (.new 45, 3) := by decide +kernel
theorem d_X_findOrRefuse_13 : decode b_X_findOrRefuse 13 = .ok (.dup, 1) := by decide +kernel
theorem d_X_findOrRefuse_14 : decode b_X_findOrRefuse 14 = .ok (.ldc 175, 2) := by decide +kernel
theorem d_X_findOrRefuse_16 : decode b_X_findOrRefuse 16 = .ok (.invokespecial 49, 3) := by decide +kernel
theorem d_X_findOrRefuse_19 : decode b_X_findOrRefuse 19 = .ok (.athrow, 1) := by decide +kernel
theorem d_X_findOrRefuse_20 : decode b_X_findOrRefuse 20 = .ok (.aload_n 2, 1) := by decide +kernel
theorem d_X_findOrRefuse_21 : decode b_X_findOrRefuse 21 = .ok (.areturn, 1) := by decide +kernel
abbrev b_X_isPerson : ByteArray := prog_1_method_18_code
def y_X_isPerson : MethodName := ⟨R_X, "isPerson", "(I)Z"⟩
def w_X_isPerson : List Cond := .code y_X_isPerson b_X_isPerson 1 (some .boolean) :: BIG
theorem d_X_isPerson_0 : decode b_X_isPerson 0 = .ok (.iload_n 0, 1) := by decide +kernel
theorem d_X_isPerson_1 : decode b_X_isPerson 1 = .ok (.ifCond .lt 13, 3) := by decide +kernel
theorem d_X_isPerson_4 : decode b_X_isPerson 4 = .ok (.iload_n 0, 1) := by decide +kernel
theorem d_X_isPerson_5 : decode b_X_isPerson 5 = .ok (.bipush 16, 2) := by decide +kernel
theorem d_X_isPerson_7 : decode b_X_isPerson 7 = .ok (.if_icmp .ge 7, 3) := by decide +kernel
theorem d_X_isPerson_10 : decode b_X_isPerson 10 = .ok (.iconst 1, 1) := by decide +kernel
theorem d_X_isPerson_11 : decode b_X_isPerson 11 = .ok (.goto 4, 3) := by decide +kernel
theorem d_X_isPerson_14 : decode b_X_isPerson 14 = .ok (.iconst 0, 1) := by decide +kernel
theorem d_X_isPerson_15 : decode b_X_isPerson 15 = .ok (.ireturn, 1) := by decide +kernel
abbrev b_X_isSum : ByteArray := prog_1_method_19_code
def y_X_isSum : MethodName := ⟨R_X, "isSum", "(J)Z"⟩
def w_X_isSum : List Cond := .code y_X_isSum b_X_isSum 2 (some .boolean) :: BIG
theorem d_X_isSum_0 : decode b_X_isSum 0 = .ok (.lload_n 0, 1) := by decide +kernel
theorem d_X_isSum_1 : decode b_X_isSum 1 = .ok (.lconst 1, 1) := by decide +kernel
theorem d_X_isSum_2 : decode b_X_isSum 2 = .ok (.lcmp, 1) := by decide +kernel
theorem d_X_isSum_3 : decode b_X_isSum 3 = .ok (.ifCond .lt 15, 3) := by decide +kernel
theorem d_X_isSum_6 : decode b_X_isSum 6 = .ok (.lload_n 0, 1) := by decide +kernel
theorem d_X_isSum_7 : decode b_X_isSum 7 = .ok (.ldc2_w 195, 3) := by decide +kernel
theorem d_X_isSum_10 : decode b_X_isSum 10 = .ok (.lcmp, 1) := by decide +kernel
theorem d_X_isSum_11 : decode b_X_isSum 11 = .ok (.ifCond .gt 7, 3) := by decide +kernel
theorem d_X_isSum_14 : decode b_X_isSum 14 = .ok (.iconst 1, 1) := by decide +kernel
theorem d_X_isSum_15 : decode b_X_isSum 15 = .ok (.goto 4, 3) := by decide +kernel
theorem d_X_isSum_18 : decode b_X_isSum 18 = .ok (.iconst 0, 1) := by decide +kernel
theorem d_X_isSum_19 : decode b_X_isSum 19 = .ok (.ireturn, 1) := by decide +kernel
