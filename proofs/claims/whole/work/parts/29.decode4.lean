abbrev b_L_rate : ByteArray := method_3_code
def y_L_rate : MethodName := ⟨R_L, "rate", "(LDebtRows;III[J)I"⟩
def w_L_rate : List Cond := .codeWith y_L_rate b_L_rate 6 (some .int) [(0, 12, 15, 13), (0, 12, 19, 15), (0, 12, 23, 17)] :: BIG
theorem d_L_rate_0 : decode b_L_rate 0 = .ok (.aload 4, 2) := by decide +kernel
theorem d_L_rate_2 : decode b_L_rate 2 = .ok (.iconst 0, 1) := by decide +kernel
theorem d_L_rate_3 : decode b_L_rate 3 = .ok (.aload_n 0, 1) := by decide +kernel
theorem d_L_rate_4 : decode b_L_rate 4 = .ok (.iload_n 1, 1) := by decide +kernel
theorem d_L_rate_5 : decode b_L_rate 5 = .ok (.iload_n 2, 1) := by decide +kernel
theorem d_L_rate_6 : decode b_L_rate 6 = .ok (.iload_n 3, 1) := by decide +kernel
theorem d_L_rate_7 : decode b_L_rate 7 = .ok (.invokevirtual 7, 3) := by decide +kernel
theorem d_L_rate_10 : decode b_L_rate 10 = .ok (.i2l, 1) := by decide +kernel
theorem d_L_rate_11 : decode b_L_rate 11 = .ok (.lastore, 1) := by decide +kernel
theorem d_L_rate_12 : decode b_L_rate 12 = .ok (.goto 15, 3) := by decide +kernel
theorem d_L_rate_15 : decode b_L_rate 15 = .ok (.astore 5, 2) := by decide +kernel
theorem d_L_rate_17 : decode b_L_rate 17 = .ok (.iconst 1, 1) := by decide +kernel
theorem d_L_rate_18 : decode b_L_rate 18 = .ok (.ireturn, 1) := by decide +kernel
theorem d_L_rate_19 : decode b_L_rate 19 = .ok (.astore 5, 2) := by decide +kernel
theorem d_L_rate_21 : decode b_L_rate 21 = .ok (.iconst 2, 1) := by decide +kernel
theorem d_L_rate_22 : decode b_L_rate 22 = .ok (.ireturn, 1) := by decide +kernel
theorem d_L_rate_23 : decode b_L_rate 23 = .ok (.astore 5, 2) := by decide +kernel
theorem d_L_rate_25 : decode b_L_rate 25 = .ok (.iconst 3, 1) := by decide +kernel
theorem d_L_rate_26 : decode b_L_rate 26 = .ok (.ireturn, 1) := by decide +kernel
theorem d_L_rate_27 : decode b_L_rate 27 = .ok (.iconst 0, 1) := by decide +kernel
theorem d_L_rate_28 : decode b_L_rate 28 = .ok (.ireturn, 1) := by decide +kernel
abbrev b_L_debt : ByteArray := method_4_code
def y_L_debt : MethodName := ⟨R_L, "debt", "(LDebtRows;JI[J)I"⟩
def w_L_debt : List Cond := .codeWith y_L_debt b_L_debt 6 (some .int) [(0, 11, 14, 15), (0, 11, 18, 17)] :: BIG
theorem d_L_debt_0 : decode b_L_debt 0 = .ok (.aload 4, 2) := by decide +kernel
theorem d_L_debt_2 : decode b_L_debt 2 = .ok (.iconst 0, 1) := by decide +kernel
theorem d_L_debt_3 : decode b_L_debt 3 = .ok (.aload_n 0, 1) := by decide +kernel
theorem d_L_debt_4 : decode b_L_debt 4 = .ok (.lload_n 1, 1) := by decide +kernel
theorem d_L_debt_5 : decode b_L_debt 5 = .ok (.iload_n 3, 1) := by decide +kernel
theorem d_L_debt_6 : decode b_L_debt 6 = .ok (.invokevirtual 19, 3) := by decide +kernel
theorem d_L_debt_9 : decode b_L_debt 9 = .ok (.i2l, 1) := by decide +kernel
theorem d_L_debt_10 : decode b_L_debt 10 = .ok (.lastore, 1) := by decide +kernel
theorem d_L_debt_11 : decode b_L_debt 11 = .ok (.goto 11, 3) := by decide +kernel
theorem d_L_debt_14 : decode b_L_debt 14 = .ok (.astore 5, 2) := by decide +kernel
theorem d_L_debt_16 : decode b_L_debt 16 = .ok (.iconst 1, 1) := by decide +kernel
theorem d_L_debt_17 : decode b_L_debt 17 = .ok (.ireturn, 1) := by decide +kernel
theorem d_L_debt_18 : decode b_L_debt 18 = .ok (.astore 5, 2) := by decide +kernel
theorem d_L_debt_20 : decode b_L_debt 20 = .ok (.iconst 2, 1) := by decide +kernel
theorem d_L_debt_21 : decode b_L_debt 21 = .ok (.ireturn, 1) := by decide +kernel
theorem d_L_debt_22 : decode b_L_debt 22 = .ok (.iconst 0, 1) := by decide +kernel
theorem d_L_debt_23 : decode b_L_debt 23 = .ok (.ireturn, 1) := by decide +kernel
abbrev b_L_notified : ByteArray := method_5_code
def y_L_notified : MethodName := ⟨R_L, "notified", "(LDebtRows;I[J)I"⟩
def w_L_notified : List Cond := .codeWith y_L_notified b_L_notified 4 (some .int) [(0, 9, 12, 15)] :: BIG
theorem d_L_notified_0 : decode b_L_notified 0 = .ok (.aload_n 2, 1) := by decide +kernel
theorem d_L_notified_1 : decode b_L_notified 1 = .ok (.iconst 0, 1) := by decide +kernel
theorem d_L_notified_2 : decode b_L_notified 2 = .ok (.aload_n 0, 1) := by decide +kernel
theorem d_L_notified_3 : decode b_L_notified 3 = .ok (.iload_n 1, 1) := by decide +kernel
theorem d_L_notified_4 : decode b_L_notified 4 = .ok (.invokevirtual 23, 3) := by decide +kernel
theorem d_L_notified_7 : decode b_L_notified 7 = .ok (.i2l, 1) := by decide +kernel
theorem d_L_notified_8 : decode b_L_notified 8 = .ok (.lastore, 1) := by decide +kernel
theorem d_L_notified_9 : decode b_L_notified 9 = .ok (.goto 6, 3) := by decide +kernel
theorem d_L_notified_12 : decode b_L_notified 12 = .ok (.astore_n 3, 1) := by decide +kernel
theorem d_L_notified_13 : decode b_L_notified 13 = .ok (.iconst 1, 1) := by decide +kernel
theorem d_L_notified_14 : decode b_L_notified 14 = .ok (.ireturn, 1) := by decide +kernel
theorem d_L_notified_15 : decode b_L_notified 15 = .ok (.iconst 0, 1) := by decide +kernel
theorem d_L_notified_16 : decode b_L_notified 16 = .ok (.ireturn, 1) := by decide +kernel
abbrev b_L_pay : ByteArray := method_6_code
def y_L_pay : MethodName := ⟨R_L, "pay", "(LDebtRows;IJ[J)I"⟩
def w_L_pay : List Cond := .codeWith y_L_pay b_L_pay 6 (some .int) [(0, 11, 14, 15)] :: BIG
theorem d_L_pay_0 : decode b_L_pay 0 = .ok (.aload 4, 2) := by decide +kernel
theorem d_L_pay_2 : decode b_L_pay 2 = .ok (.iconst 0, 1) := by decide +kernel
theorem d_L_pay_3 : decode b_L_pay 3 = .ok (.aload_n 0, 1) := by decide +kernel
theorem d_L_pay_4 : decode b_L_pay 4 = .ok (.iload_n 1, 1) := by decide +kernel
theorem d_L_pay_5 : decode b_L_pay 5 = .ok (.lload_n 2, 1) := by decide +kernel
theorem d_L_pay_6 : decode b_L_pay 6 = .ok (.invokevirtual 27, 3) := by decide +kernel
theorem d_L_pay_9 : decode b_L_pay 9 = .ok (.i2l, 1) := by decide +kernel
theorem d_L_pay_10 : decode b_L_pay 10 = .ok (.lastore, 1) := by decide +kernel
theorem d_L_pay_11 : decode b_L_pay 11 = .ok (.goto 7, 3) := by decide +kernel
theorem d_L_pay_14 : decode b_L_pay 14 = .ok (.astore 5, 2) := by decide +kernel
theorem d_L_pay_16 : decode b_L_pay 16 = .ok (.iconst 1, 1) := by decide +kernel
theorem d_L_pay_17 : decode b_L_pay 17 = .ok (.ireturn, 1) := by decide +kernel
theorem d_L_pay_18 : decode b_L_pay 18 = .ok (.iconst 0, 1) := by decide +kernel
theorem d_L_pay_19 : decode b_L_pay 19 = .ok (.ireturn, 1) := by decide +kernel
abbrev b_L_instalments : ByteArray := method_7_code
def y_L_instalments : MethodName := ⟨R_L, "instalments", "(LDebtRows;II[J)I"⟩
def w_L_instalments : List Cond := .codeWith y_L_instalments b_L_instalments 5 (some .int) [(0, 10, 13, 15)] :: BIG
theorem d_L_instalments_0 : decode b_L_instalments 0 = .ok (.aload_n 3, 1) := by decide +kernel
theorem d_L_instalments_1 : decode b_L_instalments 1 = .ok (.iconst 0, 1) := by decide +kernel
theorem d_L_instalments_2 : decode b_L_instalments 2 = .ok (.aload_n 0, 1) := by decide +kernel
theorem d_L_instalments_3 : decode b_L_instalments 3 = .ok (.iload_n 1, 1) := by decide +kernel
theorem d_L_instalments_4 : decode b_L_instalments 4 = .ok (.iload_n 2, 1) := by decide +kernel
theorem d_L_instalments_5 : decode b_L_instalments 5 = .ok (.invokevirtual 31, 3) := by decide +kernel
theorem d_L_instalments_8 : decode b_L_instalments 8 = .ok (.i2l, 1) := by decide +kernel
theorem d_L_instalments_9 : decode b_L_instalments 9 = .ok (.lastore, 1) := by decide +kernel
theorem d_L_instalments_10 : decode b_L_instalments 10 = .ok (.goto 7, 3) := by decide +kernel
theorem d_L_instalments_13 : decode b_L_instalments 13 = .ok (.astore 4, 2) := by decide +kernel
theorem d_L_instalments_15 : decode b_L_instalments 15 = .ok (.iconst 1, 1) := by decide +kernel
theorem d_L_instalments_16 : decode b_L_instalments 16 = .ok (.ireturn, 1) := by decide +kernel
theorem d_L_instalments_17 : decode b_L_instalments 17 = .ok (.iconst 0, 1) := by decide +kernel
theorem d_L_instalments_18 : decode b_L_instalments 18 = .ok (.ireturn, 1) := by decide +kernel
abbrev b_L_appeal : ByteArray := method_8_code
def y_L_appeal : MethodName := ⟨R_L, "appeal", "(LDebtRows;I[J)I"⟩
def w_L_appeal : List Cond := .codeWith y_L_appeal b_L_appeal 4 (some .int) [(0, 9, 12, 15)] :: BIG
theorem d_L_appeal_0 : decode b_L_appeal 0 = .ok (.aload_n 2, 1) := by decide +kernel
theorem d_L_appeal_1 : decode b_L_appeal 1 = .ok (.iconst 0, 1) := by decide +kernel
theorem d_L_appeal_2 : decode b_L_appeal 2 = .ok (.aload_n 0, 1) := by decide +kernel
theorem d_L_appeal_3 : decode b_L_appeal 3 = .ok (.iload_n 1, 1) := by decide +kernel
theorem d_L_appeal_4 : decode b_L_appeal 4 = .ok (.invokevirtual 35, 3) := by decide +kernel
theorem d_L_appeal_7 : decode b_L_appeal 7 = .ok (.i2l, 1) := by decide +kernel
theorem d_L_appeal_8 : decode b_L_appeal 8 = .ok (.lastore, 1) := by decide +kernel
theorem d_L_appeal_9 : decode b_L_appeal 9 = .ok (.goto 6, 3) := by decide +kernel
theorem d_L_appeal_12 : decode b_L_appeal 12 = .ok (.astore_n 3, 1) := by decide +kernel
theorem d_L_appeal_13 : decode b_L_appeal 13 = .ok (.iconst 1, 1) := by decide +kernel
theorem d_L_appeal_14 : decode b_L_appeal 14 = .ok (.ireturn, 1) := by decide +kernel
theorem d_L_appeal_15 : decode b_L_appeal 15 = .ok (.iconst 0, 1) := by decide +kernel
theorem d_L_appeal_16 : decode b_L_appeal 16 = .ok (.ireturn, 1) := by decide +kernel
abbrev b_L_decide : ByteArray := method_9_code
def y_L_decide : MethodName := ⟨R_L, "decide", "(LDebtRows;IZ[J)I"⟩
def w_L_decide : List Cond := .codeWith y_L_decide b_L_decide 5 (some .int) [(0, 9, 12, 15)] :: BIG
theorem d_L_decide_0 : decode b_L_decide 0 = .ok (.aload_n 3, 1) := by decide +kernel
theorem d_L_decide_1 : decode b_L_decide 1 = .ok (.iconst 0, 1) := by decide +kernel
theorem d_L_decide_2 : decode b_L_decide 2 = .ok (.aload_n 0, 1) := by decide +kernel
theorem d_L_decide_3 : decode b_L_decide 3 = .ok (.iload_n 1, 1) := by decide +kernel
theorem d_L_decide_4 : decode b_L_decide 4 = .ok (.iload_n 2, 1) := by decide +kernel
theorem d_L_decide_5 : decode b_L_decide 5 = .ok (.invokevirtual 38, 3) := by decide +kernel
theorem d_L_decide_8 : decode b_L_decide 8 = .ok (.lastore, 1) := by decide +kernel
theorem d_L_decide_9 : decode b_L_decide 9 = .ok (.goto 7, 3) := by decide +kernel
theorem d_L_decide_12 : decode b_L_decide 12 = .ok (.astore 4, 2) := by decide +kernel
theorem d_L_decide_14 : decode b_L_decide 14 = .ok (.iconst 1, 1) := by decide +kernel
theorem d_L_decide_15 : decode b_L_decide 15 = .ok (.ireturn, 1) := by decide +kernel
theorem d_L_decide_16 : decode b_L_decide 16 = .ok (.iconst 0, 1) := by decide +kernel
theorem d_L_decide_17 : decode b_L_decide 17 = .ok (.ireturn, 1) := by decide +kernel
abbrev b_L_tick : ByteArray := method_10_code
def y_L_tick : MethodName := ⟨R_L, "tick", "(LDebtRows;I[J)I"⟩
def w_L_tick : List Cond := .codeWith y_L_tick b_L_tick 4 (some .int) [(0, 9, 12, 15)] :: BIG
theorem d_L_tick_0 : decode b_L_tick 0 = .ok (.aload_n 2, 1) := by decide +kernel
theorem d_L_tick_1 : decode b_L_tick 1 = .ok (.iconst 0, 1) := by decide +kernel
theorem d_L_tick_2 : decode b_L_tick 2 = .ok (.aload_n 0, 1) := by decide +kernel
theorem d_L_tick_3 : decode b_L_tick 3 = .ok (.iload_n 1, 1) := by decide +kernel
theorem d_L_tick_4 : decode b_L_tick 4 = .ok (.invokevirtual 42, 3) := by decide +kernel
theorem d_L_tick_7 : decode b_L_tick 7 = .ok (.i2l, 1) := by decide +kernel
theorem d_L_tick_8 : decode b_L_tick 8 = .ok (.lastore, 1) := by decide +kernel
theorem d_L_tick_9 : decode b_L_tick 9 = .ok (.goto 6, 3) := by decide +kernel
theorem d_L_tick_12 : decode b_L_tick 12 = .ok (.astore_n 3, 1) := by decide +kernel
theorem d_L_tick_13 : decode b_L_tick 13 = .ok (.iconst 1, 1) := by decide +kernel
theorem d_L_tick_14 : decode b_L_tick 14 = .ok (.ireturn, 1) := by decide +kernel
theorem d_L_tick_15 : decode b_L_tick 15 = .ok (.iconst 0, 1) := by decide +kernel
theorem d_L_tick_16 : decode b_L_tick 16 = .ok (.ireturn, 1) := by decide +kernel
abbrev b_L_due : ByteArray := method_11_code
def y_L_due : MethodName := ⟨R_L, "due", "(LDebtRows;II[J)I"⟩
def w_L_due : List Cond := .codeWith y_L_due b_L_due 5 (some .int) [(0, 9, 12, 15)] :: BIG
theorem d_L_due_0 : decode b_L_due 0 = .ok (.aload_n 3, 1) := by decide +kernel
theorem d_L_due_1 : decode b_L_due 1 = .ok (.iconst 0, 1) := by decide +kernel
theorem d_L_due_2 : decode b_L_due 2 = .ok (.aload_n 0, 1) := by decide +kernel
theorem d_L_due_3 : decode b_L_due 3 = .ok (.iload_n 1, 1) := by decide +kernel
theorem d_L_due_4 : decode b_L_due 4 = .ok (.iload_n 2, 1) := by decide +kernel
theorem d_L_due_5 : decode b_L_due 5 = .ok (.invokevirtual 45, 3) := by decide +kernel
theorem d_L_due_8 : decode b_L_due 8 = .ok (.lastore, 1) := by decide +kernel
theorem d_L_due_9 : decode b_L_due 9 = .ok (.goto 7, 3) := by decide +kernel
theorem d_L_due_12 : decode b_L_due 12 = .ok (.astore 4, 2) := by decide +kernel
theorem d_L_due_14 : decode b_L_due 14 = .ok (.iconst 1, 1) := by decide +kernel
theorem d_L_due_15 : decode b_L_due 15 = .ok (.ireturn, 1) := by decide +kernel
theorem d_L_due_16 : decode b_L_due 16 = .ok (.iconst 0, 1) := by decide +kernel
theorem d_L_due_17 : decode b_L_due 17 = .ok (.ireturn, 1) := by decide +kernel
abbrev b_L_recourse : ByteArray := method_12_code
def y_L_recourse : MethodName := ⟨R_L, "recourse", "(LDebtRows;III[J)I"⟩
def w_L_recourse : List Cond := .codeWith y_L_recourse b_L_recourse 6 (some .int) [(0, 11, 14, 15)] :: BIG
theorem d_L_recourse_0 : decode b_L_recourse 0 = .ok (.aload 4, 2) := by decide +kernel
theorem d_L_recourse_2 : decode b_L_recourse 2 = .ok (.iconst 0, 1) := by decide +kernel
theorem d_L_recourse_3 : decode b_L_recourse 3 = .ok (.aload_n 0, 1) := by decide +kernel
theorem d_L_recourse_4 : decode b_L_recourse 4 = .ok (.iload_n 1, 1) := by decide +kernel
theorem d_L_recourse_5 : decode b_L_recourse 5 = .ok (.iload_n 2, 1) := by decide +kernel
theorem d_L_recourse_6 : decode b_L_recourse 6 = .ok (.iload_n 3, 1) := by decide +kernel
theorem d_L_recourse_7 : decode b_L_recourse 7 = .ok (.invokevirtual 49, 3) := by decide +kernel
theorem d_L_recourse_10 : decode b_L_recourse 10 = .ok (.lastore, 1) := by decide +kernel
theorem d_L_recourse_11 : decode b_L_recourse 11 = .ok (.goto 7, 3) := by decide +kernel
theorem d_L_recourse_14 : decode b_L_recourse 14 = .ok (.astore 5, 2) := by decide +kernel
theorem d_L_recourse_16 : decode b_L_recourse 16 = .ok (.iconst 1, 1) := by decide +kernel
theorem d_L_recourse_17 : decode b_L_recourse 17 = .ok (.ireturn, 1) := by decide +kernel
theorem d_L_recourse_18 : decode b_L_recourse 18 = .ok (.iconst 0, 1) := by decide +kernel
theorem d_L_recourse_19 : decode b_L_recourse 19 = .ok (.ireturn, 1) := by decide +kernel
abbrev b_L_look : ByteArray := method_13_code
def y_L_look : MethodName := ⟨R_L, "look", "(LDebtRows;II[J)I"⟩
def w_L_look : List Cond := .codeWith y_L_look b_L_look 5 (some .int) [(0, 10, 13, 56)] :: BIG
theorem d_L_look_0 : decode b_L_look 0 = .ok (.aload_n 3, 1) := by decide +kernel
theorem d_L_look_1 : decode b_L_look 1 = .ok (.iconst 0, 1) := by decide +kernel
theorem d_L_look_2 : decode b_L_look 2 = .ok (.aload_n 0, 1) := by decide +kernel
theorem d_L_look_3 : decode b_L_look 3 = .ok (.iload_n 1, 1) := by decide +kernel
theorem d_L_look_4 : decode b_L_look 4 = .ok (.iload_n 2, 1) := by decide +kernel
theorem d_L_look_5 : decode b_L_look 5 = .ok (.invokevirtual 53, 3) := by decide +kernel
theorem d_L_look_8 : decode b_L_look 8 = .ok (.i2l, 1) := by decide +kernel
theorem d_L_look_9 : decode b_L_look 9 = .ok (.lastore, 1) := by decide +kernel
theorem d_L_look_10 : decode b_L_look 10 = .ok (.goto 7, 3) := by decide +kernel
theorem d_L_look_13 : decode b_L_look 13 = .ok (.astore 4, 2) := by decide +kernel
theorem d_L_look_15 : decode b_L_look 15 = .ok (.iconst 1, 1) := by decide +kernel
theorem d_L_look_16 : decode b_L_look 16 = .ok (.ireturn, 1) := by decide +kernel
theorem d_L_look_17 : decode b_L_look 17 = .ok (.iconst 0, 1) := by decide +kernel
theorem d_L_look_18 : decode b_L_look 18 = .ok (.ireturn, 1) := by decide +kernel
