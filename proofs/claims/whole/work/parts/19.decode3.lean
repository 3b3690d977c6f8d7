abbrev b_M_init : ByteArray := prog_5_method_1_code
def y_M_init : MethodName := ⟨R_M, "<init>", "()V"⟩
def w_M_init : List Cond := .code y_M_init b_M_init 1 none :: BIG
theorem d_M_init_0 : decode b_M_init 0 = .ok (.aload_n 0, 1) := by decide +kernel
theorem d_M_init_1 : decode b_M_init 1 = .ok (.invokespecial 1, 3) := by decide +kernel
theorem d_M_init_4 : decode b_M_init 4 = .ok (.aload_n 0, 1) := by decide +kernel
theorem d_M_init_5 : decode b_M_init 5 = .ok (.bipush 20, 2) := by decide +kernel
theorem d_M_init_7 : decode b_M_init 7 = .ok (.newarray .int, 2) := by decide +kernel
theorem d_M_init_9 : decode b_M_init 9 = .ok (.putfield 7, 3) := by decide +kernel
theorem d_M_init_12 : decode b_M_init 12 = .ok (.aload_n 0, 1) := by decide +kernel
theorem d_M_init_13 : decode b_M_init 13 = .ok (.bipush 20, 2) := by decide +kernel
theorem d_M_init_15 : decode b_M_init 15 = .ok (.newarray .int, 2) := by decide +kernel
theorem d_M_init_17 : decode b_M_init 17 = .ok (.putfield 13, 3) := by decide +kernel
theorem d_M_init_20 : decode b_M_init 20 = .ok (.aload_n 0, 1) := by decide +kernel
theorem d_M_init_21 : decode b_M_init 21 = .ok (.bipush 20, 2) := by decide +kernel
theorem d_M_init_23 : decode b_M_init 23 = .ok (.newarray .int, 2) := by decide +kernel
theorem d_M_init_25 : decode b_M_init 25 = .ok (.putfield 16, 3) := by decide +kernel
theorem d_M_init_28 : decode b_M_init 28 = .ok (.aload_n 0, 1) := by decide +kernel
theorem d_M_init_29 : decode b_M_init 29 = .ok (.bipush 41, 2) := by decide +kernel
theorem d_M_init_31 : decode b_M_init 31 = .ok (.newarray .int, 2) := by decide +kernel
theorem d_M_init_33 : decode b_M_init 33 = .ok (.putfield 19, 3) := by decide +kernel
theorem d_M_init_36 : decode b_M_init 36 = .ok (.aload_n 0, 1) := by decide +kernel
theorem d_M_init_37 : decode b_M_init 37 = .ok (.bipush 41, 2) := by decide +kernel
theorem d_M_init_39 : decode b_M_init 39 = .ok (.newarray .int, 2) := by decide +kernel
theorem d_M_init_41 : decode b_M_init 41 = .ok (.putfield 22, 3) := by decide +kernel
theorem d_M_init_44 : decode b_M_init 44 = .ok (.aload_n 0, 1) := by decide +kernel
theorem d_M_init_45 : decode b_M_init 45 = .ok (.bipush 41, 2) := by decide +kernel
theorem d_M_init_47 : decode b_M_init 47 = .ok (.newarray .int, 2) := by decide +kernel
theorem d_M_init_49 : decode b_M_init 49 = .ok (.putfield 25, 3) := by decide +kernel
theorem d_M_init_52 : decode b_M_init 52 = .ok (.aload_n 0, 1) := by decide +kernel
theorem d_M_init_53 : decode b_M_init 53 = .ok (.bipush 41, 2) := by decide +kernel
theorem d_M_init_55 : decode b_M_init 55 = .ok (.newarray .long, 2) := by decide +kernel
theorem d_M_init_57 : decode b_M_init 57 = .ok (.putfield 28, 3) := by decide +kernel
theorem d_M_init_60 : decode b_M_init 60 = .ok (.aload_n 0, 1) := by decide +kernel
theorem d_M_init_61 : decode b_M_init 61 = .ok (.bipush 41, 2) := by decide +kernel
theorem d_M_init_63 : decode b_M_init 63 = .ok (.newarray .long, 2) := by decide +kernel
theorem d_M_init_65 : decode b_M_init 65 = .ok (.putfield 32, 3) := by decide +kernel
theorem d_M_init_68 : decode b_M_init 68 = .ok (.aload_n 0, 1) := by decide +kernel
theorem d_M_init_69 : decode b_M_init 69 = .ok (.bipush 41, 2) := by decide +kernel
theorem d_M_init_71 : decode b_M_init 71 = .ok (.newarray .long, 2) := by decide +kernel
theorem d_M_init_73 : decode b_M_init 73 = .ok (.putfield 35, 3) := by decide +kernel
theorem d_M_init_76 : decode b_M_init 76 = .ok (.aload_n 0, 1) := by decide +kernel
theorem d_M_init_77 : decode b_M_init 77 = .ok (.bipush 41, 2) := by decide +kernel
theorem d_M_init_79 : decode b_M_init 79 = .ok (.newarray .long, 2) := by decide +kernel
theorem d_M_init_81 : decode b_M_init 81 = .ok (.putfield 38, 3) := by decide +kernel
theorem d_M_init_84 : decode b_M_init 84 = .ok (.aload_n 0, 1) := by decide +kernel
theorem d_M_init_85 : decode b_M_init 85 = .ok (.bipush 41, 2) := by decide +kernel
theorem d_M_init_87 : decode b_M_init 87 = .ok (.newarray .int, 2) := by decide +kernel
theorem d_M_init_89 : decode b_M_init 89 = .ok (.putfield 41, 3) := by decide +kernel
theorem d_M_init_92 : decode b_M_init 92 = .ok (.aload_n 0, 1) := by decide +kernel
theorem d_M_init_93 : decode b_M_init 93 = .ok (.bipush 41, 2) := by decide +kernel
theorem d_M_init_95 : decode b_M_init 95 = .ok (.newarray .long, 2) := by decide +kernel
theorem d_M_init_97 : decode b_M_init 97 = .ok (.putfield 44, 3) := by decide +kernel
theorem d_M_init_100 : decode b_M_init 100 = .ok (.aload_n 0, 1) := by decide +kernel
theorem d_M_init_101 : decode b_M_init 101 = .ok (.bipush 41, 2) := by decide +kernel
theorem d_M_init_103 : decode b_M_init 103 = .ok (.newarray .int, 2) := by decide +kernel
theorem d_M_init_105 : decode b_M_init 105 = .ok (.putfield 47, 3) := by decide +kernel
theorem d_M_init_108 : decode b_M_init 108 = .ok (.aload_n 0, 1) := by decide +kernel
theorem d_M_init_109 : decode b_M_init 109 = .ok (.bipush 41, 2) := by decide +kernel
theorem d_M_init_111 : decode b_M_init 111 = .ok (.newarray .int, 2) := by decide +kernel
theorem d_M_init_113 : decode b_M_init 113 = .ok (.putfield 50, 3) := by decide +kernel
theorem d_M_init_116 : decode b_M_init 116 = .ok (.aload_n 0, 1) := by decide +kernel
theorem d_M_init_117 : decode b_M_init 117 = .ok (.bipush 41, 2) := by decide +kernel
theorem d_M_init_119 : decode b_M_init 119 = .ok (.newarray .long, 2) := by decide +kernel
theorem d_M_init_121 : decode b_M_init 121 = .ok (.putfield 53, 3) := by decide +kernel
theorem d_M_init_124 : decode b_M_init 124 = .ok (.aload_n 0, 1) := by decide +kernel
theorem d_M_init_125 : decode b_M_init 125 = .ok (.bipush 41, 2) := by decide +kernel
theorem d_M_init_127 : decode b_M_init 127 = .ok (.newarray .int, 2) := by decide +kernel
theorem d_M_init_129 : decode b_M_init 129 = .ok (.putfield 56, 3) := by decide +kernel
theorem d_M_init_132 : decode b_M_init 132 = .ok (.aload_n 0, 1) := by decide +kernel
theorem d_M_init_133 : decode b_M_init 133 = .ok (.sipush 164, 3) := by decide +kernel
theorem d_M_init_136 : decode b_M_init 136 = .ok (.newarray .int, 2) := by decide +kernel
theorem d_M_init_138 : decode b_M_init 138 = .ok (.putfield 59, 3) := by decide +kernel
theorem d_M_init_141 : decode b_M_init 141 = .ok (.aload_n 0, 1) := by decide +kernel
theorem d_M_init_142 : decode b_M_init 142 = .ok (.sipush 164, 3) := by decide +kernel
theorem d_M_init_145 : decode b_M_init 145 = .ok (.newarray .long, 2) := by decide +kernel
theorem d_M_init_147 : decode b_M_init 147 = .ok (.putfield 62, 3) := by decide +kernel
theorem d_M_init_150 : decode b_M_init 150 = .ok (.aload_n 0, 1) := by decide +kernel
theorem d_M_init_151 : decode b_M_init 151 = .ok (.bipush 16, 2) := by decide +kernel
theorem d_M_init_153 : decode b_M_init 153 = .ok (.newarray .long, 2) := by decide +kernel
theorem d_M_init_155 : decode b_M_init 155 = .ok (.putfield 65, 3) := by decide +kernel
theorem d_M_init_158 : decode b_M_init 158 = .ok (.return_, 1) := by decide +kernel
abbrev b_M_thrown : ByteArray := prog_5_method_2_code
def y_M_thrown : MethodName := ⟨R_M, "thrown", "()I"⟩
def w_M_thrown : List Cond := .code y_M_thrown b_M_thrown 1 (some .int) :: BIG
theorem d_M_thrown_0 : decode b_M_thrown 0 = .ok (.aload_n 0, 1) := by decide +kernel
theorem d_M_thrown_1 : decode b_M_thrown 1 = .ok (.getfield 68, 3) := by decide +kernel
theorem d_M_thrown_4 : decode b_M_thrown 4 = .ok (.ireturn, 1) := by decide +kernel
abbrev b_M_fails : ByteArray := prog_5_method_3_code
def y_M_fails : MethodName := ⟨R_M, "fails", "(I)I"⟩
def w_M_fails : List Cond := .code y_M_fails b_M_fails 2 (some .int) :: BIG
theorem d_M_fails_0 : decode b_M_fails 0 = .ok (.aload_n 0, 1) := by decide +kernel
theorem d_M_fails_1 : decode b_M_fails 1 = .ok (.iload_n 1, 1) := by decide +kernel
theorem d_M_fails_2 : decode b_M_fails 2 = .ok (.putfield 68, 3) := by decide +kernel
theorem d_M_fails_5 : decode b_M_fails 5 = .ok (.iconst 0, 1) := by decide +kernel
theorem d_M_fails_6 : decode b_M_fails 6 = .ok (.ireturn, 1) := by decide +kernel
abbrev b_M_in : ByteArray := prog_5_method_4_code
def y_M_in : MethodName := ⟨R_M, "in", "(JJJ)Z"⟩
def w_M_in : List Cond := .code y_M_in b_M_in 6 (some .boolean) :: BIG
theorem d_M_in_0 : decode b_M_in 0 = .ok (.lload_n 0, 1) := by decide +kernel
theorem d_M_in_1 : decode b_M_in 1 = .ok (.lload_n 2, 1) := by decide +kernel
theorem d_M_in_2 : decode b_M_in 2 = .ok (.lcmp, 1) := by decide +kernel
theorem d_M_in_3 : decode b_M_in 3 = .ok (.ifCond .lt 14, 3) := by decide +kernel
theorem d_M_in_6 : decode b_M_in 6 = .ok (.lload_n 0, 1) := by decide +kernel
theorem d_M_in_7 : decode b_M_in 7 = .ok (.lload 4, 2) := by decide +kernel
theorem d_M_in_9 : decode b_M_in 9 = .ok (.lcmp, 1) := by decide +kernel
theorem d_M_in_10 : decode b_M_in 10 = .ok (.ifCond .gt 7, 3) := by decide +kernel
theorem d_M_in_13 : decode b_M_in 13 = .ok (.iconst 1, 1) := by decide +kernel
theorem d_M_in_14 : decode b_M_in 14 = .ok (.goto 4, 3) := by decide +kernel
theorem d_M_in_17 : decode b_M_in 17 = .ok (.iconst 0, 1) := by decide +kernel
theorem d_M_in_18 : decode b_M_in 18 = .ok (.ireturn, 1) := by decide +kernel
abbrev b_M_isDebt : ByteArray := prog_5_method_5_code
def y_M_isDebt : MethodName := ⟨R_M, "isDebt", "(I)Z"⟩
def w_M_isDebt : List Cond := .code y_M_isDebt b_M_isDebt 2 (some .boolean) :: BIG
theorem d_M_isDebt_0 : decode b_M_isDebt 0 = .ok (.iload_n 1, 1) := by decide +kernel
theorem d_M_isDebt_1 : decode b_M_isDebt 1 = .ok (.iconst 1, 1) := by decide +kernel
theorem d_M_isDebt_2 : decode b_M_isDebt 2 = .ok (.if_icmp .lt 15, 3) := by decide +kernel
theorem d_M_isDebt_5 : decode b_M_isDebt 5 = .ok (.iload_n 1, 1) := by decide +kernel
theorem d_M_isDebt_6 : decode b_M_isDebt 6 = .ok (.aload_n 0, 1) := by decide +kernel
theorem d_M_isDebt_7 : decode b_M_isDebt 7 = .ok (.getfield 72, 3) := by decide +kernel
theorem d_M_isDebt_10 : decode b_M_isDebt 10 = .ok (.if_icmp .gt 7, 3) := by decide +kernel
theorem d_M_isDebt_13 : decode b_M_isDebt 13 = .ok (.iconst 1, 1) := by decide +kernel
theorem d_M_isDebt_14 : decode b_M_isDebt 14 = .ok (.goto 4, 3) := by decide +kernel
theorem d_M_isDebt_17 : decode b_M_isDebt 17 = .ok (.iconst 0, 1) := by decide +kernel
theorem d_M_isDebt_18 : decode b_M_isDebt 18 = .ok (.ireturn, 1) := by decide +kernel
abbrev b_M_isPerson : ByteArray := prog_5_method_6_code
def y_M_isPerson : MethodName := ⟨R_M, "isPerson", "(I)Z"⟩
def w_M_isPerson : List Cond := .code y_M_isPerson b_M_isPerson 1 (some .boolean) :: BIG
theorem d_M_isPerson_0 : decode b_M_isPerson 0 = .ok (.iload_n 0, 1) := by decide +kernel
theorem d_M_isPerson_1 : decode b_M_isPerson 1 = .ok (.ifCond .lt 13, 3) := by decide +kernel
theorem d_M_isPerson_4 : decode b_M_isPerson 4 = .ok (.iload_n 0, 1) := by decide +kernel
theorem d_M_isPerson_5 : decode b_M_isPerson 5 = .ok (.bipush 16, 2) := by decide +kernel
theorem d_M_isPerson_7 : decode b_M_isPerson 7 = .ok (.if_icmp .ge 7, 3) := by decide +kernel
theorem d_M_isPerson_10 : decode b_M_isPerson 10 = .ok (.iconst 1, 1) := by decide +kernel
theorem d_M_isPerson_11 : decode b_M_isPerson 11 = .ok (.goto 4, 3) := by decide +kernel
theorem d_M_isPerson_14 : decode b_M_isPerson 14 = .ok (.iconst 0, 1) := by decide +kernel
theorem d_M_isPerson_15 : decode b_M_isPerson 15 = .ok (.ireturn, 1) := by decide +kernel
abbrev b_M_rate : ByteArray := prog_5_method_7_code
def y_M_rate : MethodName := ⟨R_M, "rate", "(III)I"⟩
def w_M_rate : List Cond := .code y_M_rate b_M_rate 4 (some .int) :: BIG
theorem d_M_rate_0 : decode b_M_rate 0 = .ok (.iload_n 3, 1) := by decide +kernel
theorem d_M_rate_1 : decode b_M_rate 1 = .ok (.ifCond .ne 9, 3) := by decide +kernel
theorem d_M_rate_4 : decode b_M_rate 4 = .ok (.aload_n 0, 1) := by decide +kernel
theorem d_M_rate_5 : decode b_M_rate 5 = .ok (.iconst 1, 1) := by decide +kernel
theorem d_M_rate_6 : decode b_M_rate 6 = .ok (.invokevirtual 75, 3) := by decide +kernel
theorem d_M_rate_9 : decode b_M_rate 9 = .ok (.ireturn, 1) := by decide +kernel
theorem d_M_rate_10 : decode b_M_rate 10 = .ok (.iload_n 1, 1) := by decide +kernel
theorem d_M_rate_11 : decode b_M_rate 11 = .ok (.aload_n 0, 1) := by decide +kernel
theorem d_M_rate_12 : decode b_M_rate 12 = .ok (.getfield 79, 3) := by decide +kernel
theorem d_M_rate_15 : decode b_M_rate 15 = .ok (.if_icmp .le 62, 3) := by decide +kernel
theorem d_M_rate_18 : decode b_M_rate 18 = .ok (.iload_n 1, 1) := by decide +kernel
theorem d_M_rate_19 : decode b_M_rate 19 = .ok (.ldc 82, 2) := by decide +kernel
theorem d_M_rate_21 : decode b_M_rate 21 = .ok (.if_icmp .gt 56, 3) := by decide +kernel
theorem d_M_rate_24 : decode b_M_rate 24 = .ok (.aload_n 0, 1) := by decide +kernel
theorem d_M_rate_25 : decode b_M_rate 25 = .ok (.getfield 83, 3) := by decide +kernel
theorem d_M_rate_28 : decode b_M_rate 28 = .ok (.ifCond .le 29, 3) := by decide +kernel
theorem d_M_rate_31 : decode b_M_rate 31 = .ok (.iload_n 1, 1) := by decide +kernel
theorem d_M_rate_32 : decode b_M_rate 32 = .ok (.aload_n 0, 1) := by decide +kernel
theorem d_M_rate_33 : decode b_M_rate 33 = .ok (.getfield 7, 3) := by decide +kernel
theorem d_M_rate_36 : decode b_M_rate 36 = .ok (.aload_n 0, 1) := by decide +kernel
theorem d_M_rate_37 : decode b_M_rate 37 = .ok (.getfield 83, 3) := by decide +kernel
theorem d_M_rate_40 : decode b_M_rate 40 = .ok (.ifCond .le 12, 3) := by decide +kernel
theorem d_M_rate_43 : decode b_M_rate 43 = .ok (.aload_n 0, 1) := by decide +kernel
theorem d_M_rate_44 : decode b_M_rate 44 = .ok (.getfield 83, 3) := by decide +kernel
theorem d_M_rate_47 : decode b_M_rate 47 = .ok (.iconst 1, 1) := by decide +kernel
theorem d_M_rate_48 : decode b_M_rate 48 = .ok (.isub, 1) := by decide +kernel
theorem d_M_rate_49 : decode b_M_rate 49 = .ok (.goto 4, 3) := by decide +kernel
theorem d_M_rate_52 : decode b_M_rate 52 = .ok (.iconst 0, 1) := by decide +kernel
theorem d_M_rate_53 : decode b_M_rate 53 = .ok (.iaload, 1) := by decide +kernel
theorem d_M_rate_54 : decode b_M_rate 54 = .ok (.if_icmp .lt 23, 3) := by decide +kernel
theorem d_M_rate_57 : decode b_M_rate 57 = .ok (.iload_n 3, 1) := by decide +kernel
theorem d_M_rate_58 : decode b_M_rate 58 = .ok (.ifCond .lt 19, 3) := by decide +kernel
theorem d_M_rate_61 : decode b_M_rate 61 = .ok (.iload_n 3, 1) := by decide +kernel
theorem d_M_rate_62 : decode b_M_rate 62 = .ok (.sipush 1000, 3) := by decide +kernel
theorem d_M_rate_65 : decode b_M_rate 65 = .ok (.if_icmp .gt 12, 3) := by decide +kernel
theorem d_M_rate_68 : decode b_M_rate 68 = .ok (.iload_n 2, 1) := by decide +kernel
theorem d_M_rate_69 : decode b_M_rate 69 = .ok (.ifCond .lt 8, 3) := by decide +kernel
theorem d_M_rate_72 : decode b_M_rate 72 = .ok (.iload_n 2, 1) := by decide +kernel
theorem d_M_rate_73 : decode b_M_rate 73 = .ok (.iload_n 3, 1) := by decide +kernel
theorem d_M_rate_74 : decode b_M_rate 74 = .ok (.if_icmp .le 9, 3) := by decide +kernel
theorem d_M_rate_77 : decode b_M_rate 77 = .ok (.aload_n 0, 1) := by decide +kernel
theorem d_M_rate_78 : decode b_M_rate 78 = .ok (.iconst 2, 1) := by decide +kernel
theorem d_M_rate_79 : decode b_M_rate 79 = .ok (.invokevirtual 75, 3) := by decide +kernel
theorem d_M_rate_82 : decode b_M_rate 82 = .ok (.ireturn, 1) := by decide +kernel
theorem d_M_rate_83 : decode b_M_rate 83 = .ok (.aload_n 0, 1) := by decide +kernel
theorem d_M_rate_84 : decode b_M_rate 84 = .ok (.getfield 83, 3) := by decide +kernel
theorem d_M_rate_87 : decode b_M_rate 87 = .ok (.bipush 20, 2) := by decide +kernel
theorem d_M_rate_89 : decode b_M_rate 89 = .ok (.if_icmp .ne 9, 3) := by decide +kernel
theorem d_M_rate_92 : decode b_M_rate 92 = .ok (.aload_n 0, 1) := by decide +kernel
theorem d_M_rate_93 : decode b_M_rate 93 = .ok (.iconst 3, 1) := by decide +kernel
theorem d_M_rate_94 : decode b_M_rate 94 = .ok (.invokevirtual 75, 3) := by decide +kernel
theorem d_M_rate_97 : decode b_M_rate 97 = .ok (.ireturn, 1) := by decide +kernel
theorem d_M_rate_98 : decode b_M_rate 98 = .ok (.aload_n 0, 1) := by decide +kernel
theorem d_M_rate_99 : decode b_M_rate 99 = .ok (.iconst 0, 1) := by decide +kernel
theorem d_M_rate_100 : decode b_M_rate 100 = .ok (.putfield 68, 3) := by decide +kernel
theorem d_M_rate_103 : decode b_M_rate 103 = .ok (.aload_n 0, 1) := by decide +kernel
theorem d_M_rate_104 : decode b_M_rate 104 = .ok (.getfield 7, 3) := by decide +kernel
theorem d_M_rate_107 : decode b_M_rate 107 = .ok (.aload_n 0, 1) := by decide +kernel
theorem d_M_rate_108 : decode b_M_rate 108 = .ok (.getfield 83, 3) := by decide +kernel
theorem d_M_rate_111 : decode b_M_rate 111 = .ok (.iload_n 1, 1) := by decide +kernel
theorem d_M_rate_112 : decode b_M_rate 112 = .ok (.iastore, 1) := by decide +kernel
theorem d_M_rate_113 : decode b_M_rate 113 = .ok (.aload_n 0, 1) := by decide +kernel
theorem d_M_rate_114 : decode b_M_rate 114 = .ok (.getfield 13, 3) := by decide +kernel
theorem d_M_rate_117 : decode b_M_rate 117 = .ok (.aload_n 0, 1) := by decide +kernel
theorem d_M_rate_118 : decode b_M_rate 118 = .ok (.getfield 83, 3) := by decide +kernel
theorem d_M_rate_121 : decode b_M_rate 121 = .ok (.iload_n 2, 1) := by decide +kernel
theorem d_M_rate_122 : decode b_M_rate 122 = .ok (.iastore, 1) := by decide +kernel
theorem d_M_rate_123 : decode b_M_rate 123 = .ok (.aload_n 0, 1) := by decide +kernel
theorem d_M_rate_124 : decode b_M_rate 124 = .ok (.getfield 16, 3) := by decide +kernel
theorem d_M_rate_127 : decode b_M_rate 127 = .ok (.aload_n 0, 1) := by decide +kernel
theorem d_M_rate_128 : decode b_M_rate 128 = .ok (.getfield 83, 3) := by decide +kernel
theorem d_M_rate_131 : decode b_M_rate 131 = .ok (.iload_n 3, 1) := by decide +kernel
theorem d_M_rate_132 : decode b_M_rate 132 = .ok (.iastore, 1) := by decide +kernel
theorem d_M_rate_133 : decode b_M_rate 133 = .ok (.aload_n 0, 1) := by decide +kernel
theorem d_M_rate_134 : decode b_M_rate 134 = .ok (.dup, 1) := by decide +kernel
theorem d_M_rate_135 : decode b_M_rate 135 = .ok (.getfield 83, 3) := by decide +kernel
theorem d_M_rate_138 : decode b_M_rate 138 = .ok (.iconst 1, 1) := by decide +kernel
theorem d_M_rate_139 : decode b_M_rate 139 = .ok (.iadd, 1) := by decide +kernel
theorem d_M_rate_140 : decode b_M_rate 140 = .ok (.putfield 83, 3) := by decide +kernel
theorem d_M_rate_143 : decode b_M_rate 143 = .ok (.aload_n 0, 1) := by decide +kernel
theorem d_M_rate_144 : decode b_M_rate 144 = .ok (.getfield 83, 3) := by decide +kernel
theorem d_M_rate_147 : decode b_M_rate 147 = .ok (.ireturn, 1) := by decide +kernel
abbrev b_M_debt : ByteArray := prog_5_method_8_code
def y_M_debt : MethodName := ⟨R_M, "debt", "(JI)I"⟩
def w_M_debt : List Cond := .code y_M_debt b_M_debt 4 (some .int) :: BIG
theorem d_M_debt_0 : decode b_M_debt 0 = .ok (.lload_n 1, 1) := by decide +kernel
theorem d_M_debt_1 : decode b_M_debt 1 = .ok (.lconst 1, 1) := by decide +kernel
theorem d_M_debt_2 : decode b_M_debt 2 = .ok (.ldc2_w 86, 3) := by decide +kernel
theorem d_M_debt_5 : decode b_M_debt 5 = .ok (.invokestatic 88, 3) := by decide +kernel
theorem d_M_debt_8 : decode b_M_debt 8 = .ok (.ifCond .eq 10, 3) := by decide +kernel
theorem d_M_debt_11 : decode b_M_debt 11 = .ok (.iload_n 3, 1) := by decide +kernel
theorem d_M_debt_12 : decode b_M_debt 12 = .ok (.invokestatic 92, 3) := by decide +kernel
theorem d_M_debt_15 : decode b_M_debt 15 = .ok (.ifCond .ne 9, 3) := by decide +kernel
theorem d_M_debt_18 : decode b_M_debt 18 = .ok (.aload_n 0, 1) := by decide +kernel
theorem d_M_debt_19 : decode b_M_debt 19 = .ok (.iconst 1, 1) := by decide +kernel
theorem d_M_debt_20 : decode b_M_debt 20 = .ok (.invokevirtual 75, 3) := by decide +kernel
theorem d_M_debt_23 : decode b_M_debt 23 = .ok (.ireturn, 1) := by decide +kernel
theorem d_M_debt_24 : decode b_M_debt 24 = .ok (.aload_n 0, 1) := by decide +kernel
theorem d_M_debt_25 : decode b_M_debt 25 = .ok (.getfield 72, 3) := by decide +kernel
theorem d_M_debt_28 : decode b_M_debt 28 = .ok (.bipush 40, 2) := by decide +kernel
theorem d_M_debt_30 : decode b_M_debt 30 = .ok (.if_icmp .ne 9, 3) := by decide +kernel
theorem d_M_debt_33 : decode b_M_debt 33 = .ok (.aload_n 0, 1) := by decide +kernel
theorem d_M_debt_34 : decode b_M_debt 34 = .ok (.iconst 2, 1) := by decide +kernel
theorem d_M_debt_35 : decode b_M_debt 35 = .ok (.invokevirtual 75, 3) := by decide +kernel
theorem d_M_debt_38 : decode b_M_debt 38 = .ok (.ireturn, 1) := by decide +kernel
theorem d_M_debt_39 : decode b_M_debt 39 = .ok (.aload_n 0, 1) := by decide +kernel
theorem d_M_debt_40 : decode b_M_debt 40 = .ok (.iconst 0, 1) := by decide +kernel
theorem d_M_debt_41 : decode b_M_debt 41 = .ok (.putfield 68, 3) := by decide +kernel
theorem d_M_debt_44 : decode b_M_debt 44 = .ok (.aload_n 0, 1) := by decide +kernel
theorem d_M_debt_45 : decode b_M_debt 45 = .ok (.dup, 1) := by decide +kernel
theorem d_M_debt_46 : decode b_M_debt 46 = .ok (.getfield 72, 3) := by decide +kernel
theorem d_M_debt_49 : decode b_M_debt 49 = .ok (.iconst 1, 1) := by decide +kernel
theorem d_M_debt_50 : decode b_M_debt 50 = .ok (.iadd, 1) := by decide +kernel
theorem d_M_debt_51 : decode b_M_debt 51 = .ok (.putfield 72, 3) := by decide +kernel
theorem d_M_debt_54 : decode b_M_debt 54 = .ok (.aload_n 0, 1) := by decide +kernel
theorem d_M_debt_55 : decode b_M_debt 55 = .ok (.getfield 28, 3) := by decide +kernel
theorem d_M_debt_58 : decode b_M_debt 58 = .ok (.aload_n 0, 1) := by decide +kernel
theorem d_M_debt_59 : decode b_M_debt 59 = .ok (.getfield 72, 3) := by decide +kernel
theorem d_M_debt_62 : decode b_M_debt 62 = .ok (.lload_n 1, 1) := by decide +kernel
theorem d_M_debt_63 : decode b_M_debt 63 = .ok (.lastore, 1) := by decide +kernel
theorem d_M_debt_64 : decode b_M_debt 64 = .ok (.aload_n 0, 1) := by decide +kernel
theorem d_M_debt_65 : decode b_M_debt 65 = .ok (.getfield 32, 3) := by decide +kernel
theorem d_M_debt_68 : decode b_M_debt 68 = .ok (.aload_n 0, 1) := by decide +kernel
theorem d_M_debt_69 : decode b_M_debt 69 = .ok (.getfield 72, 3) := by decide +kernel
theorem d_M_debt_72 : decode b_M_debt 72 = .ok (.lload_n 1, 1) := by decide +kernel
theorem d_M_debt_73 : decode b_M_debt 73 = .ok (.lastore, 1) := by decide +kernel
theorem d_M_debt_74 : decode b_M_debt 74 = .ok (.aload_n 0, 1) := by decide +kernel
theorem d_M_debt_75 : decode b_M_debt 75 = .ok (.getfield 22, 3) := by decide +kernel
theorem d_M_debt_78 : decode b_M_debt 78 = .ok (.aload_n 0, 1) := by decide +kernel
theorem d_M_debt_79 : decode b_M_debt 79 = .ok (.getfield 72, 3) := by decide +kernel
theorem d_M_debt_82 : decode b_M_debt 82 = .ok (.aload_n 0, 1) := by decide +kernel
theorem d_M_debt_83 : decode b_M_debt 83 = .ok (.getfield 79, 3) := by decide +kernel
theorem d_M_debt_86 : decode b_M_debt 86 = .ok (.iastore, 1) := by decide +kernel
theorem d_M_debt_87 : decode b_M_debt 87 = .ok (.aload_n 0, 1) := by decide +kernel
theorem d_M_debt_88 : decode b_M_debt 88 = .ok (.getfield 25, 3) := by decide +kernel
theorem d_M_debt_91 : decode b_M_debt 91 = .ok (.aload_n 0, 1) := by decide +kernel
theorem d_M_debt_92 : decode b_M_debt 92 = .ok (.getfield 72, 3) := by decide +kernel
theorem d_M_debt_95 : decode b_M_debt 95 = .ok (.iconst (-1), 1) := by decide +kernel
theorem d_M_debt_96 : decode b_M_debt 96 = .ok (.iastore, 1) := by decide +kernel
theorem d_M_debt_97 : decode b_M_debt 97 = .ok (.aload_n 0, 1) := by decide +kernel
theorem d_M_debt_98 : decode b_M_debt 98 = .ok (.getfield 56, 3) := by decide +kernel
theorem d_M_debt_101 : decode b_M_debt 101 = .ok (.aload_n 0, 1) := by decide +kernel
theorem d_M_debt_102 : decode b_M_debt 102 = .ok (.getfield 72, 3) := by decide +kernel
theorem d_M_debt_105 : decode b_M_debt 105 = .ok (.iconst 1, 1) := by decide +kernel
theorem d_M_debt_106 : decode b_M_debt 106 = .ok (.iastore, 1) := by decide +kernel
theorem d_M_debt_107 : decode b_M_debt 107 = .ok (.aload_n 0, 1) := by decide +kernel
theorem d_M_debt_108 : decode b_M_debt 108 = .ok (.getfield 59, 3) := by decide +kernel
theorem d_M_debt_111 : decode b_M_debt 111 = .ok (.iconst 4, 1) := by decide +kernel
theorem d_M_debt_112 : decode b_M_debt 112 = .ok (.aload_n 0, 1) := by decide +kernel
theorem d_M_debt_113 : decode b_M_debt 113 = .ok (.getfield 72, 3) := by decide +kernel
theorem d_M_debt_116 : decode b_M_debt 116 = .ok (.imul, 1) := by decide +kernel
theorem d_M_debt_117 : decode b_M_debt 117 = .ok (.iload_n 3, 1) := by decide +kernel
theorem d_M_debt_118 : decode b_M_debt 118 = .ok (.iastore, 1) := by decide +kernel
theorem d_M_debt_119 : decode b_M_debt 119 = .ok (.aload_n 0, 1) := by decide +kernel
theorem d_M_debt_120 : decode b_M_debt 120 = .ok (.getfield 72, 3) := by decide +kernel
theorem d_M_debt_123 : decode b_M_debt 123 = .ok (.ireturn, 1) := by decide +kernel
abbrev b_M_debtorOf : ByteArray := prog_5_method_9_code
def y_M_debtorOf : MethodName := ⟨R_M, "debtorOf", "(II)I"⟩
def w_M_debtorOf : List Cond := .code y_M_debtorOf b_M_debtorOf 5 (some .int) :: BIG
theorem d_M_debtorOf_0 : decode b_M_debtorOf 0 = .ok (.iconst (-1), 1) := by decide +kernel
theorem d_M_debtorOf_1 : decode b_M_debtorOf 1 = .ok (.istore_n 3, 1) := by decide +kernel
theorem d_M_debtorOf_2 : decode b_M_debtorOf 2 = .ok (.iconst 0, 1) := by decide +kernel
theorem d_M_debtorOf_3 : decode b_M_debtorOf 3 = .ok (.istore 4, 2) := by decide +kernel
theorem d_M_debtorOf_5 : decode b_M_debtorOf 5 = .ok (.iload 4, 2) := by decide +kernel
theorem d_M_debtorOf_7 : decode b_M_debtorOf 7 = .ok (.aload_n 0, 1) := by decide +kernel
theorem d_M_debtorOf_8 : decode b_M_debtorOf 8 = .ok (.getfield 56, 3) := by decide +kernel
theorem d_M_debtorOf_11 : decode b_M_debtorOf 11 = .ok (.iload_n 1, 1) := by decide +kernel
theorem d_M_debtorOf_12 : decode b_M_debtorOf 12 = .ok (.iaload, 1) := by decide +kernel
theorem d_M_debtorOf_13 : decode b_M_debtorOf 13 = .ok (.if_icmp .ge 31, 3) := by decide +kernel
theorem d_M_debtorOf_16 : decode b_M_debtorOf 16 = .ok (.aload_n 0, 1) := by decide +kernel
theorem d_M_debtorOf_17 : decode b_M_debtorOf 17 = .ok (.getfield 59, 3) := by decide +kernel
theorem d_M_debtorOf_20 : decode b_M_debtorOf 20 = .ok (.iconst 4, 1) := by decide +kernel
theorem d_M_debtorOf_21 : decode b_M_debtorOf 21 = .ok (.iload_n 1, 1) := by decide +kernel
theorem d_M_debtorOf_22 : decode b_M_debtorOf 22 = .ok (.imul, 1) := by decide +kernel
theorem d_M_debtorOf_23 : decode b_M_debtorOf 23 = .ok (.iload 4, 2) := by decide +kernel
theorem d_M_debtorOf_25 : decode b_M_debtorOf 25 = .ok (.iadd, 1) := by decide +kernel
theorem d_M_debtorOf_26 : decode b_M_debtorOf 26 = .ok (.iaload, 1) := by decide +kernel
theorem d_M_debtorOf_27 : decode b_M_debtorOf 27 = .ok (.iload_n 2, 1) := by decide +kernel
theorem d_M_debtorOf_28 : decode b_M_debtorOf 28 = .ok (.if_icmp .ne 8, 3) := by decide +kernel
theorem d_M_debtorOf_31 : decode b_M_debtorOf 31 = .ok (.iload 4, 2) := by decide +kernel
theorem d_M_debtorOf_33 : decode b_M_debtorOf 33 = .ok (.goto 4, 3) := by decide +kernel
theorem d_M_debtorOf_36 : decode b_M_debtorOf 36 = .ok (.iload_n 3, 1) := by decide +kernel
theorem d_M_debtorOf_37 : decode b_M_debtorOf 37 = .ok (.istore_n 3, 1) := by decide +kernel
theorem d_M_debtorOf_38 : decode b_M_debtorOf 38 = .ok (.iinc 4 1, 3) := by decide +kernel
theorem d_M_debtorOf_41 : decode b_M_debtorOf 41 = .ok (.goto (-36), 3) := by decide +kernel
theorem d_M_debtorOf_44 : decode b_M_debtorOf 44 = .ok (.iload_n 3, 1) := by decide +kernel
theorem d_M_debtorOf_45 : decode b_M_debtorOf 45 = .ok (.ireturn, 1) := by decide +kernel
abbrev b_M_debtor : ByteArray := prog_5_method_10_code
def y_M_debtor : MethodName := ⟨R_M, "debtor", "(II)Z"⟩
def w_M_debtor : List Cond := .code y_M_debtor b_M_debtor 3 (some .boolean) :: BIG
theorem d_M_debtor_0 : decode b_M_debtor 0 = .ok (.aload_n 0, 1) := by decide +kernel
theorem d_M_debtor_1 : decode b_M_debtor 1 = .ok (.iconst 0, 1) := by decide +kernel
theorem d_M_debtor_2 : decode b_M_debtor 2 = .ok (.putfield 68, 3) := by decide +kernel
theorem d_M_debtor_5 : decode b_M_debtor 5 = .ok (.aload_n 0, 1) := by decide +kernel
theorem d_M_debtor_6 : decode b_M_debtor 6 = .ok (.iload_n 1, 1) := by decide +kernel
theorem d_M_debtor_7 : decode b_M_debtor 7 = .ok (.invokevirtual 96, 3) := by decide +kernel
theorem d_M_debtor_10 : decode b_M_debtor 10 = .ok (.ifCond .eq 38, 3) := by decide +kernel
theorem d_M_debtor_13 : decode b_M_debtor 13 = .ok (.iload_n 2, 1) := by decide +kernel
theorem d_M_debtor_14 : decode b_M_debtor 14 = .ok (.invokestatic 92, 3) := by decide +kernel
theorem d_M_debtor_17 : decode b_M_debtor 17 = .ok (.ifCond .eq 31, 3) := by decide +kernel
theorem d_M_debtor_20 : decode b_M_debtor 20 = .ok (.aload_n 0, 1) := by decide +kernel
theorem d_M_debtor_21 : decode b_M_debtor 21 = .ok (.getfield 19, 3) := by decide +kernel
theorem d_M_debtor_24 : decode b_M_debtor 24 = .ok (.iload_n 1, 1) := by decide +kernel
theorem d_M_debtor_25 : decode b_M_debtor 25 = .ok (.iaload, 1) := by decide +kernel
theorem d_M_debtor_26 : decode b_M_debtor 26 = .ok (.ifCond .ne 22, 3) := by decide +kernel
theorem d_M_debtor_29 : decode b_M_debtor 29 = .ok (.aload_n 0, 1) := by decide +kernel
theorem d_M_debtor_30 : decode b_M_debtor 30 = .ok (.getfield 56, 3) := by decide +kernel
theorem d_M_debtor_33 : decode b_M_debtor 33 = .ok (.iload_n 1, 1) := by decide +kernel
theorem d_M_debtor_34 : decode b_M_debtor 34 = .ok (.iaload, 1) := by decide +kernel
theorem d_M_debtor_35 : decode b_M_debtor 35 = .ok (.iconst 4, 1) := by decide +kernel
theorem d_M_debtor_36 : decode b_M_debtor 36 = .ok (.if_icmp .eq 12, 3) := by decide +kernel
theorem d_M_debtor_39 : decode b_M_debtor 39 = .ok (.aload_n 0, 1) := by decide +kernel
theorem d_M_debtor_40 : decode b_M_debtor 40 = .ok (.iload_n 1, 1) := by decide +kernel
theorem d_M_debtor_41 : decode b_M_debtor 41 = .ok (.iload_n 2, 1) := by decide +kernel
theorem d_M_debtor_42 : decode b_M_debtor 42 = .ok (.invokevirtual 99, 3) := by decide +kernel
theorem d_M_debtor_45 : decode b_M_debtor 45 = .ok (.ifCond .lt 5, 3) := by decide +kernel
theorem d_M_debtor_48 : decode b_M_debtor 48 = .ok (.iconst 0, 1) := by decide +kernel
theorem d_M_debtor_49 : decode b_M_debtor 49 = .ok (.ireturn, 1) := by decide +kernel
theorem d_M_debtor_50 : decode b_M_debtor 50 = .ok (.aload_n 0, 1) := by decide +kernel
theorem d_M_debtor_51 : decode b_M_debtor 51 = .ok (.getfield 59, 3) := by decide +kernel
theorem d_M_debtor_54 : decode b_M_debtor 54 = .ok (.iconst 4, 1) := by decide +kernel
theorem d_M_debtor_55 : decode b_M_debtor 55 = .ok (.iload_n 1, 1) := by decide +kernel
theorem d_M_debtor_56 : decode b_M_debtor 56 = .ok (.imul, 1) := by decide +kernel
theorem d_M_debtor_57 : decode b_M_debtor 57 = .ok (.aload_n 0, 1) := by decide +kernel
theorem d_M_debtor_58 : decode b_M_debtor 58 = .ok (.getfield 56, 3) := by decide +kernel
theorem d_M_debtor_61 : decode b_M_debtor 61 = .ok (.iload_n 1, 1) := by decide +kernel
theorem d_M_debtor_62 : decode b_M_debtor 62 = .ok (.iaload, 1) := by decide +kernel
theorem d_M_debtor_63 : decode b_M_debtor 63 = .ok (.iadd, 1) := by decide +kernel
theorem d_M_debtor_64 : decode b_M_debtor 64 = .ok (.iload_n 2, 1) := by decide +kernel
theorem d_M_debtor_65 : decode b_M_debtor 65 = .ok (.iastore, 1) := by decide +kernel
theorem d_M_debtor_66 : decode b_M_debtor 66 = .ok (.aload_n 0, 1) := by decide +kernel
theorem d_M_debtor_67 : decode b_M_debtor 67 = .ok (.getfield 56, 3) := by decide +kernel
theorem d_M_debtor_70 : decode b_M_debtor 70 = .ok (.iload_n 1, 1) := by decide +kernel
theorem d_M_debtor_71 : decode b_M_debtor 71 = .ok (.dup2, 1) := by decide +kernel
theorem d_M_debtor_72 : decode b_M_debtor 72 = .ok (.iaload, 1) := by decide +kernel
theorem d_M_debtor_73 : decode b_M_debtor 73 = .ok (.iconst 1, 1) := by decide +kernel
theorem d_M_debtor_74 : decode b_M_debtor 74 = .ok (.iadd, 1) := by decide +kernel
theorem d_M_debtor_75 : decode b_M_debtor 75 = .ok (.iastore, 1) := by decide +kernel
theorem d_M_debtor_76 : decode b_M_debtor 76 = .ok (.iconst 1, 1) := by decide +kernel
theorem d_M_debtor_77 : decode b_M_debtor 77 = .ok (.ireturn, 1) := by decide +kernel
abbrev b_M_notified : ByteArray := prog_5_method_11_code
def y_M_notified : MethodName := ⟨R_M, "notified", "(I)I"⟩
def w_M_notified : List Cond := .code y_M_notified b_M_notified 2 (some .int) :: BIG
theorem d_M_notified_0 : decode b_M_notified 0 = .ok (.aload_n 0, 1) := by decide +kernel
theorem d_M_notified_1 : decode b_M_notified 1 = .ok (.iload_n 1, 1) := by decide +kernel
theorem d_M_notified_2 : decode b_M_notified 2 = .ok (.invokevirtual 96, 3) := by decide +kernel
theorem d_M_notified_5 : decode b_M_notified 5 = .ok (.ifCond .ne 9, 3) := by decide +kernel
theorem d_M_notified_8 : decode b_M_notified 8 = .ok (.aload_n 0, 1) := by decide +kernel
theorem d_M_notified_9 : decode b_M_notified 9 = .ok (.iconst 1, 1) := by decide +kernel
theorem d_M_notified_10 : decode b_M_notified 10 = .ok (.invokevirtual 75, 3) := by decide +kernel
theorem d_M_notified_13 : decode b_M_notified 13 = .ok (.ireturn, 1) := by decide +kernel
theorem d_M_notified_14 : decode b_M_notified 14 = .ok (.aload_n 0, 1) := by decide +kernel
theorem d_M_notified_15 : decode b_M_notified 15 = .ok (.iconst 0, 1) := by decide +kernel
theorem d_M_notified_16 : decode b_M_notified 16 = .ok (.putfield 68, 3) := by decide +kernel
theorem d_M_notified_19 : decode b_M_notified 19 = .ok (.aload_n 0, 1) := by decide +kernel
theorem d_M_notified_20 : decode b_M_notified 20 = .ok (.getfield 19, 3) := by decide +kernel
theorem d_M_notified_23 : decode b_M_notified 23 = .ok (.iload_n 1, 1) := by decide +kernel
theorem d_M_notified_24 : decode b_M_notified 24 = .ok (.iaload, 1) := by decide +kernel
theorem d_M_notified_25 : decode b_M_notified 25 = .ok (.ifCond .ne 20, 3) := by decide +kernel
theorem d_M_notified_28 : decode b_M_notified 28 = .ok (.aload_n 0, 1) := by decide +kernel
theorem d_M_notified_29 : decode b_M_notified 29 = .ok (.getfield 79, 3) := by decide +kernel
theorem d_M_notified_32 : decode b_M_notified 32 = .ok (.aload_n 0, 1) := by decide +kernel
theorem d_M_notified_33 : decode b_M_notified 33 = .ok (.getfield 22, 3) := by decide +kernel
theorem d_M_notified_36 : decode b_M_notified 36 = .ok (.iload_n 1, 1) := by decide +kernel
theorem d_M_notified_37 : decode b_M_notified 37 = .ok (.iaload, 1) := by decide +kernel
theorem d_M_notified_38 : decode b_M_notified 38 = .ok (.sipush 1095, 3) := by decide +kernel
theorem d_M_notified_41 : decode b_M_notified 41 = .ok (.iadd, 1) := by decide +kernel
theorem d_M_notified_42 : decode b_M_notified 42 = .ok (.if_icmp .le 5, 3) := by decide +kernel
theorem d_M_notified_45 : decode b_M_notified 45 = .ok (.iconst 0, 1) := by decide +kernel
theorem d_M_notified_46 : decode b_M_notified 46 = .ok (.ireturn, 1) := by decide +kernel
theorem d_M_notified_47 : decode b_M_notified 47 = .ok (.aload_n 0, 1) := by decide +kernel
theorem d_M_notified_48 : decode b_M_notified 48 = .ok (.getfield 19, 3) := by decide +kernel
theorem d_M_notified_51 : decode b_M_notified 51 = .ok (.iload_n 1, 1) := by decide +kernel
theorem d_M_notified_52 : decode b_M_notified 52 = .ok (.iconst 1, 1) := by decide +kernel
theorem d_M_notified_53 : decode b_M_notified 53 = .ok (.iastore, 1) := by decide +kernel
theorem d_M_notified_54 : decode b_M_notified 54 = .ok (.aload_n 0, 1) := by decide +kernel
theorem d_M_notified_55 : decode b_M_notified 55 = .ok (.getfield 25, 3) := by decide +kernel
theorem d_M_notified_58 : decode b_M_notified 58 = .ok (.iload_n 1, 1) := by decide +kernel
theorem d_M_notified_59 : decode b_M_notified 59 = .ok (.aload_n 0, 1) := by decide +kernel
theorem d_M_notified_60 : decode b_M_notified 60 = .ok (.getfield 79, 3) := by decide +kernel
theorem d_M_notified_63 : decode b_M_notified 63 = .ok (.bipush 10, 2) := by decide +kernel
theorem d_M_notified_65 : decode b_M_notified 65 = .ok (.iadd, 1) := by decide +kernel
theorem d_M_notified_66 : decode b_M_notified 66 = .ok (.iastore, 1) := by decide +kernel
theorem d_M_notified_67 : decode b_M_notified 67 = .ok (.aload_n 0, 1) := by decide +kernel
theorem d_M_notified_68 : decode b_M_notified 68 = .ok (.getfield 41, 3) := by decide +kernel
theorem d_M_notified_71 : decode b_M_notified 71 = .ok (.iload_n 1, 1) := by decide +kernel
theorem d_M_notified_72 : decode b_M_notified 72 = .ok (.aload_n 0, 1) := by decide +kernel
theorem d_M_notified_73 : decode b_M_notified 73 = .ok (.getfield 25, 3) := by decide +kernel
theorem d_M_notified_76 : decode b_M_notified 76 = .ok (.iload_n 1, 1) := by decide +kernel
theorem d_M_notified_77 : decode b_M_notified 77 = .ok (.iaload, 1) := by decide +kernel
theorem d_M_notified_78 : decode b_M_notified 78 = .ok (.iastore, 1) := by decide +kernel
theorem d_M_notified_79 : decode b_M_notified 79 = .ok (.aload_n 0, 1) := by decide +kernel
theorem d_M_notified_80 : decode b_M_notified 80 = .ok (.getfield 25, 3) := by decide +kernel
theorem d_M_notified_83 : decode b_M_notified 83 = .ok (.iload_n 1, 1) := by decide +kernel
theorem d_M_notified_84 : decode b_M_notified 84 = .ok (.iaload, 1) := by decide +kernel
theorem d_M_notified_85 : decode b_M_notified 85 = .ok (.ireturn, 1) := by decide +kernel
abbrev b_M_daysOf : ByteArray := prog_5_method_12_code
def y_M_daysOf : MethodName := ⟨R_M, "daysOf", "(III)J"⟩
def w_M_daysOf : List Cond := .code y_M_daysOf b_M_daysOf 6 (some .long) :: BIG
theorem d_M_daysOf_0 : decode b_M_daysOf 0 = .ok (.aload_n 0, 1) := by decide +kernel
theorem d_M_daysOf_1 : decode b_M_daysOf 1 = .ok (.getfield 7, 3) := by decide +kernel
theorem d_M_daysOf_4 : decode b_M_daysOf 4 = .ok (.iload_n 1, 1) := by decide +kernel
theorem d_M_daysOf_5 : decode b_M_daysOf 5 = .ok (.iaload, 1) := by decide +kernel
theorem d_M_daysOf_6 : decode b_M_daysOf 6 = .ok (.iload_n 2, 1) := by decide +kernel
theorem d_M_daysOf_7 : decode b_M_daysOf 7 = .ok (.iconst 1, 1) := by decide +kernel
theorem d_M_daysOf_8 : decode b_M_daysOf 8 = .ok (.iadd, 1) := by decide +kernel
theorem d_M_daysOf_9 : decode b_M_daysOf 9 = .ok (.if_icmp .le 12, 3) := by decide +kernel
theorem d_M_daysOf_12 : decode b_M_daysOf 12 = .ok (.aload_n 0, 1) := by decide +kernel
theorem d_M_daysOf_13 : decode b_M_daysOf 13 = .ok (.getfield 7, 3) := by decide +kernel
theorem d_M_daysOf_16 : decode b_M_daysOf 16 = .ok (.iload_n 1, 1) := by decide +kernel
theorem d_M_daysOf_17 : decode b_M_daysOf 17 = .ok (.iaload, 1) := by decide +kernel
theorem d_M_daysOf_18 : decode b_M_daysOf 18 = .ok (.goto 6, 3) := by decide +kernel
theorem d_M_daysOf_21 : decode b_M_daysOf 21 = .ok (.iload_n 2, 1) := by decide +kernel
theorem d_M_daysOf_22 : decode b_M_daysOf 22 = .ok (.iconst 1, 1) := by decide +kernel
theorem d_M_daysOf_23 : decode b_M_daysOf 23 = .ok (.iadd, 1) := by decide +kernel
theorem d_M_daysOf_24 : decode b_M_daysOf 24 = .ok (.istore 4, 2) := by decide +kernel
theorem d_M_daysOf_26 : decode b_M_daysOf 26 = .ok (.iload_n 1, 1) := by decide +kernel
theorem d_M_daysOf_27 : decode b_M_daysOf 27 = .ok (.iconst 1, 1) := by decide +kernel
theorem d_M_daysOf_28 : decode b_M_daysOf 28 = .ok (.iadd, 1) := by decide +kernel
theorem d_M_daysOf_29 : decode b_M_daysOf 29 = .ok (.aload_n 0, 1) := by decide +kernel
theorem d_M_daysOf_30 : decode b_M_daysOf 30 = .ok (.getfield 83, 3) := by decide +kernel
theorem d_M_daysOf_33 : decode b_M_daysOf 33 = .ok (.if_icmp .ge 30, 3) := by decide +kernel
theorem d_M_daysOf_36 : decode b_M_daysOf 36 = .ok (.aload_n 0, 1) := by decide +kernel
theorem d_M_daysOf_37 : decode b_M_daysOf 37 = .ok (.getfield 7, 3) := by decide +kernel
theorem d_M_daysOf_40 : decode b_M_daysOf 40 = .ok (.iload_n 1, 1) := by decide +kernel
theorem d_M_daysOf_41 : decode b_M_daysOf 41 = .ok (.iconst 1, 1) := by decide +kernel
theorem d_M_daysOf_42 : decode b_M_daysOf 42 = .ok (.iadd, 1) := by decide +kernel
theorem d_M_daysOf_43 : decode b_M_daysOf 43 = .ok (.iaload, 1) := by decide +kernel
theorem d_M_daysOf_44 : decode b_M_daysOf 44 = .ok (.iconst 1, 1) := by decide +kernel
theorem d_M_daysOf_45 : decode b_M_daysOf 45 = .ok (.isub, 1) := by decide +kernel
theorem d_M_daysOf_46 : decode b_M_daysOf 46 = .ok (.iload_n 3, 1) := by decide +kernel
theorem d_M_daysOf_47 : decode b_M_daysOf 47 = .ok (.if_icmp .ge 16, 3) := by decide +kernel
theorem d_M_daysOf_50 : decode b_M_daysOf 50 = .ok (.aload_n 0, 1) := by decide +kernel
theorem d_M_daysOf_51 : decode b_M_daysOf 51 = .ok (.getfield 7, 3) := by decide +kernel
theorem d_M_daysOf_54 : decode b_M_daysOf 54 = .ok (.iload_n 1, 1) := by decide +kernel
theorem d_M_daysOf_55 : decode b_M_daysOf 55 = .ok (.iconst 1, 1) := by decide +kernel
theorem d_M_daysOf_56 : decode b_M_daysOf 56 = .ok (.iadd, 1) := by decide +kernel
theorem d_M_daysOf_57 : decode b_M_daysOf 57 = .ok (.iaload, 1) := by decide +kernel
theorem d_M_daysOf_58 : decode b_M_daysOf 58 = .ok (.iconst 1, 1) := by decide +kernel
theorem d_M_daysOf_59 : decode b_M_daysOf 59 = .ok (.isub, 1) := by decide +kernel
theorem d_M_daysOf_60 : decode b_M_daysOf 60 = .ok (.goto 4, 3) := by decide +kernel
theorem d_M_daysOf_63 : decode b_M_daysOf 63 = .ok (.iload_n 3, 1) := by decide +kernel
theorem d_M_daysOf_64 : decode b_M_daysOf 64 = .ok (.istore 5, 2) := by decide +kernel
theorem d_M_daysOf_66 : decode b_M_daysOf 66 = .ok (.iload 5, 2) := by decide +kernel
theorem d_M_daysOf_68 : decode b_M_daysOf 68 = .ok (.iload 4, 2) := by decide +kernel
theorem d_M_daysOf_70 : decode b_M_daysOf 70 = .ok (.if_icmp .ge 7, 3) := by decide +kernel
theorem d_M_daysOf_73 : decode b_M_daysOf 73 = .ok (.lconst 0, 1) := by decide +kernel
theorem d_M_daysOf_74 : decode b_M_daysOf 74 = .ok (.goto 11, 3) := by decide +kernel
theorem d_M_daysOf_77 : decode b_M_daysOf 77 = .ok (.iload 5, 2) := by decide +kernel
theorem d_M_daysOf_79 : decode b_M_daysOf 79 = .ok (.iload 4, 2) := by decide +kernel
theorem d_M_daysOf_81 : decode b_M_daysOf 81 = .ok (.isub, 1) := by decide +kernel
theorem d_M_daysOf_82 : decode b_M_daysOf 82 = .ok (.iconst 1, 1) := by decide +kernel
theorem d_M_daysOf_83 : decode b_M_daysOf 83 = .ok (.iadd, 1) := by decide +kernel
theorem d_M_daysOf_84 : decode b_M_daysOf 84 = .ok (.i2l, 1) := by decide +kernel
theorem d_M_daysOf_85 : decode b_M_daysOf 85 = .ok (.lreturn, 1) := by decide +kernel
abbrev b_M_running : ByteArray := prog_5_method_13_code
def y_M_running : MethodName := ⟨R_M, "running", "(I)J"⟩
def w_M_running : List Cond := .code y_M_running b_M_running 5 (some .long) :: BIG
theorem d_M_running_0 : decode b_M_running 0 = .ok (.lconst 0, 1) := by decide +kernel
theorem d_M_running_1 : decode b_M_running 1 = .ok (.lstore_n 2, 1) := by decide +kernel
theorem d_M_running_2 : decode b_M_running 2 = .ok (.iconst 0, 1) := by decide +kernel
theorem d_M_running_3 : decode b_M_running 3 = .ok (.istore 4, 2) := by decide +kernel
theorem d_M_running_5 : decode b_M_running 5 = .ok (.iload 4, 2) := by decide +kernel
theorem d_M_running_7 : decode b_M_running 7 = .ok (.aload_n 0, 1) := by decide +kernel
theorem d_M_running_8 : decode b_M_running 8 = .ok (.getfield 83, 3) := by decide +kernel
theorem d_M_running_11 : decode b_M_running 11 = .ok (.if_icmp .ge 67, 3) := by decide +kernel
theorem d_M_running_14 : decode b_M_running 14 = .ok (.aload_n 0, 1) := by decide +kernel
theorem d_M_running_15 : decode b_M_running 15 = .ok (.getfield 19, 3) := by decide +kernel
theorem d_M_running_18 : decode b_M_running 18 = .ok (.iload_n 1, 1) := by decide +kernel
theorem d_M_running_19 : decode b_M_running 19 = .ok (.iaload, 1) := by decide +kernel
theorem d_M_running_20 : decode b_M_running 20 = .ok (.iconst 1, 1) := by decide +kernel
theorem d_M_running_21 : decode b_M_running 21 = .ok (.if_icmp .ne 57, 3) := by decide +kernel
theorem d_M_running_24 : decode b_M_running 24 = .ok (.lload_n 2, 1) := by decide +kernel
theorem d_M_running_25 : decode b_M_running 25 = .ok (.aload_n 0, 1) := by decide +kernel
theorem d_M_running_26 : decode b_M_running 26 = .ok (.getfield 32, 3) := by decide +kernel
theorem d_M_running_29 : decode b_M_running 29 = .ok (.iload_n 1, 1) := by decide +kernel
theorem d_M_running_30 : decode b_M_running 30 = .ok (.laload, 1) := by decide +kernel
theorem d_M_running_31 : decode b_M_running 31 = .ok (.aload_n 0, 1) := by decide +kernel
theorem d_M_running_32 : decode b_M_running 32 = .ok (.iload 4, 2) := by decide +kernel
theorem d_M_running_34 : decode b_M_running 34 = .ok (.aload_n 0, 1) := by decide +kernel
theorem d_M_running_35 : decode b_M_running 35 = .ok (.getfield 41, 3) := by decide +kernel
theorem d_M_running_38 : decode b_M_running 38 = .ok (.iload_n 1, 1) := by decide +kernel
theorem d_M_running_39 : decode b_M_running 39 = .ok (.iaload, 1) := by decide +kernel
theorem d_M_running_40 : decode b_M_running 40 = .ok (.aload_n 0, 1) := by decide +kernel
theorem d_M_running_41 : decode b_M_running 41 = .ok (.getfield 79, 3) := by decide +kernel
theorem d_M_running_44 : decode b_M_running 44 = .ok (.invokevirtual 103, 3) := by decide +kernel
theorem d_M_running_47 : decode b_M_running 47 = .ok (.lmul, 1) := by decide +kernel
theorem d_M_running_48 : decode b_M_running 48 = .ok (.aload_n 0, 1) := by decide +kernel
theorem d_M_running_49 : decode b_M_running 49 = .ok (.getfield 13, 3) := by decide +kernel
theorem d_M_running_52 : decode b_M_running 52 = .ok (.iload 4, 2) := by decide +kernel
theorem d_M_running_54 : decode b_M_running 54 = .ok (.iaload, 1) := by decide +kernel
theorem d_M_running_55 : decode b_M_running 55 = .ok (.i2l, 1) := by decide +kernel
theorem d_M_running_56 : decode b_M_running 56 = .ok (.lmul, 1) := by decide +kernel
theorem d_M_running_57 : decode b_M_running 57 = .ok (.aload_n 0, 1) := by decide +kernel
theorem d_M_running_58 : decode b_M_running 58 = .ok (.getfield 16, 3) := by decide +kernel
theorem d_M_running_61 : decode b_M_running 61 = .ok (.iload 4, 2) := by decide +kernel
theorem d_M_running_63 : decode b_M_running 63 = .ok (.iaload, 1) := by decide +kernel
theorem d_M_running_64 : decode b_M_running 64 = .ok (.i2l, 1) := by decide +kernel
theorem d_M_running_65 : decode b_M_running 65 = .ok (.ldc2_w 107, 3) := by decide +kernel
theorem d_M_running_68 : decode b_M_running 68 = .ok (.lmul, 1) := by decide +kernel
theorem d_M_running_69 : decode b_M_running 69 = .ok (.ldiv, 1) := by decide +kernel
theorem d_M_running_70 : decode b_M_running 70 = .ok (.ladd, 1) := by decide +kernel
theorem d_M_running_71 : decode b_M_running 71 = .ok (.lstore_n 2, 1) := by decide +kernel
theorem d_M_running_72 : decode b_M_running 72 = .ok (.iinc 4 1, 3) := by decide +kernel
theorem d_M_running_75 : decode b_M_running 75 = .ok (.goto (-70), 3) := by decide +kernel
theorem d_M_running_78 : decode b_M_running 78 = .ok (.lload_n 2, 1) := by decide +kernel
theorem d_M_running_79 : decode b_M_running 79 = .ok (.lreturn, 1) := by decide +kernel
abbrev b_M_fix : ByteArray := prog_5_method_14_code
def y_M_fix : MethodName := ⟨R_M, "fix", "(I)V"⟩
def w_M_fix : List Cond := .code y_M_fix b_M_fix 2 none :: BIG
theorem d_M_fix_0 : decode b_M_fix 0 = .ok (.aload_n 0, 1) := by decide +kernel
theorem d_M_fix_1 : decode b_M_fix 1 = .ok (.getfield 38, 3) := by decide +kernel
theorem d_M_fix_4 : decode b_M_fix 4 = .ok (.iload_n 1, 1) := by decide +kernel
theorem d_M_fix_5 : decode b_M_fix 5 = .ok (.dup2, 1) := by decide +kernel
theorem d_M_fix_6 : decode b_M_fix 6 = .ok (.laload, 1) := by decide +kernel
theorem d_M_fix_7 : decode b_M_fix 7 = .ok (.aload_n 0, 1) := by decide +kernel
theorem d_M_fix_8 : decode b_M_fix 8 = .ok (.iload_n 1, 1) := by decide +kernel
theorem d_M_fix_9 : decode b_M_fix 9 = .ok (.invokevirtual 109, 3) := by decide +kernel
theorem d_M_fix_12 : decode b_M_fix 12 = .ok (.ladd, 1) := by decide +kernel
theorem d_M_fix_13 : decode b_M_fix 13 = .ok (.lastore, 1) := by decide +kernel
theorem d_M_fix_14 : decode b_M_fix 14 = .ok (.aload_n 0, 1) := by decide +kernel
theorem d_M_fix_15 : decode b_M_fix 15 = .ok (.getfield 41, 3) := by decide +kernel
theorem d_M_fix_18 : decode b_M_fix 18 = .ok (.iload_n 1, 1) := by decide +kernel
theorem d_M_fix_19 : decode b_M_fix 19 = .ok (.aload_n 0, 1) := by decide +kernel
theorem d_M_fix_20 : decode b_M_fix 20 = .ok (.getfield 41, 3) := by decide +kernel
theorem d_M_fix_23 : decode b_M_fix 23 = .ok (.iload_n 1, 1) := by decide +kernel
theorem d_M_fix_24 : decode b_M_fix 24 = .ok (.iaload, 1) := by decide +kernel
theorem d_M_fix_25 : decode b_M_fix 25 = .ok (.aload_n 0, 1) := by decide +kernel
theorem d_M_fix_26 : decode b_M_fix 26 = .ok (.getfield 79, 3) := by decide +kernel
theorem d_M_fix_29 : decode b_M_fix 29 = .ok (.if_icmp .le 12, 3) := by decide +kernel
theorem d_M_fix_32 : decode b_M_fix 32 = .ok (.aload_n 0, 1) := by decide +kernel
theorem d_M_fix_33 : decode b_M_fix 33 = .ok (.getfield 41, 3) := by decide +kernel
theorem d_M_fix_36 : decode b_M_fix 36 = .ok (.iload_n 1, 1) := by decide +kernel
theorem d_M_fix_37 : decode b_M_fix 37 = .ok (.iaload, 1) := by decide +kernel
theorem d_M_fix_38 : decode b_M_fix 38 = .ok (.goto 7, 3) := by decide +kernel
theorem d_M_fix_41 : decode b_M_fix 41 = .ok (.aload_n 0, 1) := by decide +kernel
theorem d_M_fix_42 : decode b_M_fix 42 = .ok (.getfield 79, 3) := by decide +kernel
theorem d_M_fix_45 : decode b_M_fix 45 = .ok (.iastore, 1) := by decide +kernel
theorem d_M_fix_46 : decode b_M_fix 46 = .ok (.return_, 1) := by decide +kernel
abbrev b_M_lose : ByteArray := prog_5_method_15_code
def y_M_lose : MethodName := ⟨R_M, "lose", "(II)J"⟩
def w_M_lose : List Cond := .code y_M_lose b_M_lose 5 (some .long) :: BIG
theorem d_M_lose_0 : decode b_M_lose 0 = .ok (.aload_n 0, 1) := by decide +kernel
theorem d_M_lose_1 : decode b_M_lose 1 = .ok (.getfield 32, 3) := by decide +kernel
theorem d_M_lose_4 : decode b_M_lose 4 = .ok (.iload_n 1, 1) := by decide +kernel
theorem d_M_lose_5 : decode b_M_lose 5 = .ok (.laload, 1) := by decide +kernel
theorem d_M_lose_6 : decode b_M_lose 6 = .ok (.lstore_n 3, 1) := by decide +kernel
theorem d_M_lose_7 : decode b_M_lose 7 = .ok (.aload_n 0, 1) := by decide +kernel
theorem d_M_lose_8 : decode b_M_lose 8 = .ok (.getfield 35, 3) := by decide +kernel
theorem d_M_lose_11 : decode b_M_lose 11 = .ok (.iload_n 1, 1) := by decide +kernel
theorem d_M_lose_12 : decode b_M_lose 12 = .ok (.lload_n 3, 1) := by decide +kernel
theorem d_M_lose_13 : decode b_M_lose 13 = .ok (.lastore, 1) := by decide +kernel
theorem d_M_lose_14 : decode b_M_lose 14 = .ok (.aload_n 0, 1) := by decide +kernel
theorem d_M_lose_15 : decode b_M_lose 15 = .ok (.getfield 32, 3) := by decide +kernel
theorem d_M_lose_18 : decode b_M_lose 18 = .ok (.iload_n 1, 1) := by decide +kernel
theorem d_M_lose_19 : decode b_M_lose 19 = .ok (.lconst 0, 1) := by decide +kernel
theorem d_M_lose_20 : decode b_M_lose 20 = .ok (.lastore, 1) := by decide +kernel
theorem d_M_lose_21 : decode b_M_lose 21 = .ok (.aload_n 0, 1) := by decide +kernel
theorem d_M_lose_22 : decode b_M_lose 22 = .ok (.getfield 19, 3) := by decide +kernel
theorem d_M_lose_25 : decode b_M_lose 25 = .ok (.iload_n 1, 1) := by decide +kernel
theorem d_M_lose_26 : decode b_M_lose 26 = .ok (.iload_n 2, 1) := by decide +kernel
theorem d_M_lose_27 : decode b_M_lose 27 = .ok (.iastore, 1) := by decide +kernel
theorem d_M_lose_28 : decode b_M_lose 28 = .ok (.lload_n 3, 1) := by decide +kernel
theorem d_M_lose_29 : decode b_M_lose 29 = .ok (.lreturn, 1) := by decide +kernel
abbrev b_M_payOf : ByteArray := prog_5_method_16_code
def y_M_payOf : MethodName := ⟨R_M, "payOf", "(IIJ)J"⟩
def w_M_payOf : List Cond := .code y_M_payOf b_M_payOf 11 (some .long) :: BIG
theorem d_M_payOf_0 : decode b_M_payOf 0 = .ok (.aload_n 0, 1) := by decide +kernel
theorem d_M_payOf_1 : decode b_M_payOf 1 = .ok (.iload_n 1, 1) := by decide +kernel
theorem d_M_payOf_2 : decode b_M_payOf 2 = .ok (.invokevirtual 113, 3) := by decide +kernel
theorem d_M_payOf_5 : decode b_M_payOf 5 = .ok (.lload_n 3, 1) := by decide +kernel
theorem d_M_payOf_6 : decode b_M_payOf 6 = .ok (.aload_n 0, 1) := by decide +kernel
theorem d_M_payOf_7 : decode b_M_payOf 7 = .ok (.getfield 38, 3) := by decide +kernel
theorem d_M_payOf_10 : decode b_M_payOf 10 = .ok (.iload_n 1, 1) := by decide +kernel
theorem d_M_payOf_11 : decode b_M_payOf 11 = .ok (.laload, 1) := by decide +kernel
theorem d_M_payOf_12 : decode b_M_payOf 12 = .ok (.lcmp, 1) := by decide +kernel
theorem d_M_payOf_13 : decode b_M_payOf 13 = .ok (.ifCond .ge 7, 3) := by decide +kernel
theorem d_M_payOf_16 : decode b_M_payOf 16 = .ok (.lload_n 3, 1) := by decide +kernel
theorem d_M_payOf_17 : decode b_M_payOf 17 = .ok (.goto 9, 3) := by decide +kernel
theorem d_M_payOf_20 : decode b_M_payOf 20 = .ok (.aload_n 0, 1) := by decide +kernel
theorem d_M_payOf_21 : decode b_M_payOf 21 = .ok (.getfield 38, 3) := by decide +kernel
theorem d_M_payOf_24 : decode b_M_payOf 24 = .ok (.iload_n 1, 1) := by decide +kernel
theorem d_M_payOf_25 : decode b_M_payOf 25 = .ok (.laload, 1) := by decide +kernel
theorem d_M_payOf_26 : decode b_M_payOf 26 = .ok (.lstore 5, 2) := by decide +kernel
theorem d_M_payOf_28 : decode b_M_payOf 28 = .ok (.aload_n 0, 1) := by decide +kernel
theorem d_M_payOf_29 : decode b_M_payOf 29 = .ok (.getfield 38, 3) := by decide +kernel
theorem d_M_payOf_32 : decode b_M_payOf 32 = .ok (.iload_n 1, 1) := by decide +kernel
theorem d_M_payOf_33 : decode b_M_payOf 33 = .ok (.dup2, 1) := by decide +kernel
theorem d_M_payOf_34 : decode b_M_payOf 34 = .ok (.laload, 1) := by decide +kernel
theorem d_M_payOf_35 : decode b_M_payOf 35 = .ok (.lload 5, 2) := by decide +kernel
theorem d_M_payOf_37 : decode b_M_payOf 37 = .ok (.lsub, 1) := by decide +kernel
theorem d_M_payOf_38 : decode b_M_payOf 38 = .ok (.lastore, 1) := by decide +kernel
theorem d_M_payOf_39 : decode b_M_payOf 39 = .ok (.aload_n 0, 1) := by decide +kernel
theorem d_M_payOf_40 : decode b_M_payOf 40 = .ok (.getfield 44, 3) := by decide +kernel
theorem d_M_payOf_43 : decode b_M_payOf 43 = .ok (.iload_n 1, 1) := by decide +kernel
theorem d_M_payOf_44 : decode b_M_payOf 44 = .ok (.dup2, 1) := by decide +kernel
theorem d_M_payOf_45 : decode b_M_payOf 45 = .ok (.laload, 1) := by decide +kernel
theorem d_M_payOf_46 : decode b_M_payOf 46 = .ok (.lload 5, 2) := by decide +kernel
theorem d_M_payOf_48 : decode b_M_payOf 48 = .ok (.ladd, 1) := by decide +kernel
theorem d_M_payOf_49 : decode b_M_payOf 49 = .ok (.lastore, 1) := by decide +kernel
theorem d_M_payOf_50 : decode b_M_payOf 50 = .ok (.lload_n 3, 1) := by decide +kernel
theorem d_M_payOf_51 : decode b_M_payOf 51 = .ok (.lload 5, 2) := by decide +kernel
theorem d_M_payOf_53 : decode b_M_payOf 53 = .ok (.lsub, 1) := by decide +kernel
theorem d_M_payOf_54 : decode b_M_payOf 54 = .ok (.aload_n 0, 1) := by decide +kernel
theorem d_M_payOf_55 : decode b_M_payOf 55 = .ok (.getfield 32, 3) := by decide +kernel
theorem d_M_payOf_58 : decode b_M_payOf 58 = .ok (.iload_n 1, 1) := by decide +kernel
theorem d_M_payOf_59 : decode b_M_payOf 59 = .ok (.laload, 1) := by decide +kernel
theorem d_M_payOf_60 : decode b_M_payOf 60 = .ok (.lcmp, 1) := by decide +kernel
theorem d_M_payOf_61 : decode b_M_payOf 61 = .ok (.ifCond .ge 10, 3) := by decide +kernel
theorem d_M_payOf_64 : decode b_M_payOf 64 = .ok (.lload_n 3, 1) := by decide +kernel
theorem d_M_payOf_65 : decode b_M_payOf 65 = .ok (.lload 5, 2) := by decide +kernel
theorem d_M_payOf_67 : decode b_M_payOf 67 = .ok (.lsub, 1) := by decide +kernel
theorem d_M_payOf_68 : decode b_M_payOf 68 = .ok (.goto 9, 3) := by decide +kernel
theorem d_M_payOf_71 : decode b_M_payOf 71 = .ok (.aload_n 0, 1) := by decide +kernel
theorem d_M_payOf_72 : decode b_M_payOf 72 = .ok (.getfield 32, 3) := by decide +kernel
theorem d_M_payOf_75 : decode b_M_payOf 75 = .ok (.iload_n 1, 1) := by decide +kernel
theorem d_M_payOf_76 : decode b_M_payOf 76 = .ok (.laload, 1) := by decide +kernel
theorem d_M_payOf_77 : decode b_M_payOf 77 = .ok (.lstore 7, 2) := by decide +kernel
theorem d_M_payOf_79 : decode b_M_payOf 79 = .ok (.aload_n 0, 1) := by decide +kernel
theorem d_M_payOf_80 : decode b_M_payOf 80 = .ok (.getfield 32, 3) := by decide +kernel
theorem d_M_payOf_83 : decode b_M_payOf 83 = .ok (.iload_n 1, 1) := by decide +kernel
theorem d_M_payOf_84 : decode b_M_payOf 84 = .ok (.dup2, 1) := by decide +kernel
theorem d_M_payOf_85 : decode b_M_payOf 85 = .ok (.laload, 1) := by decide +kernel
theorem d_M_payOf_86 : decode b_M_payOf 86 = .ok (.lload 7, 2) := by decide +kernel
theorem d_M_payOf_88 : decode b_M_payOf 88 = .ok (.lsub, 1) := by decide +kernel
theorem d_M_payOf_89 : decode b_M_payOf 89 = .ok (.lastore, 1) := by decide +kernel
theorem d_M_payOf_90 : decode b_M_payOf 90 = .ok (.aload_n 0, 1) := by decide +kernel
theorem d_M_payOf_91 : decode b_M_payOf 91 = .ok (.getfield 62, 3) := by decide +kernel
theorem d_M_payOf_94 : decode b_M_payOf 94 = .ok (.iconst 4, 1) := by decide +kernel
theorem d_M_payOf_95 : decode b_M_payOf 95 = .ok (.iload_n 1, 1) := by decide +kernel
theorem d_M_payOf_96 : decode b_M_payOf 96 = .ok (.imul, 1) := by decide +kernel
theorem d_M_payOf_97 : decode b_M_payOf 97 = .ok (.aload_n 0, 1) := by decide +kernel
theorem d_M_payOf_98 : decode b_M_payOf 98 = .ok (.iload_n 1, 1) := by decide +kernel
theorem d_M_payOf_99 : decode b_M_payOf 99 = .ok (.iload_n 2, 1) := by decide +kernel
theorem d_M_payOf_100 : decode b_M_payOf 100 = .ok (.invokevirtual 99, 3) := by decide +kernel
theorem d_M_payOf_103 : decode b_M_payOf 103 = .ok (.iadd, 1) := by decide +kernel
theorem d_M_payOf_104 : decode b_M_payOf 104 = .ok (.dup2, 1) := by decide +kernel
theorem d_M_payOf_105 : decode b_M_payOf 105 = .ok (.laload, 1) := by decide +kernel
theorem d_M_payOf_106 : decode b_M_payOf 106 = .ok (.lload 7, 2) := by decide +kernel
theorem d_M_payOf_108 : decode b_M_payOf 108 = .ok (.ladd, 1) := by decide +kernel
theorem d_M_payOf_109 : decode b_M_payOf 109 = .ok (.lastore, 1) := by decide +kernel
theorem d_M_payOf_110 : decode b_M_payOf 110 = .ok (.aload_n 0, 1) := by decide +kernel
theorem d_M_payOf_111 : decode b_M_payOf 111 = .ok (.getfield 38, 3) := by decide +kernel
theorem d_M_payOf_114 : decode b_M_payOf 114 = .ok (.iload_n 1, 1) := by decide +kernel
theorem d_M_payOf_115 : decode b_M_payOf 115 = .ok (.laload, 1) := by decide +kernel
theorem d_M_payOf_116 : decode b_M_payOf 116 = .ok (.lconst 0, 1) := by decide +kernel
theorem d_M_payOf_117 : decode b_M_payOf 117 = .ok (.lcmp, 1) := by decide +kernel
theorem d_M_payOf_118 : decode b_M_payOf 118 = .ok (.ifCond .ne 24, 3) := by decide +kernel
theorem d_M_payOf_121 : decode b_M_payOf 121 = .ok (.aload_n 0, 1) := by decide +kernel
theorem d_M_payOf_122 : decode b_M_payOf 122 = .ok (.getfield 32, 3) := by decide +kernel
theorem d_M_payOf_125 : decode b_M_payOf 125 = .ok (.iload_n 1, 1) := by decide +kernel
theorem d_M_payOf_126 : decode b_M_payOf 126 = .ok (.laload, 1) := by decide +kernel
theorem d_M_payOf_127 : decode b_M_payOf 127 = .ok (.lconst 0, 1) := by decide +kernel
theorem d_M_payOf_128 : decode b_M_payOf 128 = .ok (.lcmp, 1) := by decide +kernel
theorem d_M_payOf_129 : decode b_M_payOf 129 = .ok (.ifCond .ne 13, 3) := by decide +kernel
theorem d_M_payOf_132 : decode b_M_payOf 132 = .ok (.aload_n 0, 1) := by decide +kernel
theorem d_M_payOf_133 : decode b_M_payOf 133 = .ok (.getfield 19, 3) := by decide +kernel
theorem d_M_payOf_136 : decode b_M_payOf 136 = .ok (.iload_n 1, 1) := by decide +kernel
theorem d_M_payOf_137 : decode b_M_payOf 137 = .ok (.iconst 4, 1) := by decide +kernel
theorem d_M_payOf_138 : decode b_M_payOf 138 = .ok (.iastore, 1) := by decide +kernel
theorem d_M_payOf_139 : decode b_M_payOf 139 = .ok (.goto 36, 3) := by decide +kernel
theorem d_M_payOf_142 : decode b_M_payOf 142 = .ok (.aload_n 0, 1) := by decide +kernel
theorem d_M_payOf_143 : decode b_M_payOf 143 = .ok (.getfield 38, 3) := by decide +kernel
theorem d_M_payOf_146 : decode b_M_payOf 146 = .ok (.iload_n 1, 1) := by decide +kernel
theorem d_M_payOf_147 : decode b_M_payOf 147 = .ok (.laload, 1) := by decide +kernel
theorem d_M_payOf_148 : decode b_M_payOf 148 = .ok (.lconst 0, 1) := by decide +kernel
theorem d_M_payOf_149 : decode b_M_payOf 149 = .ok (.lcmp, 1) := by decide +kernel
theorem d_M_payOf_150 : decode b_M_payOf 150 = .ok (.ifCond .ne 25, 3) := by decide +kernel
theorem d_M_payOf_153 : decode b_M_payOf 153 = .ok (.aload_n 0, 1) := by decide +kernel
theorem d_M_payOf_154 : decode b_M_payOf 154 = .ok (.getfield 32, 3) := by decide +kernel
theorem d_M_payOf_157 : decode b_M_payOf 157 = .ok (.iload_n 1, 1) := by decide +kernel
theorem d_M_payOf_158 : decode b_M_payOf 158 = .ok (.laload, 1) := by decide +kernel
theorem d_M_payOf_159 : decode b_M_payOf 159 = .ok (.ldc2_w 117, 3) := by decide +kernel
theorem d_M_payOf_162 : decode b_M_payOf 162 = .ok (.lcmp, 1) := by decide +kernel
theorem d_M_payOf_163 : decode b_M_payOf 163 = .ok (.ifCond .gt 12, 3) := by decide +kernel
theorem d_M_payOf_166 : decode b_M_payOf 166 = .ok (.aload_n 0, 1) := by decide +kernel
theorem d_M_payOf_167 : decode b_M_payOf 167 = .ok (.iload_n 1, 1) := by decide +kernel
theorem d_M_payOf_168 : decode b_M_payOf 168 = .ok (.bipush 7, 2) := by decide +kernel
theorem d_M_payOf_170 : decode b_M_payOf 170 = .ok (.invokevirtual 119, 3) := by decide +kernel
theorem d_M_payOf_173 : decode b_M_payOf 173 = .ok (.lstore 9, 2) := by decide +kernel
theorem d_M_payOf_175 : decode b_M_payOf 175 = .ok (.lload_n 3, 1) := by decide +kernel
theorem d_M_payOf_176 : decode b_M_payOf 176 = .ok (.lload 5, 2) := by decide +kernel
theorem d_M_payOf_178 : decode b_M_payOf 178 = .ok (.lsub, 1) := by decide +kernel
theorem d_M_payOf_179 : decode b_M_payOf 179 = .ok (.lload 7, 2) := by decide +kernel
theorem d_M_payOf_181 : decode b_M_payOf 181 = .ok (.lsub, 1) := by decide +kernel
theorem d_M_payOf_182 : decode b_M_payOf 182 = .ok (.lreturn, 1) := by decide +kernel
abbrev b_M_pay : ByteArray := prog_5_method_17_code
def y_M_pay : MethodName := ⟨R_M, "pay", "(IJ)I"⟩
def w_M_pay : List Cond := .code y_M_pay b_M_pay 8 (some .int) :: BIG
theorem d_M_pay_0 : decode b_M_pay 0 = .ok (.iload_n 1, 1) := by decide +kernel
theorem d_M_pay_1 : decode b_M_pay 1 = .ok (.invokestatic 92, 3) := by decide +kernel
theorem d_M_pay_4 : decode b_M_pay 4 = .ok (.ifCond .eq 14, 3) := by decide +kernel
theorem d_M_pay_7 : decode b_M_pay 7 = .ok (.lload_n 2, 1) := by decide +kernel
theorem d_M_pay_8 : decode b_M_pay 8 = .ok (.lconst 1, 1) := by decide +kernel
theorem d_M_pay_9 : decode b_M_pay 9 = .ok (.ldc2_w 86, 3) := by decide +kernel
theorem d_M_pay_12 : decode b_M_pay 12 = .ok (.invokestatic 88, 3) := by decide +kernel
theorem d_M_pay_15 : decode b_M_pay 15 = .ok (.ifCond .ne 9, 3) := by decide +kernel
theorem d_M_pay_18 : decode b_M_pay 18 = .ok (.aload_n 0, 1) := by decide +kernel
theorem d_M_pay_19 : decode b_M_pay 19 = .ok (.iconst 1, 1) := by decide +kernel
theorem d_M_pay_20 : decode b_M_pay 20 = .ok (.invokevirtual 75, 3) := by decide +kernel
theorem d_M_pay_23 : decode b_M_pay 23 = .ok (.ireturn, 1) := by decide +kernel
theorem d_M_pay_24 : decode b_M_pay 24 = .ok (.aload_n 0, 1) := by decide +kernel
theorem d_M_pay_25 : decode b_M_pay 25 = .ok (.iconst 0, 1) := by decide +kernel
theorem d_M_pay_26 : decode b_M_pay 26 = .ok (.putfield 68, 3) := by decide +kernel
theorem d_M_pay_29 : decode b_M_pay 29 = .ok (.lload_n 2, 1) := by decide +kernel
theorem d_M_pay_30 : decode b_M_pay 30 = .ok (.lstore 4, 2) := by decide +kernel
theorem d_M_pay_32 : decode b_M_pay 32 = .ok (.iconst 0, 1) := by decide +kernel
theorem d_M_pay_33 : decode b_M_pay 33 = .ok (.istore 6, 2) := by decide +kernel
theorem d_M_pay_35 : decode b_M_pay 35 = .ok (.iconst 1, 1) := by decide +kernel
theorem d_M_pay_36 : decode b_M_pay 36 = .ok (.istore 7, 2) := by decide +kernel
theorem d_M_pay_38 : decode b_M_pay 38 = .ok (.iload 7, 2) := by decide +kernel
theorem d_M_pay_40 : decode b_M_pay 40 = .ok (.aload_n 0, 1) := by decide +kernel
theorem d_M_pay_41 : decode b_M_pay 41 = .ok (.getfield 72, 3) := by decide +kernel
theorem d_M_pay_44 : decode b_M_pay 44 = .ok (.if_icmp .gt 62, 3) := by decide +kernel
theorem d_M_pay_47 : decode b_M_pay 47 = .ok (.lload 4, 2) := by decide +kernel
theorem d_M_pay_49 : decode b_M_pay 49 = .ok (.lconst 0, 1) := by decide +kernel
theorem d_M_pay_50 : decode b_M_pay 50 = .ok (.lcmp, 1) := by decide +kernel
theorem d_M_pay_51 : decode b_M_pay 51 = .ok (.ifCond .le 49, 3) := by decide +kernel
theorem d_M_pay_54 : decode b_M_pay 54 = .ok (.aload_n 0, 1) := by decide +kernel
theorem d_M_pay_55 : decode b_M_pay 55 = .ok (.iload 7, 2) := by decide +kernel
theorem d_M_pay_57 : decode b_M_pay 57 = .ok (.iload_n 1, 1) := by decide +kernel
theorem d_M_pay_58 : decode b_M_pay 58 = .ok (.invokevirtual 99, 3) := by decide +kernel
theorem d_M_pay_61 : decode b_M_pay 61 = .ok (.ifCond .lt 39, 3) := by decide +kernel
theorem d_M_pay_64 : decode b_M_pay 64 = .ok (.aload_n 0, 1) := by decide +kernel
theorem d_M_pay_65 : decode b_M_pay 65 = .ok (.getfield 19, 3) := by decide +kernel
theorem d_M_pay_68 : decode b_M_pay 68 = .ok (.iload 7, 2) := by decide +kernel
theorem d_M_pay_70 : decode b_M_pay 70 = .ok (.iaload, 1) := by decide +kernel
theorem d_M_pay_71 : decode b_M_pay 71 = .ok (.iconst 1, 1) := by decide +kernel
theorem d_M_pay_72 : decode b_M_pay 72 = .ok (.if_icmp .eq 14, 3) := by decide +kernel
theorem d_M_pay_75 : decode b_M_pay 75 = .ok (.aload_n 0, 1) := by decide +kernel
theorem d_M_pay_76 : decode b_M_pay 76 = .ok (.getfield 19, 3) := by decide +kernel
theorem d_M_pay_79 : decode b_M_pay 79 = .ok (.iload 7, 2) := by decide +kernel
theorem d_M_pay_81 : decode b_M_pay 81 = .ok (.iaload, 1) := by decide +kernel
theorem d_M_pay_82 : decode b_M_pay 82 = .ok (.iconst 2, 1) := by decide +kernel
theorem d_M_pay_83 : decode b_M_pay 83 = .ok (.if_icmp .ne 17, 3) := by decide +kernel
theorem d_M_pay_86 : decode b_M_pay 86 = .ok (.aload_n 0, 1) := by decide +kernel
theorem d_M_pay_87 : decode b_M_pay 87 = .ok (.iload 7, 2) := by decide +kernel
theorem d_M_pay_89 : decode b_M_pay 89 = .ok (.iload_n 1, 1) := by decide +kernel
theorem d_M_pay_90 : decode b_M_pay 90 = .ok (.lload 4, 2) := by decide +kernel
theorem d_M_pay_92 : decode b_M_pay 92 = .ok (.invokevirtual 123, 3) := by decide +kernel
theorem d_M_pay_95 : decode b_M_pay 95 = .ok (.lstore 4, 2) := by decide +kernel
theorem d_M_pay_97 : decode b_M_pay 97 = .ok (.iinc 6 1, 3) := by decide +kernel
theorem d_M_pay_100 : decode b_M_pay 100 = .ok (.iinc 7 1, 3) := by decide +kernel
theorem d_M_pay_103 : decode b_M_pay 103 = .ok (.goto (-65), 3) := by decide +kernel
theorem d_M_pay_106 : decode b_M_pay 106 = .ok (.aload_n 0, 1) := by decide +kernel
theorem d_M_pay_107 : decode b_M_pay 107 = .ok (.getfield 65, 3) := by decide +kernel
theorem d_M_pay_110 : decode b_M_pay 110 = .ok (.iload_n 1, 1) := by decide +kernel
theorem d_M_pay_111 : decode b_M_pay 111 = .ok (.dup2, 1) := by decide +kernel
theorem d_M_pay_112 : decode b_M_pay 112 = .ok (.laload, 1) := by decide +kernel
theorem d_M_pay_113 : decode b_M_pay 113 = .ok (.lload 4, 2) := by decide +kernel
theorem d_M_pay_115 : decode b_M_pay 115 = .ok (.ladd, 1) := by decide +kernel
theorem d_M_pay_116 : decode b_M_pay 116 = .ok (.lastore, 1) := by decide +kernel
theorem d_M_pay_117 : decode b_M_pay 117 = .ok (.iload 6, 2) := by decide +kernel
theorem d_M_pay_119 : decode b_M_pay 119 = .ok (.ireturn, 1) := by decide +kernel
abbrev b_M_instalments : ByteArray := prog_5_method_18_code
def y_M_instalments : MethodName := ⟨R_M, "instalments", "(II)I"⟩
def w_M_instalments : List Cond := .code y_M_instalments b_M_instalments 3 (some .int) :: BIG
theorem d_M_instalments_0 : decode b_M_instalments 0 = .ok (.aload_n 0, 1) := by decide +kernel
theorem d_M_instalments_1 : decode b_M_instalments 1 = .ok (.iload_n 1, 1) := by decide +kernel
theorem d_M_instalments_2 : decode b_M_instalments 2 = .ok (.invokevirtual 96, 3) := by decide +kernel
theorem d_M_instalments_5 : decode b_M_instalments 5 = .ok (.ifCond .eq 17, 3) := by decide +kernel
theorem d_M_instalments_8 : decode b_M_instalments 8 = .ok (.iload_n 2, 1) := by decide +kernel
theorem d_M_instalments_9 : decode b_M_instalments 9 = .ok (.i2l, 1) := by decide +kernel
theorem d_M_instalments_10 : decode b_M_instalments 10 = .ok (.ldc2_w 127, 3) := by decide +kernel
theorem d_M_instalments_13 : decode b_M_instalments 13 = .ok (.ldc2_w 129, 3) := by decide +kernel
theorem d_M_instalments_16 : decode b_M_instalments 16 = .ok (.invokestatic 88, 3) := by decide +kernel
theorem d_M_instalments_19 : decode b_M_instalments 19 = .ok (.ifCond .ne 9, 3) := by decide +kernel
theorem d_M_instalments_22 : decode b_M_instalments 22 = .ok (.aload_n 0, 1) := by decide +kernel
theorem d_M_instalments_23 : decode b_M_instalments 23 = .ok (.iconst 1, 1) := by decide +kernel
theorem d_M_instalments_24 : decode b_M_instalments 24 = .ok (.invokevirtual 75, 3) := by decide +kernel
theorem d_M_instalments_27 : decode b_M_instalments 27 = .ok (.ireturn, 1) := by decide +kernel
theorem d_M_instalments_28 : decode b_M_instalments 28 = .ok (.aload_n 0, 1) := by decide +kernel
theorem d_M_instalments_29 : decode b_M_instalments 29 = .ok (.iconst 0, 1) := by decide +kernel
theorem d_M_instalments_30 : decode b_M_instalments 30 = .ok (.putfield 68, 3) := by decide +kernel
theorem d_M_instalments_33 : decode b_M_instalments 33 = .ok (.aload_n 0, 1) := by decide +kernel
theorem d_M_instalments_34 : decode b_M_instalments 34 = .ok (.getfield 19, 3) := by decide +kernel
theorem d_M_instalments_37 : decode b_M_instalments 37 = .ok (.iload_n 1, 1) := by decide +kernel
theorem d_M_instalments_38 : decode b_M_instalments 38 = .ok (.iaload, 1) := by decide +kernel
theorem d_M_instalments_39 : decode b_M_instalments 39 = .ok (.iconst 1, 1) := by decide +kernel
theorem d_M_instalments_40 : decode b_M_instalments 40 = .ok (.if_icmp .eq 5, 3) := by decide +kernel
theorem d_M_instalments_43 : decode b_M_instalments 43 = .ok (.iconst 0, 1) := by decide +kernel
theorem d_M_instalments_44 : decode b_M_instalments 44 = .ok (.ireturn, 1) := by decide +kernel
theorem d_M_instalments_45 : decode b_M_instalments 45 = .ok (.aload_n 0, 1) := by decide +kernel
theorem d_M_instalments_46 : decode b_M_instalments 46 = .ok (.iload_n 1, 1) := by decide +kernel
theorem d_M_instalments_47 : decode b_M_instalments 47 = .ok (.invokevirtual 113, 3) := by decide +kernel
theorem d_M_instalments_50 : decode b_M_instalments 50 = .ok (.aload_n 0, 1) := by decide +kernel
theorem d_M_instalments_51 : decode b_M_instalments 51 = .ok (.getfield 19, 3) := by decide +kernel
theorem d_M_instalments_54 : decode b_M_instalments 54 = .ok (.iload_n 1, 1) := by decide +kernel
theorem d_M_instalments_55 : decode b_M_instalments 55 = .ok (.iconst 2, 1) := by decide +kernel
theorem d_M_instalments_56 : decode b_M_instalments 56 = .ok (.iastore, 1) := by decide +kernel
theorem d_M_instalments_57 : decode b_M_instalments 57 = .ok (.aload_n 0, 1) := by decide +kernel
theorem d_M_instalments_58 : decode b_M_instalments 58 = .ok (.getfield 47, 3) := by decide +kernel
theorem d_M_instalments_61 : decode b_M_instalments 61 = .ok (.iload_n 1, 1) := by decide +kernel
theorem d_M_instalments_62 : decode b_M_instalments 62 = .ok (.iload_n 2, 1) := by decide +kernel
theorem d_M_instalments_63 : decode b_M_instalments 63 = .ok (.iastore, 1) := by decide +kernel
theorem d_M_instalments_64 : decode b_M_instalments 64 = .ok (.aload_n 0, 1) := by decide +kernel
theorem d_M_instalments_65 : decode b_M_instalments 65 = .ok (.getfield 50, 3) := by decide +kernel
theorem d_M_instalments_68 : decode b_M_instalments 68 = .ok (.iload_n 1, 1) := by decide +kernel
theorem d_M_instalments_69 : decode b_M_instalments 69 = .ok (.aload_n 0, 1) := by decide +kernel
theorem d_M_instalments_70 : decode b_M_instalments 70 = .ok (.getfield 79, 3) := by decide +kernel
theorem d_M_instalments_73 : decode b_M_instalments 73 = .ok (.iastore, 1) := by decide +kernel
theorem d_M_instalments_74 : decode b_M_instalments 74 = .ok (.aload_n 0, 1) := by decide +kernel
theorem d_M_instalments_75 : decode b_M_instalments 75 = .ok (.getfield 53, 3) := by decide +kernel
theorem d_M_instalments_78 : decode b_M_instalments 78 = .ok (.iload_n 1, 1) := by decide +kernel
theorem d_M_instalments_79 : decode b_M_instalments 79 = .ok (.aload_n 0, 1) := by decide +kernel
theorem d_M_instalments_80 : decode b_M_instalments 80 = .ok (.getfield 32, 3) := by decide +kernel
theorem d_M_instalments_83 : decode b_M_instalments 83 = .ok (.iload_n 1, 1) := by decide +kernel
theorem d_M_instalments_84 : decode b_M_instalments 84 = .ok (.laload, 1) := by decide +kernel
theorem d_M_instalments_85 : decode b_M_instalments 85 = .ok (.lastore, 1) := by decide +kernel
theorem d_M_instalments_86 : decode b_M_instalments 86 = .ok (.iconst 1, 1) := by decide +kernel
theorem d_M_instalments_87 : decode b_M_instalments 87 = .ok (.ireturn, 1) := by decide +kernel
abbrev b_M_appeal : ByteArray := prog_5_method_19_code
def y_M_appeal : MethodName := ⟨R_M, "appeal", "(I)I"⟩
def w_M_appeal : List Cond := .code y_M_appeal b_M_appeal 2 (some .int) :: BIG
theorem d_M_appeal_0 : decode b_M_appeal 0 = .ok (.aload_n 0, 1) := by decide +kernel
theorem d_M_appeal_1 : decode b_M_appeal 1 = .ok (.iload_n 1, 1) := by decide +kernel
theorem d_M_appeal_2 : decode b_M_appeal 2 = .ok (.invokevirtual 96, 3) := by decide +kernel
theorem d_M_appeal_5 : decode b_M_appeal 5 = .ok (.ifCond .ne 9, 3) := by decide +kernel
theorem d_M_appeal_8 : decode b_M_appeal 8 = .ok (.aload_n 0, 1) := by decide +kernel
theorem d_M_appeal_9 : decode b_M_appeal 9 = .ok (.iconst 1, 1) := by decide +kernel
theorem d_M_appeal_10 : decode b_M_appeal 10 = .ok (.invokevirtual 75, 3) := by decide +kernel
theorem d_M_appeal_13 : decode b_M_appeal 13 = .ok (.ireturn, 1) := by decide +kernel
theorem d_M_appeal_14 : decode b_M_appeal 14 = .ok (.aload_n 0, 1) := by decide +kernel
theorem d_M_appeal_15 : decode b_M_appeal 15 = .ok (.iconst 0, 1) := by decide +kernel
theorem d_M_appeal_16 : decode b_M_appeal 16 = .ok (.putfield 68, 3) := by decide +kernel
theorem d_M_appeal_19 : decode b_M_appeal 19 = .ok (.aload_n 0, 1) := by decide +kernel
theorem d_M_appeal_20 : decode b_M_appeal 20 = .ok (.getfield 19, 3) := by decide +kernel
theorem d_M_appeal_23 : decode b_M_appeal 23 = .ok (.iload_n 1, 1) := by decide +kernel
theorem d_M_appeal_24 : decode b_M_appeal 24 = .ok (.iaload, 1) := by decide +kernel
theorem d_M_appeal_25 : decode b_M_appeal 25 = .ok (.iconst 1, 1) := by decide +kernel
theorem d_M_appeal_26 : decode b_M_appeal 26 = .ok (.if_icmp .eq 15, 3) := by decide +kernel
theorem d_M_appeal_29 : decode b_M_appeal 29 = .ok (.aload_n 0, 1) := by decide +kernel
theorem d_M_appeal_30 : decode b_M_appeal 30 = .ok (.getfield 19, 3) := by decide +kernel
theorem d_M_appeal_33 : decode b_M_appeal 33 = .ok (.iload_n 1, 1) := by decide +kernel
theorem d_M_appeal_34 : decode b_M_appeal 34 = .ok (.iaload, 1) := by decide +kernel
theorem d_M_appeal_35 : decode b_M_appeal 35 = .ok (.iconst 2, 1) := by decide +kernel
theorem d_M_appeal_36 : decode b_M_appeal 36 = .ok (.if_icmp .eq 5, 3) := by decide +kernel
theorem d_M_appeal_39 : decode b_M_appeal 39 = .ok (.iconst 0, 1) := by decide +kernel
theorem d_M_appeal_40 : decode b_M_appeal 40 = .ok (.ireturn, 1) := by decide +kernel
theorem d_M_appeal_41 : decode b_M_appeal 41 = .ok (.aload_n 0, 1) := by decide +kernel
theorem d_M_appeal_42 : decode b_M_appeal 42 = .ok (.getfield 19, 3) := by decide +kernel
theorem d_M_appeal_45 : decode b_M_appeal 45 = .ok (.iload_n 1, 1) := by decide +kernel
theorem d_M_appeal_46 : decode b_M_appeal 46 = .ok (.iaload, 1) := by decide +kernel
theorem d_M_appeal_47 : decode b_M_appeal 47 = .ok (.iconst 1, 1) := by decide +kernel
theorem d_M_appeal_48 : decode b_M_appeal 48 = .ok (.if_icmp .ne 8, 3) := by decide +kernel
theorem d_M_appeal_51 : decode b_M_appeal 51 = .ok (.aload_n 0, 1) := by decide +kernel
theorem d_M_appeal_52 : decode b_M_appeal 52 = .ok (.iload_n 1, 1) := by decide +kernel
theorem d_M_appeal_53 : decode b_M_appeal 53 = .ok (.invokevirtual 113, 3) := by decide +kernel
theorem d_M_appeal_56 : decode b_M_appeal 56 = .ok (.aload_n 0, 1) := by decide +kernel
theorem d_M_appeal_57 : decode b_M_appeal 57 = .ok (.getfield 19, 3) := by decide +kernel
theorem d_M_appeal_60 : decode b_M_appeal 60 = .ok (.iload_n 1, 1) := by decide +kernel
theorem d_M_appeal_61 : decode b_M_appeal 61 = .ok (.iconst 3, 1) := by decide +kernel
theorem d_M_appeal_62 : decode b_M_appeal 62 = .ok (.iastore, 1) := by decide +kernel
theorem d_M_appeal_63 : decode b_M_appeal 63 = .ok (.iconst 1, 1) := by decide +kernel
theorem d_M_appeal_64 : decode b_M_appeal 64 = .ok (.ireturn, 1) := by decide +kernel
abbrev b_M_again : ByteArray := prog_5_method_20_code
def y_M_again : MethodName := ⟨R_M, "again", "(II)V"⟩
def w_M_again : List Cond := .code y_M_again b_M_again 3 none :: BIG
theorem d_M_again_0 : decode b_M_again 0 = .ok (.aload_n 0, 1) := by decide +kernel
theorem d_M_again_1 : decode b_M_again 1 = .ok (.getfield 19, 3) := by decide +kernel
theorem d_M_again_4 : decode b_M_again 4 = .ok (.iload_n 1, 1) := by decide +kernel
theorem d_M_again_5 : decode b_M_again 5 = .ok (.iconst 1, 1) := by decide +kernel
theorem d_M_again_6 : decode b_M_again 6 = .ok (.iastore, 1) := by decide +kernel
theorem d_M_again_7 : decode b_M_again 7 = .ok (.aload_n 0, 1) := by decide +kernel
theorem d_M_again_8 : decode b_M_again 8 = .ok (.getfield 41, 3) := by decide +kernel
theorem d_M_again_11 : decode b_M_again 11 = .ok (.iload_n 1, 1) := by decide +kernel
theorem d_M_again_12 : decode b_M_again 12 = .ok (.aload_n 0, 1) := by decide +kernel
theorem d_M_again_13 : decode b_M_again 13 = .ok (.getfield 25, 3) := by decide +kernel
theorem d_M_again_16 : decode b_M_again 16 = .ok (.iload_n 1, 1) := by decide +kernel
theorem d_M_again_17 : decode b_M_again 17 = .ok (.iaload, 1) := by decide +kernel
theorem d_M_again_18 : decode b_M_again 18 = .ok (.iload_n 2, 1) := by decide +kernel
theorem d_M_again_19 : decode b_M_again 19 = .ok (.if_icmp .le 12, 3) := by decide +kernel
theorem d_M_again_22 : decode b_M_again 22 = .ok (.aload_n 0, 1) := by decide +kernel
theorem d_M_again_23 : decode b_M_again 23 = .ok (.getfield 25, 3) := by decide +kernel
theorem d_M_again_26 : decode b_M_again 26 = .ok (.iload_n 1, 1) := by decide +kernel
theorem d_M_again_27 : decode b_M_again 27 = .ok (.iaload, 1) := by decide +kernel
theorem d_M_again_28 : decode b_M_again 28 = .ok (.goto 4, 3) := by decide +kernel
theorem d_M_again_31 : decode b_M_again 31 = .ok (.iload_n 2, 1) := by decide +kernel
theorem d_M_again_32 : decode b_M_again 32 = .ok (.iastore, 1) := by decide +kernel
theorem d_M_again_33 : decode b_M_again 33 = .ok (.return_, 1) := by decide +kernel
abbrev b_M_decide : ByteArray := prog_5_method_21_code
def y_M_decide : MethodName := ⟨R_M, "decide", "(IZ)J"⟩
def w_M_decide : List Cond := .code y_M_decide b_M_decide 3 (some .long) :: BIG
theorem d_M_decide_0 : decode b_M_decide 0 = .ok (.aload_n 0, 1) := by decide +kernel
theorem d_M_decide_1 : decode b_M_decide 1 = .ok (.iload_n 1, 1) := by decide +kernel
theorem d_M_decide_2 : decode b_M_decide 2 = .ok (.invokevirtual 96, 3) := by decide +kernel
theorem d_M_decide_5 : decode b_M_decide 5 = .ok (.ifCond .ne 10, 3) := by decide +kernel
theorem d_M_decide_8 : decode b_M_decide 8 = .ok (.aload_n 0, 1) := by decide +kernel
theorem d_M_decide_9 : decode b_M_decide 9 = .ok (.iconst 1, 1) := by decide +kernel
theorem d_M_decide_10 : decode b_M_decide 10 = .ok (.invokevirtual 75, 3) := by decide +kernel
theorem d_M_decide_13 : decode b_M_decide 13 = .ok (.i2l, 1) := by decide +kernel
theorem d_M_decide_14 : decode b_M_decide 14 = .ok (.lreturn, 1) := by decide +kernel
theorem d_M_decide_15 : decode b_M_decide 15 = .ok (.aload_n 0, 1) := by decide +kernel
theorem d_M_decide_16 : decode b_M_decide 16 = .ok (.iconst 0, 1) := by decide +kernel
theorem d_M_decide_17 : decode b_M_decide 17 = .ok (.putfield 68, 3) := by decide +kernel
theorem d_M_decide_20 : decode b_M_decide 20 = .ok (.aload_n 0, 1) := by decide +kernel
theorem d_M_decide_21 : decode b_M_decide 21 = .ok (.getfield 19, 3) := by decide +kernel
theorem d_M_decide_24 : decode b_M_decide 24 = .ok (.iload_n 1, 1) := by decide +kernel
theorem d_M_decide_25 : decode b_M_decide 25 = .ok (.iaload, 1) := by decide +kernel
theorem d_M_decide_26 : decode b_M_decide 26 = .ok (.iconst 3, 1) := by decide +kernel
theorem d_M_decide_27 : decode b_M_decide 27 = .ok (.if_icmp .eq 7, 3) := by decide +kernel
theorem d_M_decide_30 : decode b_M_decide 30 = .ok (.ldc2_w 131, 3) := by decide +kernel
theorem d_M_decide_33 : decode b_M_decide 33 = .ok (.lreturn, 1) := by decide +kernel
theorem d_M_decide_34 : decode b_M_decide 34 = .ok (.iload_n 2, 1) := by decide +kernel
theorem d_M_decide_35 : decode b_M_decide 35 = .ok (.ifCond .eq 10, 3) := by decide +kernel
theorem d_M_decide_38 : decode b_M_decide 38 = .ok (.aload_n 0, 1) := by decide +kernel
theorem d_M_decide_39 : decode b_M_decide 39 = .ok (.iload_n 1, 1) := by decide +kernel
theorem d_M_decide_40 : decode b_M_decide 40 = .ok (.iconst 5, 1) := by decide +kernel
theorem d_M_decide_41 : decode b_M_decide 41 = .ok (.invokevirtual 119, 3) := by decide +kernel
theorem d_M_decide_44 : decode b_M_decide 44 = .ok (.lreturn, 1) := by decide +kernel
theorem d_M_decide_45 : decode b_M_decide 45 = .ok (.aload_n 0, 1) := by decide +kernel
theorem d_M_decide_46 : decode b_M_decide 46 = .ok (.iload_n 1, 1) := by decide +kernel
theorem d_M_decide_47 : decode b_M_decide 47 = .ok (.aload_n 0, 1) := by decide +kernel
theorem d_M_decide_48 : decode b_M_decide 48 = .ok (.getfield 79, 3) := by decide +kernel
theorem d_M_decide_51 : decode b_M_decide 51 = .ok (.invokevirtual 133, 3) := by decide +kernel
theorem d_M_decide_54 : decode b_M_decide 54 = .ok (.lconst 0, 1) := by decide +kernel
theorem d_M_decide_55 : decode b_M_decide 55 = .ok (.lreturn, 1) := by decide +kernel
abbrev b_M_missedOn : ByteArray := prog_5_method_22_code
def y_M_missedOn : MethodName := ⟨R_M, "missedOn", "(I)I"⟩
def w_M_missedOn : List Cond := .code y_M_missedOn b_M_missedOn 3 (some .int) :: BIG
theorem d_M_missedOn_0 : decode b_M_missedOn 0 = .ok (.iconst 1, 1) := by decide +kernel
theorem d_M_missedOn_1 : decode b_M_missedOn 1 = .ok (.istore_n 2, 1) := by decide +kernel
theorem d_M_missedOn_2 : decode b_M_missedOn 2 = .ok (.iload_n 2, 1) := by decide +kernel
theorem d_M_missedOn_3 : decode b_M_missedOn 3 = .ok (.aload_n 0, 1) := by decide +kernel
theorem d_M_missedOn_4 : decode b_M_missedOn 4 = .ok (.getfield 47, 3) := by decide +kernel
theorem d_M_missedOn_7 : decode b_M_missedOn 7 = .ok (.iload_n 1, 1) := by decide +kernel
theorem d_M_missedOn_8 : decode b_M_missedOn 8 = .ok (.iaload, 1) := by decide +kernel
theorem d_M_missedOn_9 : decode b_M_missedOn 9 = .ok (.if_icmp .gt 57, 3) := by decide +kernel
theorem d_M_missedOn_12 : decode b_M_missedOn 12 = .ok (.aload_n 0, 1) := by decide +kernel
theorem d_M_missedOn_13 : decode b_M_missedOn 13 = .ok (.getfield 32, 3) := by decide +kernel
theorem d_M_missedOn_16 : decode b_M_missedOn 16 = .ok (.iload_n 1, 1) := by decide +kernel
theorem d_M_missedOn_17 : decode b_M_missedOn 17 = .ok (.laload, 1) := by decide +kernel
theorem d_M_missedOn_18 : decode b_M_missedOn 18 = .ok (.aload_n 0, 1) := by decide +kernel
theorem d_M_missedOn_19 : decode b_M_missedOn 19 = .ok (.getfield 53, 3) := by decide +kernel
theorem d_M_missedOn_22 : decode b_M_missedOn 22 = .ok (.iload_n 1, 1) := by decide +kernel
theorem d_M_missedOn_23 : decode b_M_missedOn 23 = .ok (.laload, 1) := by decide +kernel
theorem d_M_missedOn_24 : decode b_M_missedOn 24 = .ok (.aload_n 0, 1) := by decide +kernel
theorem d_M_missedOn_25 : decode b_M_missedOn 25 = .ok (.getfield 47, 3) := by decide +kernel
theorem d_M_missedOn_28 : decode b_M_missedOn 28 = .ok (.iload_n 1, 1) := by decide +kernel
theorem d_M_missedOn_29 : decode b_M_missedOn 29 = .ok (.iaload, 1) := by decide +kernel
theorem d_M_missedOn_30 : decode b_M_missedOn 30 = .ok (.iload_n 2, 1) := by decide +kernel
theorem d_M_missedOn_31 : decode b_M_missedOn 31 = .ok (.isub, 1) := by decide +kernel
theorem d_M_missedOn_32 : decode b_M_missedOn 32 = .ok (.i2l, 1) := by decide +kernel
theorem d_M_missedOn_33 : decode b_M_missedOn 33 = .ok (.lmul, 1) := by decide +kernel
theorem d_M_missedOn_34 : decode b_M_missedOn 34 = .ok (.aload_n 0, 1) := by decide +kernel
theorem d_M_missedOn_35 : decode b_M_missedOn 35 = .ok (.getfield 47, 3) := by decide +kernel
theorem d_M_missedOn_38 : decode b_M_missedOn 38 = .ok (.iload_n 1, 1) := by decide +kernel
theorem d_M_missedOn_39 : decode b_M_missedOn 39 = .ok (.iaload, 1) := by decide +kernel
theorem d_M_missedOn_40 : decode b_M_missedOn 40 = .ok (.i2l, 1) := by decide +kernel
theorem d_M_missedOn_41 : decode b_M_missedOn 41 = .ok (.ldiv, 1) := by decide +kernel
theorem d_M_missedOn_42 : decode b_M_missedOn 42 = .ok (.lcmp, 1) := by decide +kernel
theorem d_M_missedOn_43 : decode b_M_missedOn 43 = .ok (.ifCond .le 17, 3) := by decide +kernel
theorem d_M_missedOn_46 : decode b_M_missedOn 46 = .ok (.aload_n 0, 1) := by decide +kernel
theorem d_M_missedOn_47 : decode b_M_missedOn 47 = .ok (.getfield 50, 3) := by decide +kernel
theorem d_M_missedOn_50 : decode b_M_missedOn 50 = .ok (.iload_n 1, 1) := by decide +kernel
theorem d_M_missedOn_51 : decode b_M_missedOn 51 = .ok (.iaload, 1) := by decide +kernel
theorem d_M_missedOn_52 : decode b_M_missedOn 52 = .ok (.bipush 30, 2) := by decide +kernel
theorem d_M_missedOn_54 : decode b_M_missedOn 54 = .ok (.iload_n 2, 1) := by decide +kernel
theorem d_M_missedOn_55 : decode b_M_missedOn 55 = .ok (.imul, 1) := by decide +kernel
theorem d_M_missedOn_56 : decode b_M_missedOn 56 = .ok (.iadd, 1) := by decide +kernel
theorem d_M_missedOn_57 : decode b_M_missedOn 57 = .ok (.iconst 1, 1) := by decide +kernel
theorem d_M_missedOn_58 : decode b_M_missedOn 58 = .ok (.iadd, 1) := by decide +kernel
theorem d_M_missedOn_59 : decode b_M_missedOn 59 = .ok (.ireturn, 1) := by decide +kernel
theorem d_M_missedOn_60 : decode b_M_missedOn 60 = .ok (.iinc 2 1, 3) := by decide +kernel
theorem d_M_missedOn_63 : decode b_M_missedOn 63 = .ok (.goto (-61), 3) := by decide +kernel
theorem d_M_missedOn_66 : decode b_M_missedOn 66 = .ok (.ldc 137, 2) := by decide +kernel
theorem d_M_missedOn_68 : decode b_M_missedOn 68 = .ok (.ireturn, 1) := by decide +kernel
abbrev b_M_tick : ByteArray := prog_5_method_23_code
def y_M_tick : MethodName := ⟨R_M, "tick", "(I)I"⟩
def w_M_tick : List Cond := .code y_M_tick b_M_tick 6 (some .int) :: BIG
theorem d_M_tick_0 : decode b_M_tick 0 = .ok (.iload_n 1, 1) := by decide +kernel
theorem d_M_tick_1 : decode b_M_tick 1 = .ok (.i2l, 1) := by decide +kernel
theorem d_M_tick_2 : decode b_M_tick 2 = .ok (.aload_n 0, 1) := by decide +kernel
theorem d_M_tick_3 : decode b_M_tick 3 = .ok (.getfield 79, 3) := by decide +kernel
theorem d_M_tick_6 : decode b_M_tick 6 = .ok (.i2l, 1) := by decide +kernel
theorem d_M_tick_7 : decode b_M_tick 7 = .ok (.ldc2_w 138, 3) := by decide +kernel
theorem d_M_tick_10 : decode b_M_tick 10 = .ok (.invokestatic 88, 3) := by decide +kernel
theorem d_M_tick_13 : decode b_M_tick 13 = .ok (.ifCond .ne 9, 3) := by decide +kernel
theorem d_M_tick_16 : decode b_M_tick 16 = .ok (.aload_n 0, 1) := by decide +kernel
theorem d_M_tick_17 : decode b_M_tick 17 = .ok (.iconst 1, 1) := by decide +kernel
theorem d_M_tick_18 : decode b_M_tick 18 = .ok (.invokevirtual 75, 3) := by decide +kernel
theorem d_M_tick_21 : decode b_M_tick 21 = .ok (.ireturn, 1) := by decide +kernel
theorem d_M_tick_22 : decode b_M_tick 22 = .ok (.aload_n 0, 1) := by decide +kernel
theorem d_M_tick_23 : decode b_M_tick 23 = .ok (.iconst 0, 1) := by decide +kernel
theorem d_M_tick_24 : decode b_M_tick 24 = .ok (.putfield 68, 3) := by decide +kernel
theorem d_M_tick_27 : decode b_M_tick 27 = .ok (.iconst 0, 1) := by decide +kernel
theorem d_M_tick_28 : decode b_M_tick 28 = .ok (.istore_n 2, 1) := by decide +kernel
theorem d_M_tick_29 : decode b_M_tick 29 = .ok (.iconst 1, 1) := by decide +kernel
theorem d_M_tick_30 : decode b_M_tick 30 = .ok (.istore_n 3, 1) := by decide +kernel
theorem d_M_tick_31 : decode b_M_tick 31 = .ok (.iload_n 3, 1) := by decide +kernel
theorem d_M_tick_32 : decode b_M_tick 32 = .ok (.aload_n 0, 1) := by decide +kernel
theorem d_M_tick_33 : decode b_M_tick 33 = .ok (.getfield 72, 3) := by decide +kernel
theorem d_M_tick_36 : decode b_M_tick 36 = .ok (.if_icmp .gt 79, 3) := by decide +kernel
theorem d_M_tick_39 : decode b_M_tick 39 = .ok (.aload_n 0, 1) := by decide +kernel
theorem d_M_tick_40 : decode b_M_tick 40 = .ok (.getfield 19, 3) := by decide +kernel
theorem d_M_tick_43 : decode b_M_tick 43 = .ok (.iload_n 3, 1) := by decide +kernel
theorem d_M_tick_44 : decode b_M_tick 44 = .ok (.iaload, 1) := by decide +kernel
theorem d_M_tick_45 : decode b_M_tick 45 = .ok (.ifCond .ne 32, 3) := by decide +kernel
theorem d_M_tick_48 : decode b_M_tick 48 = .ok (.iload_n 1, 1) := by decide +kernel
theorem d_M_tick_49 : decode b_M_tick 49 = .ok (.aload_n 0, 1) := by decide +kernel
theorem d_M_tick_50 : decode b_M_tick 50 = .ok (.getfield 22, 3) := by decide +kernel
theorem d_M_tick_53 : decode b_M_tick 53 = .ok (.iload_n 3, 1) := by decide +kernel
theorem d_M_tick_54 : decode b_M_tick 54 = .ok (.iaload, 1) := by decide +kernel
theorem d_M_tick_55 : decode b_M_tick 55 = .ok (.sipush 1095, 3) := by decide +kernel
theorem d_M_tick_58 : decode b_M_tick 58 = .ok (.iadd, 1) := by decide +kernel
theorem d_M_tick_59 : decode b_M_tick 59 = .ok (.if_icmp .le 18, 3) := by decide +kernel
theorem d_M_tick_62 : decode b_M_tick 62 = .ok (.aload_n 0, 1) := by decide +kernel
theorem d_M_tick_63 : decode b_M_tick 63 = .ok (.iload_n 3, 1) := by decide +kernel
theorem d_M_tick_64 : decode b_M_tick 64 = .ok (.bipush 6, 2) := by decide +kernel
theorem d_M_tick_66 : decode b_M_tick 66 = .ok (.invokevirtual 119, 3) := by decide +kernel
theorem d_M_tick_69 : decode b_M_tick 69 = .ok (.lstore 4, 2) := by decide +kernel
theorem d_M_tick_71 : decode b_M_tick 71 = .ok (.iinc 2 1, 3) := by decide +kernel
theorem d_M_tick_74 : decode b_M_tick 74 = .ok (.goto 35, 3) := by decide +kernel
theorem d_M_tick_77 : decode b_M_tick 77 = .ok (.aload_n 0, 1) := by decide +kernel
theorem d_M_tick_78 : decode b_M_tick 78 = .ok (.getfield 19, 3) := by decide +kernel
theorem d_M_tick_81 : decode b_M_tick 81 = .ok (.iload_n 3, 1) := by decide +kernel
theorem d_M_tick_82 : decode b_M_tick 82 = .ok (.iaload, 1) := by decide +kernel
theorem d_M_tick_83 : decode b_M_tick 83 = .ok (.iconst 2, 1) := by decide +kernel
theorem d_M_tick_84 : decode b_M_tick 84 = .ok (.if_icmp .ne 25, 3) := by decide +kernel
theorem d_M_tick_87 : decode b_M_tick 87 = .ok (.aload_n 0, 1) := by decide +kernel
theorem d_M_tick_88 : decode b_M_tick 88 = .ok (.iload_n 3, 1) := by decide +kernel
theorem d_M_tick_89 : decode b_M_tick 89 = .ok (.invokevirtual 140, 3) := by decide +kernel
theorem d_M_tick_92 : decode b_M_tick 92 = .ok (.iload_n 1, 1) := by decide +kernel
theorem d_M_tick_93 : decode b_M_tick 93 = .ok (.if_icmp .gt 16, 3) := by decide +kernel
theorem d_M_tick_96 : decode b_M_tick 96 = .ok (.aload_n 0, 1) := by decide +kernel
theorem d_M_tick_97 : decode b_M_tick 97 = .ok (.iload_n 3, 1) := by decide +kernel
theorem d_M_tick_98 : decode b_M_tick 98 = .ok (.aload_n 0, 1) := by decide +kernel
theorem d_M_tick_99 : decode b_M_tick 99 = .ok (.iload_n 3, 1) := by decide +kernel
theorem d_M_tick_100 : decode b_M_tick 100 = .ok (.invokevirtual 140, 3) := by decide +kernel
theorem d_M_tick_103 : decode b_M_tick 103 = .ok (.invokevirtual 133, 3) := by decide +kernel
theorem d_M_tick_106 : decode b_M_tick 106 = .ok (.iinc 2 1, 3) := by decide +kernel
theorem d_M_tick_109 : decode b_M_tick 109 = .ok (.iinc 3 1, 3) := by decide +kernel
theorem d_M_tick_112 : decode b_M_tick 112 = .ok (.goto (-81), 3) := by decide +kernel
theorem d_M_tick_115 : decode b_M_tick 115 = .ok (.aload_n 0, 1) := by decide +kernel
theorem d_M_tick_116 : decode b_M_tick 116 = .ok (.iload_n 1, 1) := by decide +kernel
theorem d_M_tick_117 : decode b_M_tick 117 = .ok (.putfield 79, 3) := by decide +kernel
theorem d_M_tick_120 : decode b_M_tick 120 = .ok (.iload_n 2, 1) := by decide +kernel
theorem d_M_tick_121 : decode b_M_tick 121 = .ok (.ireturn, 1) := by decide +kernel
abbrev b_M_due : ByteArray := prog_5_method_24_code
def y_M_due : MethodName := ⟨R_M, "due", "(II)J"⟩
def w_M_due : List Cond := .code y_M_due b_M_due 3 (some .long) :: BIG
theorem d_M_due_0 : decode b_M_due 0 = .ok (.aload_n 0, 1) := by decide +kernel
theorem d_M_due_1 : decode b_M_due 1 = .ok (.iload_n 1, 1) := by decide +kernel
theorem d_M_due_2 : decode b_M_due 2 = .ok (.invokevirtual 96, 3) := by decide +kernel
theorem d_M_due_5 : decode b_M_due 5 = .ok (.ifCond .eq 15, 3) := by decide +kernel
theorem d_M_due_8 : decode b_M_due 8 = .ok (.iload_n 2, 1) := by decide +kernel
theorem d_M_due_9 : decode b_M_due 9 = .ok (.i2l, 1) := by decide +kernel
theorem d_M_due_10 : decode b_M_due 10 = .ok (.lconst 0, 1) := by decide +kernel
theorem d_M_due_11 : decode b_M_due 11 = .ok (.ldc2_w 143, 3) := by decide +kernel
theorem d_M_due_14 : decode b_M_due 14 = .ok (.invokestatic 88, 3) := by decide +kernel
theorem d_M_due_17 : decode b_M_due 17 = .ok (.ifCond .ne 10, 3) := by decide +kernel
theorem d_M_due_20 : decode b_M_due 20 = .ok (.aload_n 0, 1) := by decide +kernel
theorem d_M_due_21 : decode b_M_due 21 = .ok (.iconst 1, 1) := by decide +kernel
theorem d_M_due_22 : decode b_M_due 22 = .ok (.invokevirtual 75, 3) := by decide +kernel
theorem d_M_due_25 : decode b_M_due 25 = .ok (.i2l, 1) := by decide +kernel
theorem d_M_due_26 : decode b_M_due 26 = .ok (.lreturn, 1) := by decide +kernel
theorem d_M_due_27 : decode b_M_due 27 = .ok (.aload_n 0, 1) := by decide +kernel
theorem d_M_due_28 : decode b_M_due 28 = .ok (.iconst 0, 1) := by decide +kernel
theorem d_M_due_29 : decode b_M_due 29 = .ok (.putfield 68, 3) := by decide +kernel
theorem d_M_due_32 : decode b_M_due 32 = .ok (.iload_n 2, 1) := by decide +kernel
theorem d_M_due_33 : decode b_M_due 33 = .ok (.tableswitch 65 0 3 #[31, 38, 51, 58], 31) := by decide +kernel
theorem d_M_due_64 : decode b_M_due 64 = .ok (.aload_n 0, 1) := by decide +kernel
theorem d_M_due_65 : decode b_M_due 65 = .ok (.getfield 32, 3) := by decide +kernel
theorem d_M_due_68 : decode b_M_due 68 = .ok (.iload_n 1, 1) := by decide +kernel
theorem d_M_due_69 : decode b_M_due 69 = .ok (.laload, 1) := by decide +kernel
theorem d_M_due_70 : decode b_M_due 70 = .ok (.lreturn, 1) := by decide +kernel
theorem d_M_due_71 : decode b_M_due 71 = .ok (.aload_n 0, 1) := by decide +kernel
theorem d_M_due_72 : decode b_M_due 72 = .ok (.getfield 38, 3) := by decide +kernel
theorem d_M_due_75 : decode b_M_due 75 = .ok (.iload_n 1, 1) := by decide +kernel
theorem d_M_due_76 : decode b_M_due 76 = .ok (.laload, 1) := by decide +kernel
theorem d_M_due_77 : decode b_M_due 77 = .ok (.aload_n 0, 1) := by decide +kernel
theorem d_M_due_78 : decode b_M_due 78 = .ok (.iload_n 1, 1) := by decide +kernel
theorem d_M_due_79 : decode b_M_due 79 = .ok (.invokevirtual 109, 3) := by decide +kernel
theorem d_M_due_82 : decode b_M_due 82 = .ok (.ladd, 1) := by decide +kernel
theorem d_M_due_83 : decode b_M_due 83 = .ok (.lreturn, 1) := by decide +kernel
theorem d_M_due_84 : decode b_M_due 84 = .ok (.aload_n 0, 1) := by decide +kernel
theorem d_M_due_85 : decode b_M_due 85 = .ok (.getfield 28, 3) := by decide +kernel
theorem d_M_due_88 : decode b_M_due 88 = .ok (.iload_n 1, 1) := by decide +kernel
theorem d_M_due_89 : decode b_M_due 89 = .ok (.laload, 1) := by decide +kernel
theorem d_M_due_90 : decode b_M_due 90 = .ok (.lreturn, 1) := by decide +kernel
theorem d_M_due_91 : decode b_M_due 91 = .ok (.aload_n 0, 1) := by decide +kernel
theorem d_M_due_92 : decode b_M_due 92 = .ok (.getfield 35, 3) := by decide +kernel
theorem d_M_due_95 : decode b_M_due 95 = .ok (.iload_n 1, 1) := by decide +kernel
theorem d_M_due_96 : decode b_M_due 96 = .ok (.laload, 1) := by decide +kernel
theorem d_M_due_97 : decode b_M_due 97 = .ok (.lreturn, 1) := by decide +kernel
theorem d_M_due_98 : decode b_M_due 98 = .ok (.aload_n 0, 1) := by decide +kernel
theorem d_M_due_99 : decode b_M_due 99 = .ok (.getfield 44, 3) := by decide +kernel
theorem d_M_due_102 : decode b_M_due 102 = .ok (.iload_n 1, 1) := by decide +kernel
theorem d_M_due_103 : decode b_M_due 103 = .ok (.laload, 1) := by decide +kernel
theorem d_M_due_104 : decode b_M_due 104 = .ok (.lreturn, 1) := by decide +kernel
abbrev b_M_recourse : ByteArray := prog_5_method_25_code
def y_M_recourse : MethodName := ⟨R_M, "recourse", "(III)J"⟩
def w_M_recourse : List Cond := .code y_M_recourse b_M_recourse 9 (some .long) :: BIG
theorem d_M_recourse_0 : decode b_M_recourse 0 = .ok (.aload_n 0, 1) := by decide +kernel
theorem d_M_recourse_1 : decode b_M_recourse 1 = .ok (.iload_n 1, 1) := by decide +kernel
theorem d_M_recourse_2 : decode b_M_recourse 2 = .ok (.invokevirtual 96, 3) := by decide +kernel
theorem d_M_recourse_5 : decode b_M_recourse 5 = .ok (.ifCond .eq 12, 3) := by decide +kernel
theorem d_M_recourse_8 : decode b_M_recourse 8 = .ok (.aload_n 0, 1) := by decide +kernel
theorem d_M_recourse_9 : decode b_M_recourse 9 = .ok (.iload_n 1, 1) := by decide +kernel
theorem d_M_recourse_10 : decode b_M_recourse 10 = .ok (.iload_n 2, 1) := by decide +kernel
theorem d_M_recourse_11 : decode b_M_recourse 11 = .ok (.invokevirtual 99, 3) := by decide +kernel
theorem d_M_recourse_14 : decode b_M_recourse 14 = .ok (.goto 4, 3) := by decide +kernel
theorem d_M_recourse_17 : decode b_M_recourse 17 = .ok (.iconst (-1), 1) := by decide +kernel
theorem d_M_recourse_18 : decode b_M_recourse 18 = .ok (.istore 4, 2) := by decide +kernel
theorem d_M_recourse_20 : decode b_M_recourse 20 = .ok (.iload 4, 2) := by decide +kernel
theorem d_M_recourse_22 : decode b_M_recourse 22 = .ok (.ifCond .lt 15, 3) := by decide +kernel
theorem d_M_recourse_25 : decode b_M_recourse 25 = .ok (.iload_n 3, 1) := by decide +kernel
theorem d_M_recourse_26 : decode b_M_recourse 26 = .ok (.i2l, 1) := by decide +kernel
theorem d_M_recourse_27 : decode b_M_recourse 27 = .ok (.lconst 0, 1) := by decide +kernel
theorem d_M_recourse_28 : decode b_M_recourse 28 = .ok (.ldc2_w 127, 3) := by decide +kernel
theorem d_M_recourse_31 : decode b_M_recourse 31 = .ok (.invokestatic 88, 3) := by decide +kernel
theorem d_M_recourse_34 : decode b_M_recourse 34 = .ok (.ifCond .ne 10, 3) := by decide +kernel
theorem d_M_recourse_37 : decode b_M_recourse 37 = .ok (.aload_n 0, 1) := by decide +kernel
theorem d_M_recourse_38 : decode b_M_recourse 38 = .ok (.iconst 1, 1) := by decide +kernel
theorem d_M_recourse_39 : decode b_M_recourse 39 = .ok (.invokevirtual 75, 3) := by decide +kernel
theorem d_M_recourse_42 : decode b_M_recourse 42 = .ok (.i2l, 1) := by decide +kernel
theorem d_M_recourse_43 : decode b_M_recourse 43 = .ok (.lreturn, 1) := by decide +kernel
theorem d_M_recourse_44 : decode b_M_recourse 44 = .ok (.aload_n 0, 1) := by decide +kernel
theorem d_M_recourse_45 : decode b_M_recourse 45 = .ok (.iconst 0, 1) := by decide +kernel
theorem d_M_recourse_46 : decode b_M_recourse 46 = .ok (.putfield 68, 3) := by decide +kernel
theorem d_M_recourse_49 : decode b_M_recourse 49 = .ok (.aload_n 0, 1) := by decide +kernel
theorem d_M_recourse_50 : decode b_M_recourse 50 = .ok (.getfield 28, 3) := by decide +kernel
theorem d_M_recourse_53 : decode b_M_recourse 53 = .ok (.iload_n 1, 1) := by decide +kernel
theorem d_M_recourse_54 : decode b_M_recourse 54 = .ok (.laload, 1) := by decide +kernel
theorem d_M_recourse_55 : decode b_M_recourse 55 = .ok (.aload_n 0, 1) := by decide +kernel
theorem d_M_recourse_56 : decode b_M_recourse 56 = .ok (.getfield 56, 3) := by decide +kernel
theorem d_M_recourse_59 : decode b_M_recourse 59 = .ok (.iload_n 1, 1) := by decide +kernel
theorem d_M_recourse_60 : decode b_M_recourse 60 = .ok (.iaload, 1) := by decide +kernel
theorem d_M_recourse_61 : decode b_M_recourse 61 = .ok (.i2l, 1) := by decide +kernel
theorem d_M_recourse_62 : decode b_M_recourse 62 = .ok (.ldiv, 1) := by decide +kernel
theorem d_M_recourse_63 : decode b_M_recourse 63 = .ok (.iload 4, 2) := by decide +kernel
theorem d_M_recourse_65 : decode b_M_recourse 65 = .ok (.i2l, 1) := by decide +kernel
theorem d_M_recourse_66 : decode b_M_recourse 66 = .ok (.aload_n 0, 1) := by decide +kernel
theorem d_M_recourse_67 : decode b_M_recourse 67 = .ok (.getfield 28, 3) := by decide +kernel
theorem d_M_recourse_70 : decode b_M_recourse 70 = .ok (.iload_n 1, 1) := by decide +kernel
theorem d_M_recourse_71 : decode b_M_recourse 71 = .ok (.laload, 1) := by decide +kernel
theorem d_M_recourse_72 : decode b_M_recourse 72 = .ok (.aload_n 0, 1) := by decide +kernel
theorem d_M_recourse_73 : decode b_M_recourse 73 = .ok (.getfield 56, 3) := by decide +kernel
theorem d_M_recourse_76 : decode b_M_recourse 76 = .ok (.iload_n 1, 1) := by decide +kernel
theorem d_M_recourse_77 : decode b_M_recourse 77 = .ok (.iaload, 1) := by decide +kernel
theorem d_M_recourse_78 : decode b_M_recourse 78 = .ok (.i2l, 1) := by decide +kernel
theorem d_M_recourse_79 : decode b_M_recourse 79 = .ok (.lrem, 1) := by decide +kernel
theorem d_M_recourse_80 : decode b_M_recourse 80 = .ok (.lcmp, 1) := by decide +kernel
theorem d_M_recourse_81 : decode b_M_recourse 81 = .ok (.ifCond .ge 7, 3) := by decide +kernel
theorem d_M_recourse_84 : decode b_M_recourse 84 = .ok (.lconst 1, 1) := by decide +kernel
theorem d_M_recourse_85 : decode b_M_recourse 85 = .ok (.goto 4, 3) := by decide +kernel
theorem d_M_recourse_88 : decode b_M_recourse 88 = .ok (.lconst 0, 1) := by decide +kernel
theorem d_M_recourse_89 : decode b_M_recourse 89 = .ok (.ladd, 1) := by decide +kernel
theorem d_M_recourse_90 : decode b_M_recourse 90 = .ok (.lstore 5, 2) := by decide +kernel
theorem d_M_recourse_92 : decode b_M_recourse 92 = .ok (.aload_n 0, 1) := by decide +kernel
theorem d_M_recourse_93 : decode b_M_recourse 93 = .ok (.getfield 62, 3) := by decide +kernel
theorem d_M_recourse_96 : decode b_M_recourse 96 = .ok (.iconst 4, 1) := by decide +kernel
theorem d_M_recourse_97 : decode b_M_recourse 97 = .ok (.iload_n 1, 1) := by decide +kernel
theorem d_M_recourse_98 : decode b_M_recourse 98 = .ok (.imul, 1) := by decide +kernel
theorem d_M_recourse_99 : decode b_M_recourse 99 = .ok (.iload 4, 2) := by decide +kernel
theorem d_M_recourse_101 : decode b_M_recourse 101 = .ok (.iadd, 1) := by decide +kernel
theorem d_M_recourse_102 : decode b_M_recourse 102 = .ok (.laload, 1) := by decide +kernel
theorem d_M_recourse_103 : decode b_M_recourse 103 = .ok (.lstore 7, 2) := by decide +kernel
theorem d_M_recourse_105 : decode b_M_recourse 105 = .ok (.iload_n 3, 1) := by decide +kernel
theorem d_M_recourse_106 : decode b_M_recourse 106 = .ok (.ifCond .ne 8, 3) := by decide +kernel
theorem d_M_recourse_109 : decode b_M_recourse 109 = .ok (.lload 7, 2) := by decide +kernel
theorem d_M_recourse_111 : decode b_M_recourse 111 = .ok (.goto 30, 3) := by decide +kernel
theorem d_M_recourse_114 : decode b_M_recourse 114 = .ok (.iload_n 3, 1) := by decide +kernel
theorem d_M_recourse_115 : decode b_M_recourse 115 = .ok (.iconst 1, 1) := by decide +kernel
theorem d_M_recourse_116 : decode b_M_recourse 116 = .ok (.if_icmp .ne 8, 3) := by decide +kernel
theorem d_M_recourse_119 : decode b_M_recourse 119 = .ok (.lload 5, 2) := by decide +kernel
theorem d_M_recourse_121 : decode b_M_recourse 121 = .ok (.goto 20, 3) := by decide +kernel
theorem d_M_recourse_124 : decode b_M_recourse 124 = .ok (.lload 7, 2) := by decide +kernel
theorem d_M_recourse_126 : decode b_M_recourse 126 = .ok (.lload 5, 2) := by decide +kernel
theorem d_M_recourse_128 : decode b_M_recourse 128 = .ok (.lcmp, 1) := by decide +kernel
theorem d_M_recourse_129 : decode b_M_recourse 129 = .ok (.ifCond .le 11, 3) := by decide +kernel
theorem d_M_recourse_132 : decode b_M_recourse 132 = .ok (.lload 7, 2) := by decide +kernel
theorem d_M_recourse_134 : decode b_M_recourse 134 = .ok (.lload 5, 2) := by decide +kernel
theorem d_M_recourse_136 : decode b_M_recourse 136 = .ok (.lsub, 1) := by decide +kernel
theorem d_M_recourse_137 : decode b_M_recourse 137 = .ok (.goto 4, 3) := by decide +kernel
theorem d_M_recourse_140 : decode b_M_recourse 140 = .ok (.lconst 0, 1) := by decide +kernel
theorem d_M_recourse_141 : decode b_M_recourse 141 = .ok (.lreturn, 1) := by decide +kernel
abbrev b_M_look : ByteArray := prog_5_method_26_code
def y_M_look : MethodName := ⟨R_M, "look", "(II)I"⟩
def w_M_look : List Cond := .code y_M_look b_M_look 3 (some .int) :: BIG
theorem d_M_look_0 : decode b_M_look 0 = .ok (.aload_n 0, 1) := by decide +kernel
theorem d_M_look_1 : decode b_M_look 1 = .ok (.iload_n 1, 1) := by decide +kernel
theorem d_M_look_2 : decode b_M_look 2 = .ok (.invokevirtual 96, 3) := by decide +kernel
theorem d_M_look_5 : decode b_M_look 5 = .ok (.ifCond .eq 31, 3) := by decide +kernel
theorem d_M_look_8 : decode b_M_look 8 = .ok (.iload_n 2, 1) := by decide +kernel
theorem d_M_look_9 : decode b_M_look 9 = .ok (.ifCond .lt 27, 3) := by decide +kernel
theorem d_M_look_12 : decode b_M_look 12 = .ok (.iload_n 2, 1) := by decide +kernel
theorem d_M_look_13 : decode b_M_look 13 = .ok (.iconst 3, 1) := by decide +kernel
theorem d_M_look_14 : decode b_M_look 14 = .ok (.aload_n 0, 1) := by decide +kernel
theorem d_M_look_15 : decode b_M_look 15 = .ok (.getfield 56, 3) := by decide +kernel
theorem d_M_look_18 : decode b_M_look 18 = .ok (.aload_n 0, 1) := by decide +kernel
theorem d_M_look_19 : decode b_M_look 19 = .ok (.iload_n 1, 1) := by decide +kernel
theorem d_M_look_20 : decode b_M_look 20 = .ok (.invokevirtual 96, 3) := by decide +kernel
theorem d_M_look_23 : decode b_M_look 23 = .ok (.ifCond .eq 7, 3) := by decide +kernel
theorem d_M_look_26 : decode b_M_look 26 = .ok (.iload_n 1, 1) := by decide +kernel
theorem d_M_look_27 : decode b_M_look 27 = .ok (.goto 4, 3) := by decide +kernel
theorem d_M_look_30 : decode b_M_look 30 = .ok (.iconst 0, 1) := by decide +kernel
theorem d_M_look_31 : decode b_M_look 31 = .ok (.iaload, 1) := by decide +kernel
theorem d_M_look_32 : decode b_M_look 32 = .ok (.iadd, 1) := by decide +kernel
theorem d_M_look_33 : decode b_M_look 33 = .ok (.if_icmp .le 9, 3) := by decide +kernel
theorem d_M_look_36 : decode b_M_look 36 = .ok (.aload_n 0, 1) := by decide +kernel
theorem d_M_look_37 : decode b_M_look 37 = .ok (.iconst 1, 1) := by decide +kernel
theorem d_M_look_38 : decode b_M_look 38 = .ok (.invokevirtual 75, 3) := by decide +kernel
theorem d_M_look_41 : decode b_M_look 41 = .ok (.ireturn, 1) := by decide +kernel
theorem d_M_look_42 : decode b_M_look 42 = .ok (.aload_n 0, 1) := by decide +kernel
theorem d_M_look_43 : decode b_M_look 43 = .ok (.iconst 0, 1) := by decide +kernel
theorem d_M_look_44 : decode b_M_look 44 = .ok (.putfield 68, 3) := by decide +kernel
theorem d_M_look_47 : decode b_M_look 47 = .ok (.iload_n 2, 1) := by decide +kernel
theorem d_M_look_48 : decode b_M_look 48 = .ok (.tableswitch 60 0 3 #[32, 39, 46, 53], 32) := by decide +kernel
theorem d_M_look_80 : decode b_M_look 80 = .ok (.aload_n 0, 1) := by decide +kernel
theorem d_M_look_81 : decode b_M_look 81 = .ok (.getfield 19, 3) := by decide +kernel
theorem d_M_look_84 : decode b_M_look 84 = .ok (.iload_n 1, 1) := by decide +kernel
theorem d_M_look_85 : decode b_M_look 85 = .ok (.iaload, 1) := by decide +kernel
theorem d_M_look_86 : decode b_M_look 86 = .ok (.ireturn, 1) := by decide +kernel
theorem d_M_look_87 : decode b_M_look 87 = .ok (.aload_n 0, 1) := by decide +kernel
theorem d_M_look_88 : decode b_M_look 88 = .ok (.getfield 22, 3) := by decide +kernel
theorem d_M_look_91 : decode b_M_look 91 = .ok (.iload_n 1, 1) := by decide +kernel
theorem d_M_look_92 : decode b_M_look 92 = .ok (.iaload, 1) := by decide +kernel
theorem d_M_look_93 : decode b_M_look 93 = .ok (.ireturn, 1) := by decide +kernel
theorem d_M_look_94 : decode b_M_look 94 = .ok (.aload_n 0, 1) := by decide +kernel
theorem d_M_look_95 : decode b_M_look 95 = .ok (.getfield 25, 3) := by decide +kernel
theorem d_M_look_98 : decode b_M_look 98 = .ok (.iload_n 1, 1) := by decide +kernel
theorem d_M_look_99 : decode b_M_look 99 = .ok (.iaload, 1) := by decide +kernel
theorem d_M_look_100 : decode b_M_look 100 = .ok (.ireturn, 1) := by decide +kernel
theorem d_M_look_101 : decode b_M_look 101 = .ok (.aload_n 0, 1) := by decide +kernel
theorem d_M_look_102 : decode b_M_look 102 = .ok (.getfield 56, 3) := by decide +kernel
theorem d_M_look_105 : decode b_M_look 105 = .ok (.iload_n 1, 1) := by decide +kernel
theorem d_M_look_106 : decode b_M_look 106 = .ok (.iaload, 1) := by decide +kernel
theorem d_M_look_107 : decode b_M_look 107 = .ok (.ireturn, 1) := by decide +kernel
theorem d_M_look_108 : decode b_M_look 108 = .ok (.aload_n 0, 1) := by decide +kernel
theorem d_M_look_109 : decode b_M_look 109 = .ok (.getfield 59, 3) := by decide +kernel
theorem d_M_look_112 : decode b_M_look 112 = .ok (.iconst 4, 1) := by decide +kernel
theorem d_M_look_113 : decode b_M_look 113 = .ok (.iload_n 1, 1) := by decide +kernel
theorem d_M_look_114 : decode b_M_look 114 = .ok (.imul, 1) := by decide +kernel
theorem d_M_look_115 : decode b_M_look 115 = .ok (.iload_n 2, 1) := by decide +kernel
theorem d_M_look_116 : decode b_M_look 116 = .ok (.iadd, 1) := by decide +kernel
theorem d_M_look_117 : decode b_M_look 117 = .ok (.iconst 4, 1) := by decide +kernel
theorem d_M_look_118 : decode b_M_look 118 = .ok (.isub, 1) := by decide +kernel
theorem d_M_look_119 : decode b_M_look 119 = .ok (.iaload, 1) := by decide +kernel
theorem d_M_look_120 : decode b_M_look 120 = .ok (.ireturn, 1) := by decide +kernel
abbrev b_M_sum : ByteArray := prog_5_method_27_code
def y_M_sum : MethodName := ⟨R_M, "sum", "(I)J"⟩
def w_M_sum : List Cond := .code y_M_sum b_M_sum 14 (some .long) :: BIG
theorem d_M_sum_0 : decode b_M_sum 0 = .ok (.aload_n 0, 1) := by decide +kernel
theorem d_M_sum_1 : decode b_M_sum 1 = .ok (.iconst 0, 1) := by decide +kernel
theorem d_M_sum_2 : decode b_M_sum 2 = .ok (.putfield 68, 3) := by decide +kernel
theorem d_M_sum_5 : decode b_M_sum 5 = .ok (.iload_n 1, 1) := by decide +kernel
theorem d_M_sum_6 : decode b_M_sum 6 = .ok (.bipush 20, 2) := by decide +kernel
theorem d_M_sum_8 : decode b_M_sum 8 = .ok (.if_icmp .lt 29, 3) := by decide +kernel
theorem d_M_sum_11 : decode b_M_sum 11 = .ok (.iload_n 1, 1) := by decide +kernel
theorem d_M_sum_12 : decode b_M_sum 12 = .ok (.bipush 20, 2) := by decide +kernel
theorem d_M_sum_14 : decode b_M_sum 14 = .ok (.isub, 1) := by decide +kernel
theorem d_M_sum_15 : decode b_M_sum 15 = .ok (.invokestatic 92, 3) := by decide +kernel
theorem d_M_sum_18 : decode b_M_sum 18 = .ok (.ifCond .eq 15, 3) := by decide +kernel
theorem d_M_sum_21 : decode b_M_sum 21 = .ok (.aload_n 0, 1) := by decide +kernel
theorem d_M_sum_22 : decode b_M_sum 22 = .ok (.getfield 65, 3) := by decide +kernel
theorem d_M_sum_25 : decode b_M_sum 25 = .ok (.iload_n 1, 1) := by decide +kernel
theorem d_M_sum_26 : decode b_M_sum 26 = .ok (.bipush 20, 2) := by decide +kernel
theorem d_M_sum_28 : decode b_M_sum 28 = .ok (.isub, 1) := by decide +kernel
theorem d_M_sum_29 : decode b_M_sum 29 = .ok (.laload, 1) := by decide +kernel
theorem d_M_sum_30 : decode b_M_sum 30 = .ok (.goto 6, 3) := by decide +kernel
theorem d_M_sum_33 : decode b_M_sum 33 = .ok (.ldc2_w 131, 3) := by decide +kernel
theorem d_M_sum_36 : decode b_M_sum 36 = .ok (.lreturn, 1) := by decide +kernel
theorem d_M_sum_37 : decode b_M_sum 37 = .ok (.lconst 0, 1) := by decide +kernel
theorem d_M_sum_38 : decode b_M_sum 38 = .ok (.lstore_n 2, 1) := by decide +kernel
theorem d_M_sum_39 : decode b_M_sum 39 = .ok (.lconst 0, 1) := by decide +kernel
theorem d_M_sum_40 : decode b_M_sum 40 = .ok (.lstore 4, 2) := by decide +kernel
theorem d_M_sum_42 : decode b_M_sum 42 = .ok (.lconst 0, 1) := by decide +kernel
theorem d_M_sum_43 : decode b_M_sum 43 = .ok (.lstore 6, 2) := by decide +kernel
theorem d_M_sum_45 : decode b_M_sum 45 = .ok (.lconst 0, 1) := by decide +kernel
theorem d_M_sum_46 : decode b_M_sum 46 = .ok (.lstore 8, 2) := by decide +kernel
theorem d_M_sum_48 : decode b_M_sum 48 = .ok (.lconst 0, 1) := by decide +kernel
theorem d_M_sum_49 : decode b_M_sum 49 = .ok (.lstore 10, 2) := by decide +kernel
theorem d_M_sum_51 : decode b_M_sum 51 = .ok (.iconst 1, 1) := by decide +kernel
theorem d_M_sum_52 : decode b_M_sum 52 = .ok (.istore 12, 2) := by decide +kernel
theorem d_M_sum_54 : decode b_M_sum 54 = .ok (.iload 12, 2) := by decide +kernel
theorem d_M_sum_56 : decode b_M_sum 56 = .ok (.aload_n 0, 1) := by decide +kernel
theorem d_M_sum_57 : decode b_M_sum 57 = .ok (.getfield 72, 3) := by decide +kernel
theorem d_M_sum_60 : decode b_M_sum 60 = .ok (.if_icmp .gt 93, 3) := by decide +kernel
theorem d_M_sum_63 : decode b_M_sum 63 = .ok (.lload_n 2, 1) := by decide +kernel
theorem d_M_sum_64 : decode b_M_sum 64 = .ok (.aload_n 0, 1) := by decide +kernel
theorem d_M_sum_65 : decode b_M_sum 65 = .ok (.getfield 28, 3) := by decide +kernel
theorem d_M_sum_68 : decode b_M_sum 68 = .ok (.iload 12, 2) := by decide +kernel
theorem d_M_sum_70 : decode b_M_sum 70 = .ok (.laload, 1) := by decide +kernel
theorem d_M_sum_71 : decode b_M_sum 71 = .ok (.ladd, 1) := by decide +kernel
theorem d_M_sum_72 : decode b_M_sum 72 = .ok (.lstore_n 2, 1) := by decide +kernel
theorem d_M_sum_73 : decode b_M_sum 73 = .ok (.lload 4, 2) := by decide +kernel
theorem d_M_sum_75 : decode b_M_sum 75 = .ok (.aload_n 0, 1) := by decide +kernel
theorem d_M_sum_76 : decode b_M_sum 76 = .ok (.getfield 32, 3) := by decide +kernel
theorem d_M_sum_79 : decode b_M_sum 79 = .ok (.iload 12, 2) := by decide +kernel
theorem d_M_sum_81 : decode b_M_sum 81 = .ok (.laload, 1) := by decide +kernel
theorem d_M_sum_82 : decode b_M_sum 82 = .ok (.ladd, 1) := by decide +kernel
theorem d_M_sum_83 : decode b_M_sum 83 = .ok (.lstore 4, 2) := by decide +kernel
theorem d_M_sum_85 : decode b_M_sum 85 = .ok (.lload 8, 2) := by decide +kernel
theorem d_M_sum_87 : decode b_M_sum 87 = .ok (.aload_n 0, 1) := by decide +kernel
theorem d_M_sum_88 : decode b_M_sum 88 = .ok (.getfield 35, 3) := by decide +kernel
theorem d_M_sum_91 : decode b_M_sum 91 = .ok (.iload 12, 2) := by decide +kernel
theorem d_M_sum_93 : decode b_M_sum 93 = .ok (.laload, 1) := by decide +kernel
theorem d_M_sum_94 : decode b_M_sum 94 = .ok (.ladd, 1) := by decide +kernel
theorem d_M_sum_95 : decode b_M_sum 95 = .ok (.lstore 8, 2) := by decide +kernel
theorem d_M_sum_97 : decode b_M_sum 97 = .ok (.lload 10, 2) := by decide +kernel
theorem d_M_sum_99 : decode b_M_sum 99 = .ok (.aload_n 0, 1) := by decide +kernel
theorem d_M_sum_100 : decode b_M_sum 100 = .ok (.getfield 44, 3) := by decide +kernel
theorem d_M_sum_103 : decode b_M_sum 103 = .ok (.iload 12, 2) := by decide +kernel
theorem d_M_sum_105 : decode b_M_sum 105 = .ok (.laload, 1) := by decide +kernel
theorem d_M_sum_106 : decode b_M_sum 106 = .ok (.ladd, 1) := by decide +kernel
theorem d_M_sum_107 : decode b_M_sum 107 = .ok (.lstore 10, 2) := by decide +kernel
theorem d_M_sum_109 : decode b_M_sum 109 = .ok (.iconst 0, 1) := by decide +kernel
theorem d_M_sum_110 : decode b_M_sum 110 = .ok (.istore 13, 2) := by decide +kernel
theorem d_M_sum_112 : decode b_M_sum 112 = .ok (.iload 13, 2) := by decide +kernel
theorem d_M_sum_114 : decode b_M_sum 114 = .ok (.aload_n 0, 1) := by decide +kernel
theorem d_M_sum_115 : decode b_M_sum 115 = .ok (.getfield 56, 3) := by decide +kernel
theorem d_M_sum_118 : decode b_M_sum 118 = .ok (.iload 12, 2) := by decide +kernel
theorem d_M_sum_120 : decode b_M_sum 120 = .ok (.iaload, 1) := by decide +kernel
theorem d_M_sum_121 : decode b_M_sum 121 = .ok (.if_icmp .ge 26, 3) := by decide +kernel
theorem d_M_sum_124 : decode b_M_sum 124 = .ok (.lload 6, 2) := by decide +kernel
theorem d_M_sum_126 : decode b_M_sum 126 = .ok (.aload_n 0, 1) := by decide +kernel
theorem d_M_sum_127 : decode b_M_sum 127 = .ok (.getfield 62, 3) := by decide +kernel
theorem d_M_sum_130 : decode b_M_sum 130 = .ok (.iconst 4, 1) := by decide +kernel
theorem d_M_sum_131 : decode b_M_sum 131 = .ok (.iload 12, 2) := by decide +kernel
theorem d_M_sum_133 : decode b_M_sum 133 = .ok (.imul, 1) := by decide +kernel
theorem d_M_sum_134 : decode b_M_sum 134 = .ok (.iload 13, 2) := by decide +kernel
theorem d_M_sum_136 : decode b_M_sum 136 = .ok (.iadd, 1) := by decide +kernel
theorem d_M_sum_137 : decode b_M_sum 137 = .ok (.laload, 1) := by decide +kernel
theorem d_M_sum_138 : decode b_M_sum 138 = .ok (.ladd, 1) := by decide +kernel
theorem d_M_sum_139 : decode b_M_sum 139 = .ok (.lstore 6, 2) := by decide +kernel
theorem d_M_sum_141 : decode b_M_sum 141 = .ok (.iinc 13 1, 3) := by decide +kernel
theorem d_M_sum_144 : decode b_M_sum 144 = .ok (.goto (-32), 3) := by decide +kernel
theorem d_M_sum_147 : decode b_M_sum 147 = .ok (.iinc 12 1, 3) := by decide +kernel
theorem d_M_sum_150 : decode b_M_sum 150 = .ok (.goto (-96), 3) := by decide +kernel
theorem d_M_sum_153 : decode b_M_sum 153 = .ok (.iload_n 1, 1) := by decide +kernel
theorem d_M_sum_154 : decode b_M_sum 154 = .ok (.tableswitch 78 0 7 #[46, 48, 51, 54, 57, 60, 66, 72], 46) := by decide +kernel
theorem d_M_sum_200 : decode b_M_sum 200 = .ok (.lload_n 2, 1) := by decide +kernel
theorem d_M_sum_201 : decode b_M_sum 201 = .ok (.lreturn, 1) := by decide +kernel
theorem d_M_sum_202 : decode b_M_sum 202 = .ok (.lload 4, 2) := by decide +kernel
theorem d_M_sum_204 : decode b_M_sum 204 = .ok (.lreturn, 1) := by decide +kernel
theorem d_M_sum_205 : decode b_M_sum 205 = .ok (.lload 6, 2) := by decide +kernel
theorem d_M_sum_207 : decode b_M_sum 207 = .ok (.lreturn, 1) := by decide +kernel
theorem d_M_sum_208 : decode b_M_sum 208 = .ok (.lload 8, 2) := by decide +kernel
theorem d_M_sum_210 : decode b_M_sum 210 = .ok (.lreturn, 1) := by decide +kernel
theorem d_M_sum_211 : decode b_M_sum 211 = .ok (.lload 10, 2) := by decide +kernel
theorem d_M_sum_213 : decode b_M_sum 213 = .ok (.lreturn, 1) := by decide +kernel
theorem d_M_sum_214 : decode b_M_sum 214 = .ok (.aload_n 0, 1) := by decide +kernel
theorem d_M_sum_215 : decode b_M_sum 215 = .ok (.getfield 72, 3) := by decide +kernel
theorem d_M_sum_218 : decode b_M_sum 218 = .ok (.i2l, 1) := by decide +kernel
theorem d_M_sum_219 : decode b_M_sum 219 = .ok (.lreturn, 1) := by decide +kernel
theorem d_M_sum_220 : decode b_M_sum 220 = .ok (.aload_n 0, 1) := by decide +kernel
theorem d_M_sum_221 : decode b_M_sum 221 = .ok (.getfield 79, 3) := by decide +kernel
theorem d_M_sum_224 : decode b_M_sum 224 = .ok (.i2l, 1) := by decide +kernel
theorem d_M_sum_225 : decode b_M_sum 225 = .ok (.lreturn, 1) := by decide +kernel
theorem d_M_sum_226 : decode b_M_sum 226 = .ok (.aload_n 0, 1) := by decide +kernel
theorem d_M_sum_227 : decode b_M_sum 227 = .ok (.getfield 83, 3) := by decide +kernel
theorem d_M_sum_230 : decode b_M_sum 230 = .ok (.i2l, 1) := by decide +kernel
theorem d_M_sum_231 : decode b_M_sum 231 = .ok (.lreturn, 1) := by decide +kernel
theorem d_M_sum_232 : decode b_M_sum 232 = .ok (.ldc2_w 131, 3) := by decide +kernel
theorem d_M_sum_235 : decode b_M_sum 235 = .ok (.lreturn, 1) := by decide +kernel
