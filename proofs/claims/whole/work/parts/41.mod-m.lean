abbrev b_MOD_isIn : ByteArray := prog_7_method_3_code
def y_MOD_isIn : MethodName := ⟨R_MOD, "isIn", "(JJJ)Z"⟩
def w_MOD_isIn : List Cond := .code y_MOD_isIn b_MOD_isIn 6 (some .boolean) :: lwG
theorem d_MOD_isIn_0 : decode b_MOD_isIn 0 = .ok (.lload_n 0, 1) := by decide +kernel
theorem d_MOD_isIn_1 : decode b_MOD_isIn 1 = .ok (.lload_n 2, 1) := by decide +kernel
theorem d_MOD_isIn_2 : decode b_MOD_isIn 2 = .ok (.lcmp, 1) := by decide +kernel
theorem d_MOD_isIn_3 : decode b_MOD_isIn 3 = .ok (.ifCond .lt 14, 3) := by decide +kernel
theorem d_MOD_isIn_6 : decode b_MOD_isIn 6 = .ok (.lload_n 0, 1) := by decide +kernel
theorem d_MOD_isIn_7 : decode b_MOD_isIn 7 = .ok (.lload 4, 2) := by decide +kernel
theorem d_MOD_isIn_9 : decode b_MOD_isIn 9 = .ok (.lcmp, 1) := by decide +kernel
theorem d_MOD_isIn_10 : decode b_MOD_isIn 10 = .ok (.ifCond .gt 7, 3) := by decide +kernel
theorem d_MOD_isIn_13 : decode b_MOD_isIn 13 = .ok (.iconst 1, 1) := by decide +kernel
theorem d_MOD_isIn_14 : decode b_MOD_isIn 14 = .ok (.goto 4, 3) := by decide +kernel
theorem d_MOD_isIn_17 : decode b_MOD_isIn 17 = .ok (.iconst 0, 1) := by decide +kernel
theorem d_MOD_isIn_18 : decode b_MOD_isIn 18 = .ok (.ireturn, 1) := by decide +kernel
abbrev b_MOD_holds : ByteArray := prog_7_method_5_code
def y_MOD_holds : MethodName := ⟨R_MOD, "holds", "(II)Z"⟩
def w_MOD_holds : List Cond := .code y_MOD_holds b_MOD_holds 2 (some .boolean) :: lwG
theorem d_MOD_holds_0 : decode b_MOD_holds 0 = .ok (.iload_n 0, 1) := by decide +kernel
theorem d_MOD_holds_1 : decode b_MOD_holds 1 = .ok (.iload_n 1, 1) := by decide +kernel
theorem d_MOD_holds_2 : decode b_MOD_holds 2 = .ok (.ishr, 1) := by decide +kernel
theorem d_MOD_holds_3 : decode b_MOD_holds 3 = .ok (.iconst 1, 1) := by decide +kernel
theorem d_MOD_holds_4 : decode b_MOD_holds 4 = .ok (.iand, 1) := by decide +kernel
theorem d_MOD_holds_5 : decode b_MOD_holds 5 = .ok (.iconst 1, 1) := by decide +kernel
theorem d_MOD_holds_6 : decode b_MOD_holds 6 = .ok (.if_icmp .ne 7, 3) := by decide +kernel
theorem d_MOD_holds_9 : decode b_MOD_holds 9 = .ok (.iconst 1, 1) := by decide +kernel
theorem d_MOD_holds_10 : decode b_MOD_holds 10 = .ok (.goto 4, 3) := by decide +kernel
theorem d_MOD_holds_13 : decode b_MOD_holds 13 = .ok (.iconst 0, 1) := by decide +kernel
theorem d_MOD_holds_14 : decode b_MOD_holds 14 = .ok (.ireturn, 1) := by decide +kernel
abbrev b_MOD_thrown : ByteArray := prog_7_method_2_code
def y_MOD_thrown : MethodName := ⟨R_MOD, "thrown", "()I"⟩
def w_MOD_thrown : List Cond := .code y_MOD_thrown b_MOD_thrown 1 (some .int) :: lwG
theorem d_MOD_thrown_0 : decode b_MOD_thrown 0 = .ok (.aload_n 0, 1) := by decide +kernel
theorem d_MOD_thrown_1 : decode b_MOD_thrown 1 = .ok (.getfield 62, 3) := by decide +kernel
theorem d_MOD_thrown_4 : decode b_MOD_thrown 4 = .ok (.ireturn, 1) := by decide +kernel
abbrev b_MOD_hasChance : ByteArray := prog_7_method_6_code
def y_MOD_hasChance : MethodName := ⟨R_MOD, "hasChance", "(II)Z"⟩
def w_MOD_hasChance : List Cond := .code y_MOD_hasChance b_MOD_hasChance 4 (some .boolean) :: lwG
theorem d_MOD_hasChance_0 : decode b_MOD_hasChance 0 = .ok (.iload_n 2, 1) := by decide +kernel
theorem d_MOD_hasChance_1 : decode b_MOD_hasChance 1 = .ok (.aload_n 0, 1) := by decide +kernel
theorem d_MOD_hasChance_2 : decode b_MOD_hasChance 2 = .ok (.getfield 13, 3) := by decide +kernel
theorem d_MOD_hasChance_5 : decode b_MOD_hasChance 5 = .ok (.iload_n 1, 1) := by decide +kernel
theorem d_MOD_hasChance_6 : decode b_MOD_hasChance 6 = .ok (.iaload, 1) := by decide +kernel
theorem d_MOD_hasChance_7 : decode b_MOD_hasChance 7 = .ok (.invokestatic 77, 3) := by decide +kernel
theorem d_MOD_hasChance_10 : decode b_MOD_hasChance 10 = .ok (.istore_n 3, 1) := by decide +kernel
theorem d_MOD_hasChance_11 : decode b_MOD_hasChance 11 = .ok (.aload_n 0, 1) := by decide +kernel
theorem d_MOD_hasChance_12 : decode b_MOD_hasChance 12 = .ok (.getfield 7, 3) := by decide +kernel
theorem d_MOD_hasChance_15 : decode b_MOD_hasChance 15 = .ok (.iload_n 1, 1) := by decide +kernel
theorem d_MOD_hasChance_16 : decode b_MOD_hasChance 16 = .ok (.iaload, 1) := by decide +kernel
theorem d_MOD_hasChance_17 : decode b_MOD_hasChance 17 = .ok (.iconst 2, 1) := by decide +kernel
theorem d_MOD_hasChance_18 : decode b_MOD_hasChance 18 = .ok (.if_icmp .ne 17, 3) := by decide +kernel
theorem d_MOD_hasChance_21 : decode b_MOD_hasChance 21 = .ok (.iload_n 3, 1) := by decide +kernel
theorem d_MOD_hasChance_22 : decode b_MOD_hasChance 22 = .ok (.ifCond .eq 13, 3) := by decide +kernel
theorem d_MOD_hasChance_25 : decode b_MOD_hasChance 25 = .ok (.aload_n 0, 1) := by decide +kernel
theorem d_MOD_hasChance_26 : decode b_MOD_hasChance 26 = .ok (.getfield 22, 3) := by decide +kernel
theorem d_MOD_hasChance_29 : decode b_MOD_hasChance 29 = .ok (.iload_n 1, 1) := by decide +kernel
theorem d_MOD_hasChance_30 : decode b_MOD_hasChance 30 = .ok (.dup2, 1) := by decide +kernel
theorem d_MOD_hasChance_31 : decode b_MOD_hasChance 31 = .ok (.iaload, 1) := by decide +kernel
theorem d_MOD_hasChance_32 : decode b_MOD_hasChance 32 = .ok (.iconst 1, 1) := by decide +kernel
theorem d_MOD_hasChance_33 : decode b_MOD_hasChance 33 = .ok (.iadd, 1) := by decide +kernel
theorem d_MOD_hasChance_34 : decode b_MOD_hasChance 34 = .ok (.iastore, 1) := by decide +kernel
theorem d_MOD_hasChance_35 : decode b_MOD_hasChance 35 = .ok (.aload_n 0, 1) := by decide +kernel
theorem d_MOD_hasChance_36 : decode b_MOD_hasChance 36 = .ok (.getfield 7, 3) := by decide +kernel
theorem d_MOD_hasChance_39 : decode b_MOD_hasChance 39 = .ok (.iload_n 1, 1) := by decide +kernel
theorem d_MOD_hasChance_40 : decode b_MOD_hasChance 40 = .ok (.iaload, 1) := by decide +kernel
theorem d_MOD_hasChance_41 : decode b_MOD_hasChance 41 = .ok (.iconst 1, 1) := by decide +kernel
theorem d_MOD_hasChance_42 : decode b_MOD_hasChance 42 = .ok (.if_icmp .ne 43, 3) := by decide +kernel
theorem d_MOD_hasChance_45 : decode b_MOD_hasChance 45 = .ok (.iload_n 3, 1) := by decide +kernel
theorem d_MOD_hasChance_46 : decode b_MOD_hasChance 46 = .ok (.ifCond .eq 37, 3) := by decide +kernel
theorem d_MOD_hasChance_49 : decode b_MOD_hasChance 49 = .ok (.iload_n 2, 1) := by decide +kernel
theorem d_MOD_hasChance_50 : decode b_MOD_hasChance 50 = .ok (.aload_n 0, 1) := by decide +kernel
theorem d_MOD_hasChance_51 : decode b_MOD_hasChance 51 = .ok (.getfield 13, 3) := by decide +kernel
theorem d_MOD_hasChance_54 : decode b_MOD_hasChance 54 = .ok (.iload_n 1, 1) := by decide +kernel
theorem d_MOD_hasChance_55 : decode b_MOD_hasChance 55 = .ok (.iaload, 1) := by decide +kernel
theorem d_MOD_hasChance_56 : decode b_MOD_hasChance 56 = .ok (.bipush 7, 2) := by decide +kernel
theorem d_MOD_hasChance_58 : decode b_MOD_hasChance 58 = .ok (.if_icmp .ne 7, 3) := by decide +kernel
theorem d_MOD_hasChance_61 : decode b_MOD_hasChance 61 = .ok (.iconst 0, 1) := by decide +kernel
theorem d_MOD_hasChance_62 : decode b_MOD_hasChance 62 = .ok (.goto 11, 3) := by decide +kernel
theorem d_MOD_hasChance_65 : decode b_MOD_hasChance 65 = .ok (.aload_n 0, 1) := by decide +kernel
theorem d_MOD_hasChance_66 : decode b_MOD_hasChance 66 = .ok (.getfield 13, 3) := by decide +kernel
theorem d_MOD_hasChance_69 : decode b_MOD_hasChance 69 = .ok (.iload_n 1, 1) := by decide +kernel
theorem d_MOD_hasChance_70 : decode b_MOD_hasChance 70 = .ok (.iaload, 1) := by decide +kernel
theorem d_MOD_hasChance_71 : decode b_MOD_hasChance 71 = .ok (.iconst 1, 1) := by decide +kernel
theorem d_MOD_hasChance_72 : decode b_MOD_hasChance 72 = .ok (.iadd, 1) := by decide +kernel
theorem d_MOD_hasChance_73 : decode b_MOD_hasChance 73 = .ok (.invokestatic 77, 3) := by decide +kernel
theorem d_MOD_hasChance_76 : decode b_MOD_hasChance 76 = .ok (.ifCond .eq 7, 3) := by decide +kernel
theorem d_MOD_hasChance_79 : decode b_MOD_hasChance 79 = .ok (.iconst 1, 1) := by decide +kernel
theorem d_MOD_hasChance_80 : decode b_MOD_hasChance 80 = .ok (.goto 4, 3) := by decide +kernel
theorem d_MOD_hasChance_83 : decode b_MOD_hasChance 83 = .ok (.iconst 0, 1) := by decide +kernel
theorem d_MOD_hasChance_84 : decode b_MOD_hasChance 84 = .ok (.ireturn, 1) := by decide +kernel
theorem d_MOD_hasChance_85 : decode b_MOD_hasChance 85 = .ok (.aload_n 0, 1) := by decide +kernel
theorem d_MOD_hasChance_86 : decode b_MOD_hasChance 86 = .ok (.getfield 7, 3) := by decide +kernel
theorem d_MOD_hasChance_89 : decode b_MOD_hasChance 89 = .ok (.iload_n 1, 1) := by decide +kernel
theorem d_MOD_hasChance_90 : decode b_MOD_hasChance 90 = .ok (.iaload, 1) := by decide +kernel
theorem d_MOD_hasChance_91 : decode b_MOD_hasChance 91 = .ok (.ifCond .ne 7, 3) := by decide +kernel
theorem d_MOD_hasChance_94 : decode b_MOD_hasChance 94 = .ok (.iload_n 3, 1) := by decide +kernel
theorem d_MOD_hasChance_95 : decode b_MOD_hasChance 95 = .ok (.goto 45, 3) := by decide +kernel
theorem d_MOD_hasChance_98 : decode b_MOD_hasChance 98 = .ok (.aload_n 0, 1) := by decide +kernel
theorem d_MOD_hasChance_99 : decode b_MOD_hasChance 99 = .ok (.getfield 7, 3) := by decide +kernel
theorem d_MOD_hasChance_102 : decode b_MOD_hasChance 102 = .ok (.iload_n 1, 1) := by decide +kernel
theorem d_MOD_hasChance_103 : decode b_MOD_hasChance 103 = .ok (.iaload, 1) := by decide +kernel
theorem d_MOD_hasChance_104 : decode b_MOD_hasChance 104 = .ok (.iconst 2, 1) := by decide +kernel
theorem d_MOD_hasChance_105 : decode b_MOD_hasChance 105 = .ok (.if_icmp .ne 26, 3) := by decide +kernel
theorem d_MOD_hasChance_108 : decode b_MOD_hasChance 108 = .ok (.iload_n 3, 1) := by decide +kernel
theorem d_MOD_hasChance_109 : decode b_MOD_hasChance 109 = .ok (.ifCond .eq 18, 3) := by decide +kernel
theorem d_MOD_hasChance_112 : decode b_MOD_hasChance 112 = .ok (.aload_n 0, 1) := by decide +kernel
theorem d_MOD_hasChance_113 : decode b_MOD_hasChance 113 = .ok (.getfield 22, 3) := by decide +kernel
theorem d_MOD_hasChance_116 : decode b_MOD_hasChance 116 = .ok (.iload_n 1, 1) := by decide +kernel
theorem d_MOD_hasChance_117 : decode b_MOD_hasChance 117 = .ok (.iaload, 1) := by decide +kernel
theorem d_MOD_hasChance_118 : decode b_MOD_hasChance 118 = .ok (.iconst 2, 1) := by decide +kernel
theorem d_MOD_hasChance_119 : decode b_MOD_hasChance 119 = .ok (.irem, 1) := by decide +kernel
theorem d_MOD_hasChance_120 : decode b_MOD_hasChance 120 = .ok (.ifCond .ne 7, 3) := by decide +kernel
theorem d_MOD_hasChance_123 : decode b_MOD_hasChance 123 = .ok (.iconst 1, 1) := by decide +kernel
theorem d_MOD_hasChance_124 : decode b_MOD_hasChance 124 = .ok (.goto 16, 3) := by decide +kernel
theorem d_MOD_hasChance_127 : decode b_MOD_hasChance 127 = .ok (.iconst 0, 1) := by decide +kernel
theorem d_MOD_hasChance_128 : decode b_MOD_hasChance 128 = .ok (.goto 12, 3) := by decide +kernel
theorem d_MOD_hasChance_131 : decode b_MOD_hasChance 131 = .ok (.iload_n 3, 1) := by decide +kernel
theorem d_MOD_hasChance_132 : decode b_MOD_hasChance 132 = .ok (.ifCond .ne 7, 3) := by decide +kernel
theorem d_MOD_hasChance_135 : decode b_MOD_hasChance 135 = .ok (.iconst 1, 1) := by decide +kernel
theorem d_MOD_hasChance_136 : decode b_MOD_hasChance 136 = .ok (.goto 4, 3) := by decide +kernel
theorem d_MOD_hasChance_139 : decode b_MOD_hasChance 139 = .ok (.iconst 0, 1) := by decide +kernel
theorem d_MOD_hasChance_140 : decode b_MOD_hasChance 140 = .ok (.ireturn, 1) := by decide +kernel
abbrev b_MOD_count_1 : ByteArray := prog_7_method_7_code
def y_MOD_count_1 : MethodName := ⟨R_MOD, "count", "(IZ)V"⟩
def w_MOD_count_1 : List Cond := .code y_MOD_count_1 b_MOD_count_1 3 none :: lwG
theorem d_MOD_count_1_0 : decode b_MOD_count_1 0 = .ok (.aload_n 0, 1) := by decide +kernel
theorem d_MOD_count_1_1 : decode b_MOD_count_1 1 = .ok (.getfield 19, 3) := by decide +kernel
theorem d_MOD_count_1_4 : decode b_MOD_count_1 4 = .ok (.iload_n 1, 1) := by decide +kernel
theorem d_MOD_count_1_5 : decode b_MOD_count_1 5 = .ok (.iaload, 1) := by decide +kernel
theorem d_MOD_count_1_6 : decode b_MOD_count_1 6 = .ok (.bipush 100, 2) := by decide +kernel
theorem d_MOD_count_1_8 : decode b_MOD_count_1 8 = .ok (.if_icmp .ne 31, 3) := by decide +kernel
theorem d_MOD_count_1_11 : decode b_MOD_count_1 11 = .ok (.aload_n 0, 1) := by decide +kernel
theorem d_MOD_count_1_12 : decode b_MOD_count_1 12 = .ok (.getfield 19, 3) := by decide +kernel
theorem d_MOD_count_1_15 : decode b_MOD_count_1 15 = .ok (.iload_n 1, 1) := by decide +kernel
theorem d_MOD_count_1_16 : decode b_MOD_count_1 16 = .ok (.aload_n 0, 1) := by decide +kernel
theorem d_MOD_count_1_17 : decode b_MOD_count_1 17 = .ok (.getfield 19, 3) := by decide +kernel
theorem d_MOD_count_1_20 : decode b_MOD_count_1 20 = .ok (.iload_n 1, 1) := by decide +kernel
theorem d_MOD_count_1_21 : decode b_MOD_count_1 21 = .ok (.iaload, 1) := by decide +kernel
theorem d_MOD_count_1_22 : decode b_MOD_count_1 22 = .ok (.iconst 2, 1) := by decide +kernel
theorem d_MOD_count_1_23 : decode b_MOD_count_1 23 = .ok (.idiv, 1) := by decide +kernel
theorem d_MOD_count_1_24 : decode b_MOD_count_1 24 = .ok (.iastore, 1) := by decide +kernel
theorem d_MOD_count_1_25 : decode b_MOD_count_1 25 = .ok (.aload_n 0, 1) := by decide +kernel
theorem d_MOD_count_1_26 : decode b_MOD_count_1 26 = .ok (.getfield 16, 3) := by decide +kernel
theorem d_MOD_count_1_29 : decode b_MOD_count_1 29 = .ok (.iload_n 1, 1) := by decide +kernel
theorem d_MOD_count_1_30 : decode b_MOD_count_1 30 = .ok (.aload_n 0, 1) := by decide +kernel
theorem d_MOD_count_1_31 : decode b_MOD_count_1 31 = .ok (.getfield 16, 3) := by decide +kernel
theorem d_MOD_count_1_34 : decode b_MOD_count_1 34 = .ok (.iload_n 1, 1) := by decide +kernel
theorem d_MOD_count_1_35 : decode b_MOD_count_1 35 = .ok (.iaload, 1) := by decide +kernel
theorem d_MOD_count_1_36 : decode b_MOD_count_1 36 = .ok (.iconst 2, 1) := by decide +kernel
theorem d_MOD_count_1_37 : decode b_MOD_count_1 37 = .ok (.idiv, 1) := by decide +kernel
theorem d_MOD_count_1_38 : decode b_MOD_count_1 38 = .ok (.iastore, 1) := by decide +kernel
theorem d_MOD_count_1_39 : decode b_MOD_count_1 39 = .ok (.aload_n 0, 1) := by decide +kernel
theorem d_MOD_count_1_40 : decode b_MOD_count_1 40 = .ok (.getfield 19, 3) := by decide +kernel
theorem d_MOD_count_1_43 : decode b_MOD_count_1 43 = .ok (.iload_n 1, 1) := by decide +kernel
theorem d_MOD_count_1_44 : decode b_MOD_count_1 44 = .ok (.dup2, 1) := by decide +kernel
theorem d_MOD_count_1_45 : decode b_MOD_count_1 45 = .ok (.iaload, 1) := by decide +kernel
theorem d_MOD_count_1_46 : decode b_MOD_count_1 46 = .ok (.iconst 1, 1) := by decide +kernel
theorem d_MOD_count_1_47 : decode b_MOD_count_1 47 = .ok (.iadd, 1) := by decide +kernel
theorem d_MOD_count_1_48 : decode b_MOD_count_1 48 = .ok (.iastore, 1) := by decide +kernel
theorem d_MOD_count_1_49 : decode b_MOD_count_1 49 = .ok (.aload_n 0, 1) := by decide +kernel
theorem d_MOD_count_1_50 : decode b_MOD_count_1 50 = .ok (.getfield 16, 3) := by decide +kernel
theorem d_MOD_count_1_53 : decode b_MOD_count_1 53 = .ok (.iload_n 1, 1) := by decide +kernel
theorem d_MOD_count_1_54 : decode b_MOD_count_1 54 = .ok (.dup2, 1) := by decide +kernel
theorem d_MOD_count_1_55 : decode b_MOD_count_1 55 = .ok (.iaload, 1) := by decide +kernel
theorem d_MOD_count_1_56 : decode b_MOD_count_1 56 = .ok (.iload_n 2, 1) := by decide +kernel
theorem d_MOD_count_1_57 : decode b_MOD_count_1 57 = .ok (.ifCond .eq 7, 3) := by decide +kernel
theorem d_MOD_count_1_60 : decode b_MOD_count_1 60 = .ok (.iconst 1, 1) := by decide +kernel
theorem d_MOD_count_1_61 : decode b_MOD_count_1 61 = .ok (.goto 4, 3) := by decide +kernel
theorem d_MOD_count_1_64 : decode b_MOD_count_1 64 = .ok (.iconst 0, 1) := by decide +kernel
theorem d_MOD_count_1_65 : decode b_MOD_count_1 65 = .ok (.iadd, 1) := by decide +kernel
theorem d_MOD_count_1_66 : decode b_MOD_count_1 66 = .ok (.iastore, 1) := by decide +kernel
theorem d_MOD_count_1_67 : decode b_MOD_count_1 67 = .ok (.return_, 1) := by decide +kernel
abbrev b_MOD_endOn : ByteArray := prog_7_method_8_code
def y_MOD_endOn : MethodName := ⟨R_MOD, "endOn", "(II)V"⟩
def w_MOD_endOn : List Cond := .code y_MOD_endOn b_MOD_endOn 3 none :: lwG
theorem d_MOD_endOn_0 : decode b_MOD_endOn 0 = .ok (.aload_n 0, 1) := by decide +kernel
theorem d_MOD_endOn_1 : decode b_MOD_endOn 1 = .ok (.getfield 44, 3) := by decide +kernel
theorem d_MOD_endOn_4 : decode b_MOD_endOn 4 = .ok (.iload_n 1, 1) := by decide +kernel
theorem d_MOD_endOn_5 : decode b_MOD_endOn 5 = .ok (.iconst 0, 1) := by decide +kernel
theorem d_MOD_endOn_6 : decode b_MOD_endOn 6 = .ok (.iastore, 1) := by decide +kernel
theorem d_MOD_endOn_7 : decode b_MOD_endOn 7 = .ok (.aload_n 0, 1) := by decide +kernel
theorem d_MOD_endOn_8 : decode b_MOD_endOn 8 = .ok (.getfield 47, 3) := by decide +kernel
theorem d_MOD_endOn_11 : decode b_MOD_endOn 11 = .ok (.iload_n 1, 1) := by decide +kernel
theorem d_MOD_endOn_12 : decode b_MOD_endOn 12 = .ok (.iconst 0, 1) := by decide +kernel
theorem d_MOD_endOn_13 : decode b_MOD_endOn 13 = .ok (.iastore, 1) := by decide +kernel
theorem d_MOD_endOn_14 : decode b_MOD_endOn 14 = .ok (.aload_n 0, 1) := by decide +kernel
theorem d_MOD_endOn_15 : decode b_MOD_endOn 15 = .ok (.getfield 35, 3) := by decide +kernel
theorem d_MOD_endOn_18 : decode b_MOD_endOn 18 = .ok (.iload_n 1, 1) := by decide +kernel
theorem d_MOD_endOn_19 : decode b_MOD_endOn 19 = .ok (.baload, 1) := by decide +kernel
theorem d_MOD_endOn_20 : decode b_MOD_endOn 20 = .ok (.ifCond .eq 27, 3) := by decide +kernel
theorem d_MOD_endOn_23 : decode b_MOD_endOn 23 = .ok (.aload_n 0, 1) := by decide +kernel
theorem d_MOD_endOn_24 : decode b_MOD_endOn 24 = .ok (.getfield 35, 3) := by decide +kernel
theorem d_MOD_endOn_27 : decode b_MOD_endOn 27 = .ok (.iload_n 1, 1) := by decide +kernel
theorem d_MOD_endOn_28 : decode b_MOD_endOn 28 = .ok (.iconst 0, 1) := by decide +kernel
theorem d_MOD_endOn_29 : decode b_MOD_endOn 29 = .ok (.bastore, 1) := by decide +kernel
theorem d_MOD_endOn_30 : decode b_MOD_endOn 30 = .ok (.aload_n 0, 1) := by decide +kernel
theorem d_MOD_endOn_31 : decode b_MOD_endOn 31 = .ok (.getfield 38, 3) := by decide +kernel
theorem d_MOD_endOn_34 : decode b_MOD_endOn 34 = .ok (.iload_n 1, 1) := by decide +kernel
theorem d_MOD_endOn_35 : decode b_MOD_endOn 35 = .ok (.iconst 1, 1) := by decide +kernel
theorem d_MOD_endOn_36 : decode b_MOD_endOn 36 = .ok (.bastore, 1) := by decide +kernel
theorem d_MOD_endOn_37 : decode b_MOD_endOn 37 = .ok (.aload_n 0, 1) := by decide +kernel
theorem d_MOD_endOn_38 : decode b_MOD_endOn 38 = .ok (.getfield 41, 3) := by decide +kernel
theorem d_MOD_endOn_41 : decode b_MOD_endOn 41 = .ok (.iload_n 1, 1) := by decide +kernel
theorem d_MOD_endOn_42 : decode b_MOD_endOn 42 = .ok (.iconst 1, 1) := by decide +kernel
theorem d_MOD_endOn_43 : decode b_MOD_endOn 43 = .ok (.bastore, 1) := by decide +kernel
theorem d_MOD_endOn_44 : decode b_MOD_endOn 44 = .ok (.goto 43, 3) := by decide +kernel
theorem d_MOD_endOn_47 : decode b_MOD_endOn 47 = .ok (.aload_n 0, 1) := by decide +kernel
theorem d_MOD_endOn_48 : decode b_MOD_endOn 48 = .ok (.getfield 38, 3) := by decide +kernel
theorem d_MOD_endOn_51 : decode b_MOD_endOn 51 = .ok (.iload_n 1, 1) := by decide +kernel
theorem d_MOD_endOn_52 : decode b_MOD_endOn 52 = .ok (.baload, 1) := by decide +kernel
theorem d_MOD_endOn_53 : decode b_MOD_endOn 53 = .ok (.ifCond .ne 34, 3) := by decide +kernel
theorem d_MOD_endOn_56 : decode b_MOD_endOn 56 = .ok (.aload_n 0, 1) := by decide +kernel
theorem d_MOD_endOn_57 : decode b_MOD_endOn 57 = .ok (.getfield 35, 3) := by decide +kernel
theorem d_MOD_endOn_60 : decode b_MOD_endOn 60 = .ok (.iload_n 1, 1) := by decide +kernel
theorem d_MOD_endOn_61 : decode b_MOD_endOn 61 = .ok (.iconst 1, 1) := by decide +kernel
theorem d_MOD_endOn_62 : decode b_MOD_endOn 62 = .ok (.bastore, 1) := by decide +kernel
theorem d_MOD_endOn_63 : decode b_MOD_endOn 63 = .ok (.aload_n 0, 1) := by decide +kernel
theorem d_MOD_endOn_64 : decode b_MOD_endOn 64 = .ok (.getfield 50, 3) := by decide +kernel
theorem d_MOD_endOn_67 : decode b_MOD_endOn 67 = .ok (.iload_n 1, 1) := by decide +kernel
theorem d_MOD_endOn_68 : decode b_MOD_endOn 68 = .ok (.iconst 1, 1) := by decide +kernel
theorem d_MOD_endOn_69 : decode b_MOD_endOn 69 = .ok (.bastore, 1) := by decide +kernel
theorem d_MOD_endOn_70 : decode b_MOD_endOn 70 = .ok (.aload_n 0, 1) := by decide +kernel
theorem d_MOD_endOn_71 : decode b_MOD_endOn 71 = .ok (.getfield 53, 3) := by decide +kernel
theorem d_MOD_endOn_74 : decode b_MOD_endOn 74 = .ok (.iload_n 1, 1) := by decide +kernel
theorem d_MOD_endOn_75 : decode b_MOD_endOn 75 = .ok (.aload_n 0, 1) := by decide +kernel
theorem d_MOD_endOn_76 : decode b_MOD_endOn 76 = .ok (.getfield 81, 3) := by decide +kernel
theorem d_MOD_endOn_79 : decode b_MOD_endOn 79 = .ok (.iastore, 1) := by decide +kernel
theorem d_MOD_endOn_80 : decode b_MOD_endOn 80 = .ok (.aload_n 0, 1) := by decide +kernel
theorem d_MOD_endOn_81 : decode b_MOD_endOn 81 = .ok (.getfield 56, 3) := by decide +kernel
theorem d_MOD_endOn_84 : decode b_MOD_endOn 84 = .ok (.iload_n 1, 1) := by decide +kernel
theorem d_MOD_endOn_85 : decode b_MOD_endOn 85 = .ok (.iload_n 2, 1) := by decide +kernel
theorem d_MOD_endOn_86 : decode b_MOD_endOn 86 = .ok (.iastore, 1) := by decide +kernel
theorem d_MOD_endOn_87 : decode b_MOD_endOn 87 = .ok (.return_, 1) := by decide +kernel
abbrev b_MOD_endOff : ByteArray := prog_7_method_9_code
def y_MOD_endOff : MethodName := ⟨R_MOD, "endOff", "(II)V"⟩
def w_MOD_endOff : List Cond := .code y_MOD_endOff b_MOD_endOff 3 none :: lwG
theorem d_MOD_endOff_0 : decode b_MOD_endOff 0 = .ok (.aload_n 0, 1) := by decide +kernel
theorem d_MOD_endOff_1 : decode b_MOD_endOff 1 = .ok (.getfield 35, 3) := by decide +kernel
theorem d_MOD_endOff_4 : decode b_MOD_endOff 4 = .ok (.iload_n 1, 1) := by decide +kernel
theorem d_MOD_endOff_5 : decode b_MOD_endOff 5 = .ok (.baload, 1) := by decide +kernel
theorem d_MOD_endOff_6 : decode b_MOD_endOff 6 = .ok (.ifCond .eq 17, 3) := by decide +kernel
theorem d_MOD_endOff_9 : decode b_MOD_endOff 9 = .ok (.aload_n 0, 1) := by decide +kernel
theorem d_MOD_endOff_10 : decode b_MOD_endOff 10 = .ok (.getfield 35, 3) := by decide +kernel
theorem d_MOD_endOff_13 : decode b_MOD_endOff 13 = .ok (.iload_n 1, 1) := by decide +kernel
theorem d_MOD_endOff_14 : decode b_MOD_endOff 14 = .ok (.iconst 0, 1) := by decide +kernel
theorem d_MOD_endOff_15 : decode b_MOD_endOff 15 = .ok (.bastore, 1) := by decide +kernel
theorem d_MOD_endOff_16 : decode b_MOD_endOff 16 = .ok (.aload_n 0, 1) := by decide +kernel
theorem d_MOD_endOff_17 : decode b_MOD_endOff 17 = .ok (.getfield 50, 3) := by decide +kernel
theorem d_MOD_endOff_20 : decode b_MOD_endOff 20 = .ok (.iload_n 1, 1) := by decide +kernel
theorem d_MOD_endOff_21 : decode b_MOD_endOff 21 = .ok (.iconst 0, 1) := by decide +kernel
theorem d_MOD_endOff_22 : decode b_MOD_endOff 22 = .ok (.bastore, 1) := by decide +kernel
theorem d_MOD_endOff_23 : decode b_MOD_endOff 23 = .ok (.aload_n 0, 1) := by decide +kernel
theorem d_MOD_endOff_24 : decode b_MOD_endOff 24 = .ok (.getfield 44, 3) := by decide +kernel
theorem d_MOD_endOff_27 : decode b_MOD_endOff 27 = .ok (.iload_n 1, 1) := by decide +kernel
theorem d_MOD_endOff_28 : decode b_MOD_endOff 28 = .ok (.dup2, 1) := by decide +kernel
theorem d_MOD_endOff_29 : decode b_MOD_endOff 29 = .ok (.iaload, 1) := by decide +kernel
theorem d_MOD_endOff_30 : decode b_MOD_endOff 30 = .ok (.iconst 1, 1) := by decide +kernel
theorem d_MOD_endOff_31 : decode b_MOD_endOff 31 = .ok (.iadd, 1) := by decide +kernel
theorem d_MOD_endOff_32 : decode b_MOD_endOff 32 = .ok (.iastore, 1) := by decide +kernel
theorem d_MOD_endOff_33 : decode b_MOD_endOff 33 = .ok (.aload_n 0, 1) := by decide +kernel
theorem d_MOD_endOff_34 : decode b_MOD_endOff 34 = .ok (.getfield 47, 3) := by decide +kernel
theorem d_MOD_endOff_37 : decode b_MOD_endOff 37 = .ok (.iload_n 1, 1) := by decide +kernel
theorem d_MOD_endOff_38 : decode b_MOD_endOff 38 = .ok (.dup2, 1) := by decide +kernel
theorem d_MOD_endOff_39 : decode b_MOD_endOff 39 = .ok (.iaload, 1) := by decide +kernel
theorem d_MOD_endOff_40 : decode b_MOD_endOff 40 = .ok (.iload_n 2, 1) := by decide +kernel
theorem d_MOD_endOff_41 : decode b_MOD_endOff 41 = .ok (.iconst 0, 1) := by decide +kernel
theorem d_MOD_endOff_42 : decode b_MOD_endOff 42 = .ok (.invokestatic 77, 3) := by decide +kernel
theorem d_MOD_endOff_45 : decode b_MOD_endOff 45 = .ok (.ifCond .eq 7, 3) := by decide +kernel
theorem d_MOD_endOff_48 : decode b_MOD_endOff 48 = .ok (.iconst 1, 1) := by decide +kernel
theorem d_MOD_endOff_49 : decode b_MOD_endOff 49 = .ok (.goto 4, 3) := by decide +kernel
theorem d_MOD_endOff_52 : decode b_MOD_endOff 52 = .ok (.iconst 0, 1) := by decide +kernel
theorem d_MOD_endOff_53 : decode b_MOD_endOff 53 = .ok (.iadd, 1) := by decide +kernel
theorem d_MOD_endOff_54 : decode b_MOD_endOff 54 = .ok (.iastore, 1) := by decide +kernel
theorem d_MOD_endOff_55 : decode b_MOD_endOff 55 = .ok (.aload_n 0, 1) := by decide +kernel
theorem d_MOD_endOff_56 : decode b_MOD_endOff 56 = .ok (.getfield 38, 3) := by decide +kernel
theorem d_MOD_endOff_59 : decode b_MOD_endOff 59 = .ok (.iload_n 1, 1) := by decide +kernel
theorem d_MOD_endOff_60 : decode b_MOD_endOff 60 = .ok (.baload, 1) := by decide +kernel
theorem d_MOD_endOff_61 : decode b_MOD_endOff 61 = .ok (.ifCond .eq 27, 3) := by decide +kernel
theorem d_MOD_endOff_64 : decode b_MOD_endOff 64 = .ok (.aload_n 0, 1) := by decide +kernel
theorem d_MOD_endOff_65 : decode b_MOD_endOff 65 = .ok (.getfield 44, 3) := by decide +kernel
theorem d_MOD_endOff_68 : decode b_MOD_endOff 68 = .ok (.iload_n 1, 1) := by decide +kernel
theorem d_MOD_endOff_69 : decode b_MOD_endOff 69 = .ok (.iaload, 1) := by decide +kernel
theorem d_MOD_endOff_70 : decode b_MOD_endOff 70 = .ok (.iconst 3, 1) := by decide +kernel
theorem d_MOD_endOff_71 : decode b_MOD_endOff 71 = .ok (.if_icmp .lt 17, 3) := by decide +kernel
theorem d_MOD_endOff_74 : decode b_MOD_endOff 74 = .ok (.aload_n 0, 1) := by decide +kernel
theorem d_MOD_endOff_75 : decode b_MOD_endOff 75 = .ok (.getfield 38, 3) := by decide +kernel
theorem d_MOD_endOff_78 : decode b_MOD_endOff 78 = .ok (.iload_n 1, 1) := by decide +kernel
theorem d_MOD_endOff_79 : decode b_MOD_endOff 79 = .ok (.iconst 0, 1) := by decide +kernel
theorem d_MOD_endOff_80 : decode b_MOD_endOff 80 = .ok (.bastore, 1) := by decide +kernel
theorem d_MOD_endOff_81 : decode b_MOD_endOff 81 = .ok (.aload_n 0, 1) := by decide +kernel
theorem d_MOD_endOff_82 : decode b_MOD_endOff 82 = .ok (.getfield 50, 3) := by decide +kernel
theorem d_MOD_endOff_85 : decode b_MOD_endOff 85 = .ok (.iload_n 1, 1) := by decide +kernel
theorem d_MOD_endOff_86 : decode b_MOD_endOff 86 = .ok (.iconst 0, 1) := by decide +kernel
theorem d_MOD_endOff_87 : decode b_MOD_endOff 87 = .ok (.bastore, 1) := by decide +kernel
theorem d_MOD_endOff_88 : decode b_MOD_endOff 88 = .ok (.aload_n 0, 1) := by decide +kernel
theorem d_MOD_endOff_89 : decode b_MOD_endOff 89 = .ok (.getfield 41, 3) := by decide +kernel
theorem d_MOD_endOff_92 : decode b_MOD_endOff 92 = .ok (.iload_n 1, 1) := by decide +kernel
theorem d_MOD_endOff_93 : decode b_MOD_endOff 93 = .ok (.aload_n 0, 1) := by decide +kernel
theorem d_MOD_endOff_94 : decode b_MOD_endOff 94 = .ok (.getfield 41, 3) := by decide +kernel
theorem d_MOD_endOff_97 : decode b_MOD_endOff 97 = .ok (.iload_n 1, 1) := by decide +kernel
theorem d_MOD_endOff_98 : decode b_MOD_endOff 98 = .ok (.baload, 1) := by decide +kernel
theorem d_MOD_endOff_99 : decode b_MOD_endOff 99 = .ok (.ifCond .eq 17, 3) := by decide +kernel
theorem d_MOD_endOff_102 : decode b_MOD_endOff 102 = .ok (.aload_n 0, 1) := by decide +kernel
theorem d_MOD_endOff_103 : decode b_MOD_endOff 103 = .ok (.getfield 47, 3) := by decide +kernel
theorem d_MOD_endOff_106 : decode b_MOD_endOff 106 = .ok (.iload_n 1, 1) := by decide +kernel
theorem d_MOD_endOff_107 : decode b_MOD_endOff 107 = .ok (.iaload, 1) := by decide +kernel
theorem d_MOD_endOff_108 : decode b_MOD_endOff 108 = .ok (.iconst 3, 1) := by decide +kernel
theorem d_MOD_endOff_109 : decode b_MOD_endOff 109 = .ok (.if_icmp .ge 7, 3) := by decide +kernel
theorem d_MOD_endOff_112 : decode b_MOD_endOff 112 = .ok (.iconst 1, 1) := by decide +kernel
theorem d_MOD_endOff_113 : decode b_MOD_endOff 113 = .ok (.goto 4, 3) := by decide +kernel
theorem d_MOD_endOff_116 : decode b_MOD_endOff 116 = .ok (.iconst 0, 1) := by decide +kernel
theorem d_MOD_endOff_117 : decode b_MOD_endOff 117 = .ok (.bastore, 1) := by decide +kernel
theorem d_MOD_endOff_118 : decode b_MOD_endOff 118 = .ok (.return_, 1) := by decide +kernel
