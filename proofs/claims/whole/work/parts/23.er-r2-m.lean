abbrev b_ER_kindsNotReady : ByteArray := prog_1_method_24_code
def y_ER_kindsNotReady : MethodName := ⟨R_ER, "kindsNotReady", "()I"⟩
def w_ER_kindsNotReady : List Cond := .code y_ER_kindsNotReady b_ER_kindsNotReady 3 (some .int) :: lwG
theorem d_ER_kindsNotReady_0 : decode b_ER_kindsNotReady 0 = .ok (.iconst 0, 1) := by decide +kernel
theorem d_ER_kindsNotReady_1 : decode b_ER_kindsNotReady 1 = .ok (.istore_n 1, 1) := by decide +kernel
theorem d_ER_kindsNotReady_2 : decode b_ER_kindsNotReady 2 = .ok (.iconst 0, 1) := by decide +kernel
theorem d_ER_kindsNotReady_3 : decode b_ER_kindsNotReady 3 = .ok (.istore_n 2, 1) := by decide +kernel
theorem d_ER_kindsNotReady_4 : decode b_ER_kindsNotReady 4 = .ok (.iload_n 2, 1) := by decide +kernel
theorem d_ER_kindsNotReady_5 : decode b_ER_kindsNotReady 5 = .ok (.iconst 4, 1) := by decide +kernel
theorem d_ER_kindsNotReady_6 : decode b_ER_kindsNotReady 6 = .ok (.if_icmp .ge 23, 3) := by decide +kernel
theorem d_ER_kindsNotReady_9 : decode b_ER_kindsNotReady 9 = .ok (.aload_n 0, 1) := by decide +kernel
theorem d_ER_kindsNotReady_10 : decode b_ER_kindsNotReady 10 = .ok (.iload_n 2, 1) := by decide +kernel
theorem d_ER_kindsNotReady_11 : decode b_ER_kindsNotReady 11 = .ok (.invokevirtual 96, 3) := by decide +kernel
theorem d_ER_kindsNotReady_14 : decode b_ER_kindsNotReady 14 = .ok (.ifCond .ne 9, 3) := by decide +kernel
theorem d_ER_kindsNotReady_17 : decode b_ER_kindsNotReady 17 = .ok (.iload_n 1, 1) := by decide +kernel
theorem d_ER_kindsNotReady_18 : decode b_ER_kindsNotReady 18 = .ok (.iconst 1, 1) := by decide +kernel
theorem d_ER_kindsNotReady_19 : decode b_ER_kindsNotReady 19 = .ok (.iload_n 2, 1) := by decide +kernel
theorem d_ER_kindsNotReady_20 : decode b_ER_kindsNotReady 20 = .ok (.ishl, 1) := by decide +kernel
theorem d_ER_kindsNotReady_21 : decode b_ER_kindsNotReady 21 = .ok (.ior, 1) := by decide +kernel
theorem d_ER_kindsNotReady_22 : decode b_ER_kindsNotReady 22 = .ok (.istore_n 1, 1) := by decide +kernel
theorem d_ER_kindsNotReady_23 : decode b_ER_kindsNotReady 23 = .ok (.iinc 2 1, 3) := by decide +kernel
theorem d_ER_kindsNotReady_26 : decode b_ER_kindsNotReady 26 = .ok (.goto (-22), 3) := by decide +kernel
theorem d_ER_kindsNotReady_29 : decode b_ER_kindsNotReady 29 = .ok (.iload_n 1, 1) := by decide +kernel
theorem d_ER_kindsNotReady_30 : decode b_ER_kindsNotReady 30 = .ok (.ireturn, 1) := by decide +kernel
abbrev b_ER_inTwoOctets : ByteArray := prog_1_method_29_code
def y_ER_inTwoOctets : MethodName := ⟨R_ER, "inTwoOctets", "(J)I"⟩
def w_ER_inTwoOctets : List Cond := .code y_ER_inTwoOctets b_ER_inTwoOctets 2 (some .int) :: lwG
theorem d_ER_inTwoOctets_0 : decode b_ER_inTwoOctets 0 = .ok (.lload_n 0, 1) := by decide +kernel
theorem d_ER_inTwoOctets_1 : decode b_ER_inTwoOctets 1 = .ok (.ldc2_w 231, 3) := by decide +kernel
theorem d_ER_inTwoOctets_4 : decode b_ER_inTwoOctets 4 = .ok (.invokestatic 233, 3) := by decide +kernel
theorem d_ER_inTwoOctets_7 : decode b_ER_inTwoOctets 7 = .ok (.l2i, 1) := by decide +kernel
theorem d_ER_inTwoOctets_8 : decode b_ER_inTwoOctets 8 = .ok (.ireturn, 1) := by decide +kernel
abbrev b_ER_inLowestTerms : ByteArray := prog_1_method_30_code
def y_ER_inLowestTerms : MethodName := ⟨R_ER, "inLowestTerms", "(III)I"⟩
def w_ER_inLowestTerms : List Cond := .code y_ER_inLowestTerms b_ER_inLowestTerms 4 (some .int) :: lwG
theorem d_ER_inLowestTerms_0 : decode b_ER_inLowestTerms 0 = .ok (.iload_n 2, 1) := by decide +kernel
theorem d_ER_inLowestTerms_1 : decode b_ER_inLowestTerms 1 = .ok (.istore_n 3, 1) := by decide +kernel
theorem d_ER_inLowestTerms_2 : decode b_ER_inLowestTerms 2 = .ok (.iload_n 3, 1) := by decide +kernel
theorem d_ER_inLowestTerms_3 : decode b_ER_inLowestTerms 3 = .ok (.iconst 1, 1) := by decide +kernel
theorem d_ER_inLowestTerms_4 : decode b_ER_inLowestTerms 4 = .ok (.if_icmp .le 25, 3) := by decide +kernel
theorem d_ER_inLowestTerms_7 : decode b_ER_inLowestTerms 7 = .ok (.iload_n 1, 1) := by decide +kernel
theorem d_ER_inLowestTerms_8 : decode b_ER_inLowestTerms 8 = .ok (.iload_n 3, 1) := by decide +kernel
theorem d_ER_inLowestTerms_9 : decode b_ER_inLowestTerms 9 = .ok (.irem, 1) := by decide +kernel
theorem d_ER_inLowestTerms_10 : decode b_ER_inLowestTerms 10 = .ok (.ifCond .ne 13, 3) := by decide +kernel
theorem d_ER_inLowestTerms_13 : decode b_ER_inLowestTerms 13 = .ok (.iload_n 2, 1) := by decide +kernel
theorem d_ER_inLowestTerms_14 : decode b_ER_inLowestTerms 14 = .ok (.iload_n 3, 1) := by decide +kernel
theorem d_ER_inLowestTerms_15 : decode b_ER_inLowestTerms 15 = .ok (.irem, 1) := by decide +kernel
theorem d_ER_inLowestTerms_16 : decode b_ER_inLowestTerms 16 = .ok (.ifCond .ne 7, 3) := by decide +kernel
theorem d_ER_inLowestTerms_19 : decode b_ER_inLowestTerms 19 = .ok (.iload_n 0, 1) := by decide +kernel
theorem d_ER_inLowestTerms_20 : decode b_ER_inLowestTerms 20 = .ok (.iload_n 3, 1) := by decide +kernel
theorem d_ER_inLowestTerms_21 : decode b_ER_inLowestTerms 21 = .ok (.idiv, 1) := by decide +kernel
theorem d_ER_inLowestTerms_22 : decode b_ER_inLowestTerms 22 = .ok (.ireturn, 1) := by decide +kernel
theorem d_ER_inLowestTerms_23 : decode b_ER_inLowestTerms 23 = .ok (.iinc 3 (-1), 3) := by decide +kernel
theorem d_ER_inLowestTerms_26 : decode b_ER_inLowestTerms 26 = .ok (.goto (-24), 3) := by decide +kernel
theorem d_ER_inLowestTerms_29 : decode b_ER_inLowestTerms 29 = .ok (.iload_n 0, 1) := by decide +kernel
theorem d_ER_inLowestTerms_30 : decode b_ER_inLowestTerms 30 = .ok (.ireturn, 1) := by decide +kernel
abbrev b_ER_count : ByteArray := prog_1_method_4_code
def y_ER_count : MethodName := ⟨R_ER, "count", "(II)I"⟩
def w_ER_count : List Cond := .code y_ER_count b_ER_count 4 (some .int) :: lwG
theorem d_ER_count_0 : decode b_ER_count 0 = .ok (.aload_n 0, 1) := by decide +kernel
theorem d_ER_count_1 : decode b_ER_count 1 = .ok (.iload_n 1, 1) := by decide +kernel
theorem d_ER_count_2 : decode b_ER_count 2 = .ok (.invokevirtual 70, 3) := by decide +kernel
theorem d_ER_count_5 : decode b_ER_count 5 = .ok (.ifCond .ne 5, 3) := by decide +kernel
theorem d_ER_count_8 : decode b_ER_count 8 = .ok (.iconst (-1), 1) := by decide +kernel
theorem d_ER_count_9 : decode b_ER_count 9 = .ok (.ireturn, 1) := by decide +kernel
theorem d_ER_count_10 : decode b_ER_count 10 = .ok (.aload_n 0, 1) := by decide +kernel
theorem d_ER_count_11 : decode b_ER_count 11 = .ok (.getfield 10, 3) := by decide +kernel
theorem d_ER_count_14 : decode b_ER_count 14 = .ok (.iload_n 1, 1) := by decide +kernel
theorem d_ER_count_15 : decode b_ER_count 15 = .ok (.iconst 1, 1) := by decide +kernel
theorem d_ER_count_16 : decode b_ER_count 16 = .ok (.isub, 1) := by decide +kernel
theorem d_ER_count_17 : decode b_ER_count 17 = .ok (.invokevirtual 73, 3) := by decide +kernel
theorem d_ER_count_20 : decode b_ER_count 20 = .ok (.checkcast 45, 3) := by decide +kernel
theorem d_ER_count_23 : decode b_ER_count 23 = .ok (.astore_n 3, 1) := by decide +kernel
theorem d_ER_count_24 : decode b_ER_count 24 = .ok (.iload_n 2, 1) := by decide +kernel
theorem d_ER_count_25 : decode b_ER_count 25 = .ok (.ifCond .ne 10, 3) := by decide +kernel
theorem d_ER_count_28 : decode b_ER_count 28 = .ok (.aload_n 3, 1) := by decide +kernel
theorem d_ER_count_29 : decode b_ER_count 29 = .ok (.getfield 77, 3) := by decide +kernel
theorem d_ER_count_32 : decode b_ER_count 32 = .ok (.goto 7, 3) := by decide +kernel
theorem d_ER_count_35 : decode b_ER_count 35 = .ok (.aload_n 3, 1) := by decide +kernel
theorem d_ER_count_36 : decode b_ER_count 36 = .ok (.getfield 80, 3) := by decide +kernel
theorem d_ER_count_39 : decode b_ER_count 39 = .ok (.ireturn, 1) := by decide +kernel
abbrev b_ER_freeze : ByteArray := prog_1_method_11_code
def y_ER_freeze : MethodName := ⟨R_ER, "freeze", "(I)I"⟩
def w_ER_freeze : List Cond := .code y_ER_freeze b_ER_freeze 3 (some .int) :: lwG
theorem d_ER_freeze_0 : decode b_ER_freeze 0 = .ok (.iload_n 1, 1) := by decide +kernel
theorem d_ER_freeze_1 : decode b_ER_freeze 1 = .ok (.ifCond .lt 8, 3) := by decide +kernel
theorem d_ER_freeze_4 : decode b_ER_freeze 4 = .ok (.iload_n 1, 1) := by decide +kernel
theorem d_ER_freeze_5 : decode b_ER_freeze 5 = .ok (.iconst 3, 1) := by decide +kernel
theorem d_ER_freeze_6 : decode b_ER_freeze 6 = .ok (.if_icmp .le 6, 3) := by decide +kernel
theorem d_ER_freeze_9 : decode b_ER_freeze 9 = .ok (.bipush (-2), 2) := by decide +kernel
theorem d_ER_freeze_11 : decode b_ER_freeze 11 = .ok (.ireturn, 1) := by decide +kernel
theorem d_ER_freeze_12 : decode b_ER_freeze 12 = .ok (.iload_n 1, 1) := by decide +kernel
theorem d_ER_freeze_13 : decode b_ER_freeze 13 = .ok (.iconst 3, 1) := by decide +kernel
theorem d_ER_freeze_14 : decode b_ER_freeze 14 = .ok (.if_icmp .ne 14, 3) := by decide +kernel
theorem d_ER_freeze_17 : decode b_ER_freeze 17 = .ok (.aload_n 0, 1) := by decide +kernel
theorem d_ER_freeze_18 : decode b_ER_freeze 18 = .ok (.getfield 22, 3) := by decide +kernel
theorem d_ER_freeze_21 : decode b_ER_freeze 21 = .ok (.getfield 134, 3) := by decide +kernel
theorem d_ER_freeze_24 : decode b_ER_freeze 24 = .ok (.invokestatic 138, 3) := by decide +kernel
theorem d_ER_freeze_27 : decode b_ER_freeze 27 = .ok (.ireturn, 1) := by decide +kernel
theorem d_ER_freeze_28 : decode b_ER_freeze 28 = .ok (.aload_n 0, 1) := by decide +kernel
theorem d_ER_freeze_29 : decode b_ER_freeze 29 = .ok (.invokevirtual 142, 3) := by decide +kernel
theorem d_ER_freeze_32 : decode b_ER_freeze 32 = .ok (.astore_n 2, 1) := by decide +kernel
theorem d_ER_freeze_33 : decode b_ER_freeze 33 = .ok (.aload_n 2, 1) := by decide +kernel
theorem d_ER_freeze_34 : decode b_ER_freeze 34 = .ok (.ifnonnull 5, 3) := by decide +kernel
theorem d_ER_freeze_37 : decode b_ER_freeze 37 = .ok (.iconst 0, 1) := by decide +kernel
theorem d_ER_freeze_38 : decode b_ER_freeze 38 = .ok (.ireturn, 1) := by decide +kernel
theorem d_ER_freeze_39 : decode b_ER_freeze 39 = .ok (.iload_n 1, 1) := by decide +kernel
theorem d_ER_freeze_40 : decode b_ER_freeze 40 = .ok (.ifCond .ne 8, 3) := by decide +kernel
theorem d_ER_freeze_43 : decode b_ER_freeze 43 = .ok (.aload_n 2, 1) := by decide +kernel
theorem d_ER_freeze_44 : decode b_ER_freeze 44 = .ok (.getfield 116, 3) := by decide +kernel
theorem d_ER_freeze_47 : decode b_ER_freeze 47 = .ok (.ireturn, 1) := by decide +kernel
theorem d_ER_freeze_48 : decode b_ER_freeze 48 = .ok (.iload_n 1, 1) := by decide +kernel
theorem d_ER_freeze_49 : decode b_ER_freeze 49 = .ok (.iconst 1, 1) := by decide +kernel
theorem d_ER_freeze_50 : decode b_ER_freeze 50 = .ok (.if_icmp .ne 10, 3) := by decide +kernel
theorem d_ER_freeze_53 : decode b_ER_freeze 53 = .ok (.aload_n 2, 1) := by decide +kernel
theorem d_ER_freeze_54 : decode b_ER_freeze 54 = .ok (.getfield 146, 3) := by decide +kernel
theorem d_ER_freeze_57 : decode b_ER_freeze 57 = .ok (.goto 7, 3) := by decide +kernel
theorem d_ER_freeze_60 : decode b_ER_freeze 60 = .ok (.aload_n 2, 1) := by decide +kernel
theorem d_ER_freeze_61 : decode b_ER_freeze 61 = .ok (.getfield 149, 3) := by decide +kernel
theorem d_ER_freeze_64 : decode b_ER_freeze 64 = .ok (.ireturn, 1) := by decide +kernel
abbrev b_ER_sum : ByteArray := prog_1_method_14_code
def y_ER_sum : MethodName := ⟨R_ER, "sum", "()I"⟩
def w_ER_sum : List Cond := .code y_ER_sum b_ER_sum 1 (some .int) :: lwG
theorem d_ER_sum_0 : decode b_ER_sum 0 = .ok (.aload_n 0, 1) := by decide +kernel
theorem d_ER_sum_1 : decode b_ER_sum 1 = .ok (.getfield 29, 3) := by decide +kernel
theorem d_ER_sum_4 : decode b_ER_sum 4 = .ok (.invokevirtual 182, 3) := by decide +kernel
theorem d_ER_sum_7 : decode b_ER_sum 7 = .ok (.ireturn, 1) := by decide +kernel
