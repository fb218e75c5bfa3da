abbrev b_MOD_confirmedCodes : ByteArray := prog_7_method_10_code
def y_MOD_confirmedCodes : MethodName := ⟨R_MOD, "confirmedCodes", "()I"⟩
def w_MOD_confirmedCodes : List Cond := .code y_MOD_confirmedCodes b_MOD_confirmedCodes 3 (some .int) :: lwG
theorem d_MOD_confirmedCodes_0 : decode b_MOD_confirmedCodes 0 = .ok (.iconst 0, 1) := by decide +kernel
theorem d_MOD_confirmedCodes_1 : decode b_MOD_confirmedCodes 1 = .ok (.istore_n 1, 1) := by decide +kernel
theorem d_MOD_confirmedCodes_2 : decode b_MOD_confirmedCodes 2 = .ok (.iconst 0, 1) := by decide +kernel
theorem d_MOD_confirmedCodes_3 : decode b_MOD_confirmedCodes 3 = .ok (.istore_n 2, 1) := by decide +kernel
theorem d_MOD_confirmedCodes_4 : decode b_MOD_confirmedCodes 4 = .ok (.iload_n 2, 1) := by decide +kernel
theorem d_MOD_confirmedCodes_5 : decode b_MOD_confirmedCodes 5 = .ok (.aload_n 0, 1) := by decide +kernel
theorem d_MOD_confirmedCodes_6 : decode b_MOD_confirmedCodes 6 = .ok (.getfield 84, 3) := by decide +kernel
theorem d_MOD_confirmedCodes_9 : decode b_MOD_confirmedCodes 9 = .ok (.if_icmp .ge 26, 3) := by decide +kernel
theorem d_MOD_confirmedCodes_12 : decode b_MOD_confirmedCodes 12 = .ok (.iload_n 1, 1) := by decide +kernel
theorem d_MOD_confirmedCodes_13 : decode b_MOD_confirmedCodes 13 = .ok (.aload_n 0, 1) := by decide +kernel
theorem d_MOD_confirmedCodes_14 : decode b_MOD_confirmedCodes 14 = .ok (.getfield 38, 3) := by decide +kernel
theorem d_MOD_confirmedCodes_17 : decode b_MOD_confirmedCodes 17 = .ok (.iload_n 2, 1) := by decide +kernel
theorem d_MOD_confirmedCodes_18 : decode b_MOD_confirmedCodes 18 = .ok (.baload, 1) := by decide +kernel
theorem d_MOD_confirmedCodes_19 : decode b_MOD_confirmedCodes 19 = .ok (.ifCond .eq 7, 3) := by decide +kernel
theorem d_MOD_confirmedCodes_22 : decode b_MOD_confirmedCodes 22 = .ok (.iconst 1, 1) := by decide +kernel
theorem d_MOD_confirmedCodes_23 : decode b_MOD_confirmedCodes 23 = .ok (.goto 4, 3) := by decide +kernel
theorem d_MOD_confirmedCodes_26 : decode b_MOD_confirmedCodes 26 = .ok (.iconst 0, 1) := by decide +kernel
theorem d_MOD_confirmedCodes_27 : decode b_MOD_confirmedCodes 27 = .ok (.iadd, 1) := by decide +kernel
theorem d_MOD_confirmedCodes_28 : decode b_MOD_confirmedCodes 28 = .ok (.istore_n 1, 1) := by decide +kernel
theorem d_MOD_confirmedCodes_29 : decode b_MOD_confirmedCodes 29 = .ok (.iinc 2 1, 3) := by decide +kernel
theorem d_MOD_confirmedCodes_32 : decode b_MOD_confirmedCodes 32 = .ok (.goto (-28), 3) := by decide +kernel
theorem d_MOD_confirmedCodes_35 : decode b_MOD_confirmedCodes 35 = .ok (.iload_n 1, 1) := by decide +kernel
theorem d_MOD_confirmedCodes_36 : decode b_MOD_confirmedCodes 36 = .ok (.ireturn, 1) := by decide +kernel
abbrev b_MOD_firstFrozen : ByteArray := prog_7_method_19_code
def y_MOD_firstFrozen : MethodName := ⟨R_MOD, "firstFrozen", "()I"⟩
def w_MOD_firstFrozen : List Cond := .code y_MOD_firstFrozen b_MOD_firstFrozen 2 (some .int) :: lwG
theorem d_MOD_firstFrozen_0 : decode b_MOD_firstFrozen 0 = .ok (.iconst 0, 1) := by decide +kernel
theorem d_MOD_firstFrozen_1 : decode b_MOD_firstFrozen 1 = .ok (.istore_n 1, 1) := by decide +kernel
theorem d_MOD_firstFrozen_2 : decode b_MOD_firstFrozen 2 = .ok (.iload_n 1, 1) := by decide +kernel
theorem d_MOD_firstFrozen_3 : decode b_MOD_firstFrozen 3 = .ok (.aload_n 0, 1) := by decide +kernel
theorem d_MOD_firstFrozen_4 : decode b_MOD_firstFrozen 4 = .ok (.getfield 84, 3) := by decide +kernel
theorem d_MOD_firstFrozen_7 : decode b_MOD_firstFrozen 7 = .ok (.if_icmp .ge 18, 3) := by decide +kernel
theorem d_MOD_firstFrozen_10 : decode b_MOD_firstFrozen 10 = .ok (.aload_n 0, 1) := by decide +kernel
theorem d_MOD_firstFrozen_11 : decode b_MOD_firstFrozen 11 = .ok (.getfield 50, 3) := by decide +kernel
theorem d_MOD_firstFrozen_14 : decode b_MOD_firstFrozen 14 = .ok (.iload_n 1, 1) := by decide +kernel
theorem d_MOD_firstFrozen_15 : decode b_MOD_firstFrozen 15 = .ok (.baload, 1) := by decide +kernel
theorem d_MOD_firstFrozen_16 : decode b_MOD_firstFrozen 16 = .ok (.ifCond .ne 9, 3) := by decide +kernel
theorem d_MOD_firstFrozen_19 : decode b_MOD_firstFrozen 19 = .ok (.iinc 1 1, 3) := by decide +kernel
theorem d_MOD_firstFrozen_22 : decode b_MOD_firstFrozen 22 = .ok (.goto (-20), 3) := by decide +kernel
theorem d_MOD_firstFrozen_25 : decode b_MOD_firstFrozen 25 = .ok (.iload_n 1, 1) := by decide +kernel
theorem d_MOD_firstFrozen_26 : decode b_MOD_firstFrozen 26 = .ok (.ireturn, 1) := by decide +kernel
abbrev b_MOD_most : ByteArray := prog_7_method_20_code
def y_MOD_most : MethodName := ⟨R_MOD, "most", "(J)I"⟩
def w_MOD_most : List Cond := .code y_MOD_most b_MOD_most 2 (some .int) :: lwG
theorem d_MOD_most_0 : decode b_MOD_most 0 = .ok (.lload_n 0, 1) := by decide +kernel
theorem d_MOD_most_1 : decode b_MOD_most 1 = .ok (.ldc2_w 89, 3) := by decide +kernel
theorem d_MOD_most_4 : decode b_MOD_most 4 = .ok (.lcmp, 1) := by decide +kernel
theorem d_MOD_most_5 : decode b_MOD_most 5 = .ok (.ifCond .le 8, 3) := by decide +kernel
theorem d_MOD_most_8 : decode b_MOD_most 8 = .ok (.ldc 124, 2) := by decide +kernel
theorem d_MOD_most_10 : decode b_MOD_most 10 = .ok (.goto 5, 3) := by decide +kernel
theorem d_MOD_most_13 : decode b_MOD_most 13 = .ok (.lload_n 0, 1) := by decide +kernel
theorem d_MOD_most_14 : decode b_MOD_most 14 = .ok (.l2i, 1) := by decide +kernel
theorem d_MOD_most_15 : decode b_MOD_most 15 = .ok (.ireturn, 1) := by decide +kernel
abbrev b_MOD_count_0 : ByteArray := prog_7_method_12_code
def y_MOD_count_0 : MethodName := ⟨R_MOD, "count", "(II)I"⟩
def w_MOD_count_0 : List Cond := .code y_MOD_count_0 b_MOD_count_0 3 (some .int) :: lwG
theorem d_MOD_count_0_0 : decode b_MOD_count_0 0 = .ok (.aload_n 0, 1) := by decide +kernel
theorem d_MOD_count_0_1 : decode b_MOD_count_0 1 = .ok (.iconst 0, 1) := by decide +kernel
theorem d_MOD_count_0_2 : decode b_MOD_count_0 2 = .ok (.putfield 62, 3) := by decide +kernel
theorem d_MOD_count_0_5 : decode b_MOD_count_0 5 = .ok (.iload_n 1, 1) := by decide +kernel
theorem d_MOD_count_0_6 : decode b_MOD_count_0 6 = .ok (.i2l, 1) := by decide +kernel
theorem d_MOD_count_0_7 : decode b_MOD_count_0 7 = .ok (.lconst 1, 1) := by decide +kernel
theorem d_MOD_count_0_8 : decode b_MOD_count_0 8 = .ok (.aload_n 0, 1) := by decide +kernel
theorem d_MOD_count_0_9 : decode b_MOD_count_0 9 = .ok (.getfield 74, 3) := by decide +kernel
theorem d_MOD_count_0_12 : decode b_MOD_count_0 12 = .ok (.i2l, 1) := by decide +kernel
theorem d_MOD_count_0_13 : decode b_MOD_count_0 13 = .ok (.invokestatic 68, 3) := by decide +kernel
theorem d_MOD_count_0_16 : decode b_MOD_count_0 16 = .ok (.ifCond .ne 5, 3) := by decide +kernel
theorem d_MOD_count_0_19 : decode b_MOD_count_0 19 = .ok (.iconst (-1), 1) := by decide +kernel
theorem d_MOD_count_0_20 : decode b_MOD_count_0 20 = .ok (.ireturn, 1) := by decide +kernel
theorem d_MOD_count_0_21 : decode b_MOD_count_0 21 = .ok (.iload_n 2, 1) := by decide +kernel
theorem d_MOD_count_0_22 : decode b_MOD_count_0 22 = .ok (.ifCond .ne 14, 3) := by decide +kernel
theorem d_MOD_count_0_25 : decode b_MOD_count_0 25 = .ok (.aload_n 0, 1) := by decide +kernel
theorem d_MOD_count_0_26 : decode b_MOD_count_0 26 = .ok (.getfield 16, 3) := by decide +kernel
theorem d_MOD_count_0_29 : decode b_MOD_count_0 29 = .ok (.iload_n 1, 1) := by decide +kernel
theorem d_MOD_count_0_30 : decode b_MOD_count_0 30 = .ok (.iconst 1, 1) := by decide +kernel
theorem d_MOD_count_0_31 : decode b_MOD_count_0 31 = .ok (.isub, 1) := by decide +kernel
theorem d_MOD_count_0_32 : decode b_MOD_count_0 32 = .ok (.iaload, 1) := by decide +kernel
theorem d_MOD_count_0_33 : decode b_MOD_count_0 33 = .ok (.goto 11, 3) := by decide +kernel
theorem d_MOD_count_0_36 : decode b_MOD_count_0 36 = .ok (.aload_n 0, 1) := by decide +kernel
theorem d_MOD_count_0_37 : decode b_MOD_count_0 37 = .ok (.getfield 19, 3) := by decide +kernel
theorem d_MOD_count_0_40 : decode b_MOD_count_0 40 = .ok (.iload_n 1, 1) := by decide +kernel
theorem d_MOD_count_0_41 : decode b_MOD_count_0 41 = .ok (.iconst 1, 1) := by decide +kernel
theorem d_MOD_count_0_42 : decode b_MOD_count_0 42 = .ok (.isub, 1) := by decide +kernel
theorem d_MOD_count_0_43 : decode b_MOD_count_0 43 = .ok (.iaload, 1) := by decide +kernel
theorem d_MOD_count_0_44 : decode b_MOD_count_0 44 = .ok (.ireturn, 1) := by decide +kernel
abbrev b_MOD_ready : ByteArray := prog_7_method_14_code
def y_MOD_ready : MethodName := ⟨R_MOD, "ready", "(I)I"⟩
def w_MOD_ready : List Cond := .code y_MOD_ready b_MOD_ready 4 (some .int) :: lwG
theorem d_MOD_ready_0 : decode b_MOD_ready 0 = .ok (.aload_n 0, 1) := by decide +kernel
theorem d_MOD_ready_1 : decode b_MOD_ready 1 = .ok (.iconst 0, 1) := by decide +kernel
theorem d_MOD_ready_2 : decode b_MOD_ready 2 = .ok (.putfield 62, 3) := by decide +kernel
theorem d_MOD_ready_5 : decode b_MOD_ready 5 = .ok (.iload_n 1, 1) := by decide +kernel
theorem d_MOD_ready_6 : decode b_MOD_ready 6 = .ok (.i2l, 1) := by decide +kernel
theorem d_MOD_ready_7 : decode b_MOD_ready 7 = .ok (.lconst 0, 1) := by decide +kernel
theorem d_MOD_ready_8 : decode b_MOD_ready 8 = .ok (.ldc2_w 66, 3) := by decide +kernel
theorem d_MOD_ready_11 : decode b_MOD_ready 11 = .ok (.invokestatic 68, 3) := by decide +kernel
theorem d_MOD_ready_14 : decode b_MOD_ready 14 = .ok (.ifCond .ne 6, 3) := by decide +kernel
theorem d_MOD_ready_17 : decode b_MOD_ready 17 = .ok (.bipush (-2), 2) := by decide +kernel
theorem d_MOD_ready_19 : decode b_MOD_ready 19 = .ok (.ireturn, 1) := by decide +kernel
theorem d_MOD_ready_20 : decode b_MOD_ready 20 = .ok (.iconst 2, 1) := by decide +kernel
theorem d_MOD_ready_21 : decode b_MOD_ready 21 = .ok (.istore_n 2, 1) := by decide +kernel
theorem d_MOD_ready_22 : decode b_MOD_ready 22 = .ok (.iconst 0, 1) := by decide +kernel
theorem d_MOD_ready_23 : decode b_MOD_ready 23 = .ok (.istore_n 3, 1) := by decide +kernel
theorem d_MOD_ready_24 : decode b_MOD_ready 24 = .ok (.iload_n 3, 1) := by decide +kernel
theorem d_MOD_ready_25 : decode b_MOD_ready 25 = .ok (.aload_n 0, 1) := by decide +kernel
theorem d_MOD_ready_26 : decode b_MOD_ready 26 = .ok (.getfield 74, 3) := by decide +kernel
theorem d_MOD_ready_29 : decode b_MOD_ready 29 = .ok (.if_icmp .ge 38, 3) := by decide +kernel
theorem d_MOD_ready_32 : decode b_MOD_ready 32 = .ok (.aload_n 0, 1) := by decide +kernel
theorem d_MOD_ready_33 : decode b_MOD_ready 33 = .ok (.getfield 7, 3) := by decide +kernel
theorem d_MOD_ready_36 : decode b_MOD_ready 36 = .ok (.iload_n 3, 1) := by decide +kernel
theorem d_MOD_ready_37 : decode b_MOD_ready 37 = .ok (.iaload, 1) := by decide +kernel
theorem d_MOD_ready_38 : decode b_MOD_ready 38 = .ok (.iload_n 1, 1) := by decide +kernel
theorem d_MOD_ready_39 : decode b_MOD_ready 39 = .ok (.if_icmp .ne 22, 3) := by decide +kernel
theorem d_MOD_ready_42 : decode b_MOD_ready 42 = .ok (.aload_n 0, 1) := by decide +kernel
theorem d_MOD_ready_43 : decode b_MOD_ready 43 = .ok (.getfield 25, 3) := by decide +kernel
theorem d_MOD_ready_46 : decode b_MOD_ready 46 = .ok (.iload_n 3, 1) := by decide +kernel
theorem d_MOD_ready_47 : decode b_MOD_ready 47 = .ok (.baload, 1) := by decide +kernel
theorem d_MOD_ready_48 : decode b_MOD_ready 48 = .ok (.ifCond .eq 11, 3) := by decide +kernel
theorem d_MOD_ready_51 : decode b_MOD_ready 51 = .ok (.iload_n 2, 1) := by decide +kernel
theorem d_MOD_ready_52 : decode b_MOD_ready 52 = .ok (.ifCond .eq 7, 3) := by decide +kernel
theorem d_MOD_ready_55 : decode b_MOD_ready 55 = .ok (.iconst 1, 1) := by decide +kernel
theorem d_MOD_ready_56 : decode b_MOD_ready 56 = .ok (.goto 4, 3) := by decide +kernel
theorem d_MOD_ready_59 : decode b_MOD_ready 59 = .ok (.iconst 0, 1) := by decide +kernel
theorem d_MOD_ready_60 : decode b_MOD_ready 60 = .ok (.istore_n 2, 1) := by decide +kernel
theorem d_MOD_ready_61 : decode b_MOD_ready 61 = .ok (.iinc 3 1, 3) := by decide +kernel
theorem d_MOD_ready_64 : decode b_MOD_ready 64 = .ok (.goto (-40), 3) := by decide +kernel
theorem d_MOD_ready_67 : decode b_MOD_ready 67 = .ok (.iload_n 2, 1) := by decide +kernel
theorem d_MOD_ready_68 : decode b_MOD_ready 68 = .ok (.ireturn, 1) := by decide +kernel
abbrev b_MOD_permanent : ByteArray := prog_7_method_16_code
def y_MOD_permanent : MethodName := ⟨R_MOD, "permanent", "(I)I"⟩
def w_MOD_permanent : List Cond := .code y_MOD_permanent b_MOD_permanent 4 (some .int) :: lwG
theorem d_MOD_permanent_0 : decode b_MOD_permanent 0 = .ok (.aload_n 0, 1) := by decide +kernel
theorem d_MOD_permanent_1 : decode b_MOD_permanent 1 = .ok (.iconst 0, 1) := by decide +kernel
theorem d_MOD_permanent_2 : decode b_MOD_permanent 2 = .ok (.putfield 62, 3) := by decide +kernel
theorem d_MOD_permanent_5 : decode b_MOD_permanent 5 = .ok (.iconst 0, 1) := by decide +kernel
theorem d_MOD_permanent_6 : decode b_MOD_permanent 6 = .ok (.istore_n 2, 1) := by decide +kernel
theorem d_MOD_permanent_7 : decode b_MOD_permanent 7 = .ok (.iconst 0, 1) := by decide +kernel
theorem d_MOD_permanent_8 : decode b_MOD_permanent 8 = .ok (.istore_n 3, 1) := by decide +kernel
theorem d_MOD_permanent_9 : decode b_MOD_permanent 9 = .ok (.iload_n 3, 1) := by decide +kernel
theorem d_MOD_permanent_10 : decode b_MOD_permanent 10 = .ok (.aload_n 0, 1) := by decide +kernel
theorem d_MOD_permanent_11 : decode b_MOD_permanent 11 = .ok (.getfield 84, 3) := by decide +kernel
theorem d_MOD_permanent_14 : decode b_MOD_permanent 14 = .ok (.if_icmp .ge 33, 3) := by decide +kernel
theorem d_MOD_permanent_17 : decode b_MOD_permanent 17 = .ok (.aload_n 0, 1) := by decide +kernel
theorem d_MOD_permanent_18 : decode b_MOD_permanent 18 = .ok (.getfield 41, 3) := by decide +kernel
theorem d_MOD_permanent_21 : decode b_MOD_permanent 21 = .ok (.iload_n 3, 1) := by decide +kernel
theorem d_MOD_permanent_22 : decode b_MOD_permanent 22 = .ok (.baload, 1) := by decide +kernel
theorem d_MOD_permanent_23 : decode b_MOD_permanent 23 = .ok (.ifCond .eq 18, 3) := by decide +kernel
theorem d_MOD_permanent_26 : decode b_MOD_permanent 26 = .ok (.iload_n 2, 1) := by decide +kernel
theorem d_MOD_permanent_27 : decode b_MOD_permanent 27 = .ok (.iload_n 1, 1) := by decide +kernel
theorem d_MOD_permanent_28 : decode b_MOD_permanent 28 = .ok (.if_icmp .ne 10, 3) := by decide +kernel
theorem d_MOD_permanent_31 : decode b_MOD_permanent 31 = .ok (.aload_n 0, 1) := by decide +kernel
theorem d_MOD_permanent_32 : decode b_MOD_permanent 32 = .ok (.getfield 29, 3) := by decide +kernel
theorem d_MOD_permanent_35 : decode b_MOD_permanent 35 = .ok (.iload_n 3, 1) := by decide +kernel
theorem d_MOD_permanent_36 : decode b_MOD_permanent 36 = .ok (.iaload, 1) := by decide +kernel
theorem d_MOD_permanent_37 : decode b_MOD_permanent 37 = .ok (.ireturn, 1) := by decide +kernel
theorem d_MOD_permanent_38 : decode b_MOD_permanent 38 = .ok (.iinc 2 1, 3) := by decide +kernel
theorem d_MOD_permanent_41 : decode b_MOD_permanent 41 = .ok (.iinc 3 1, 3) := by decide +kernel
theorem d_MOD_permanent_44 : decode b_MOD_permanent 44 = .ok (.goto (-35), 3) := by decide +kernel
theorem d_MOD_permanent_47 : decode b_MOD_permanent 47 = .ok (.iconst 0, 1) := by decide +kernel
theorem d_MOD_permanent_48 : decode b_MOD_permanent 48 = .ok (.ireturn, 1) := by decide +kernel
abbrev b_MOD_lamp : ByteArray := prog_7_method_18_code
def y_MOD_lamp : MethodName := ⟨R_MOD, "lamp", "(JJ)I"⟩
def w_MOD_lamp : List Cond := .code y_MOD_lamp b_MOD_lamp 5 (some .int) :: lwG
theorem d_MOD_lamp_0 : decode b_MOD_lamp 0 = .ok (.aload_n 0, 1) := by decide +kernel
theorem d_MOD_lamp_1 : decode b_MOD_lamp 1 = .ok (.iconst 0, 1) := by decide +kernel
theorem d_MOD_lamp_2 : decode b_MOD_lamp 2 = .ok (.putfield 62, 3) := by decide +kernel
theorem d_MOD_lamp_5 : decode b_MOD_lamp 5 = .ok (.lload_n 1, 1) := by decide +kernel
theorem d_MOD_lamp_6 : decode b_MOD_lamp 6 = .ok (.lconst 0, 1) := by decide +kernel
theorem d_MOD_lamp_7 : decode b_MOD_lamp 7 = .ok (.ldc2_w 122, 3) := by decide +kernel
theorem d_MOD_lamp_10 : decode b_MOD_lamp 10 = .ok (.invokestatic 68, 3) := by decide +kernel
theorem d_MOD_lamp_13 : decode b_MOD_lamp 13 = .ok (.ifCond .eq 14, 3) := by decide +kernel
theorem d_MOD_lamp_16 : decode b_MOD_lamp 16 = .ok (.lload_n 3, 1) := by decide +kernel
theorem d_MOD_lamp_17 : decode b_MOD_lamp 17 = .ok (.lconst 0, 1) := by decide +kernel
theorem d_MOD_lamp_18 : decode b_MOD_lamp 18 = .ok (.ldc2_w 122, 3) := by decide +kernel
theorem d_MOD_lamp_21 : decode b_MOD_lamp 21 = .ok (.invokestatic 68, 3) := by decide +kernel
theorem d_MOD_lamp_24 : decode b_MOD_lamp 24 = .ok (.ifCond .ne 6, 3) := by decide +kernel
theorem d_MOD_lamp_27 : decode b_MOD_lamp 27 = .ok (.bipush (-2), 2) := by decide +kernel
theorem d_MOD_lamp_29 : decode b_MOD_lamp 29 = .ok (.ireturn, 1) := by decide +kernel
theorem d_MOD_lamp_30 : decode b_MOD_lamp 30 = .ok (.aload_n 0, 1) := by decide +kernel
theorem d_MOD_lamp_31 : decode b_MOD_lamp 31 = .ok (.getfield 109, 3) := by decide +kernel
theorem d_MOD_lamp_34 : decode b_MOD_lamp 34 = .ok (.ifCond .ne 5, 3) := by decide +kernel
theorem d_MOD_lamp_37 : decode b_MOD_lamp 37 = .ok (.iconst 0, 1) := by decide +kernel
theorem d_MOD_lamp_38 : decode b_MOD_lamp 38 = .ok (.ireturn, 1) := by decide +kernel
theorem d_MOD_lamp_39 : decode b_MOD_lamp 39 = .ok (.aload_n 0, 1) := by decide +kernel
theorem d_MOD_lamp_40 : decode b_MOD_lamp 40 = .ok (.dup, 1) := by decide +kernel
theorem d_MOD_lamp_41 : decode b_MOD_lamp 41 = .ok (.getfield 113, 3) := by decide +kernel
theorem d_MOD_lamp_44 : decode b_MOD_lamp 44 = .ok (.lload_n 1, 1) := by decide +kernel
theorem d_MOD_lamp_45 : decode b_MOD_lamp 45 = .ok (.ladd, 1) := by decide +kernel
theorem d_MOD_lamp_46 : decode b_MOD_lamp 46 = .ok (.putfield 113, 3) := by decide +kernel
theorem d_MOD_lamp_49 : decode b_MOD_lamp 49 = .ok (.aload_n 0, 1) := by decide +kernel
theorem d_MOD_lamp_50 : decode b_MOD_lamp 50 = .ok (.dup, 1) := by decide +kernel
theorem d_MOD_lamp_51 : decode b_MOD_lamp 51 = .ok (.getfield 117, 3) := by decide +kernel
theorem d_MOD_lamp_54 : decode b_MOD_lamp 54 = .ok (.lload_n 3, 1) := by decide +kernel
theorem d_MOD_lamp_55 : decode b_MOD_lamp 55 = .ok (.ladd, 1) := by decide +kernel
theorem d_MOD_lamp_56 : decode b_MOD_lamp 56 = .ok (.putfield 117, 3) := by decide +kernel
theorem d_MOD_lamp_59 : decode b_MOD_lamp 59 = .ok (.iconst 1, 1) := by decide +kernel
theorem d_MOD_lamp_60 : decode b_MOD_lamp 60 = .ok (.ireturn, 1) := by decide +kernel
abbrev b_MOD_freeze : ByteArray := prog_7_method_21_code
def y_MOD_freeze : MethodName := ⟨R_MOD, "freeze", "(I)I"⟩
def w_MOD_freeze : List Cond := .code y_MOD_freeze b_MOD_freeze 3 (some .int) :: lwG
theorem d_MOD_freeze_0 : decode b_MOD_freeze 0 = .ok (.aload_n 0, 1) := by decide +kernel
theorem d_MOD_freeze_1 : decode b_MOD_freeze 1 = .ok (.iconst 0, 1) := by decide +kernel
theorem d_MOD_freeze_2 : decode b_MOD_freeze 2 = .ok (.putfield 62, 3) := by decide +kernel
theorem d_MOD_freeze_5 : decode b_MOD_freeze 5 = .ok (.iload_n 1, 1) := by decide +kernel
theorem d_MOD_freeze_6 : decode b_MOD_freeze 6 = .ok (.i2l, 1) := by decide +kernel
theorem d_MOD_freeze_7 : decode b_MOD_freeze 7 = .ok (.lconst 0, 1) := by decide +kernel
theorem d_MOD_freeze_8 : decode b_MOD_freeze 8 = .ok (.ldc2_w 66, 3) := by decide +kernel
theorem d_MOD_freeze_11 : decode b_MOD_freeze 11 = .ok (.invokestatic 68, 3) := by decide +kernel
theorem d_MOD_freeze_14 : decode b_MOD_freeze 14 = .ok (.ifCond .ne 6, 3) := by decide +kernel
theorem d_MOD_freeze_17 : decode b_MOD_freeze 17 = .ok (.bipush (-2), 2) := by decide +kernel
theorem d_MOD_freeze_19 : decode b_MOD_freeze 19 = .ok (.ireturn, 1) := by decide +kernel
theorem d_MOD_freeze_20 : decode b_MOD_freeze 20 = .ok (.iload_n 1, 1) := by decide +kernel
theorem d_MOD_freeze_21 : decode b_MOD_freeze 21 = .ok (.iconst 3, 1) := by decide +kernel
theorem d_MOD_freeze_22 : decode b_MOD_freeze 22 = .ok (.if_icmp .ne 11, 3) := by decide +kernel
theorem d_MOD_freeze_25 : decode b_MOD_freeze 25 = .ok (.aload_n 0, 1) := by decide +kernel
theorem d_MOD_freeze_26 : decode b_MOD_freeze 26 = .ok (.getfield 117, 3) := by decide +kernel
theorem d_MOD_freeze_29 : decode b_MOD_freeze 29 = .ok (.invokestatic 125, 3) := by decide +kernel
theorem d_MOD_freeze_32 : decode b_MOD_freeze 32 = .ok (.ireturn, 1) := by decide +kernel
theorem d_MOD_freeze_33 : decode b_MOD_freeze 33 = .ok (.aload_n 0, 1) := by decide +kernel
theorem d_MOD_freeze_34 : decode b_MOD_freeze 34 = .ok (.invokevirtual 129, 3) := by decide +kernel
theorem d_MOD_freeze_37 : decode b_MOD_freeze 37 = .ok (.istore_n 2, 1) := by decide +kernel
theorem d_MOD_freeze_38 : decode b_MOD_freeze 38 = .ok (.iload_n 2, 1) := by decide +kernel
theorem d_MOD_freeze_39 : decode b_MOD_freeze 39 = .ok (.aload_n 0, 1) := by decide +kernel
theorem d_MOD_freeze_40 : decode b_MOD_freeze 40 = .ok (.getfield 84, 3) := by decide +kernel
theorem d_MOD_freeze_43 : decode b_MOD_freeze 43 = .ok (.if_icmp .ne 7, 3) := by decide +kernel
theorem d_MOD_freeze_46 : decode b_MOD_freeze 46 = .ok (.iconst 0, 1) := by decide +kernel
theorem d_MOD_freeze_47 : decode b_MOD_freeze 47 = .ok (.goto 36, 3) := by decide +kernel
theorem d_MOD_freeze_50 : decode b_MOD_freeze 50 = .ok (.iload_n 1, 1) := by decide +kernel
theorem d_MOD_freeze_51 : decode b_MOD_freeze 51 = .ok (.ifCond .ne 12, 3) := by decide +kernel
theorem d_MOD_freeze_54 : decode b_MOD_freeze 54 = .ok (.aload_n 0, 1) := by decide +kernel
theorem d_MOD_freeze_55 : decode b_MOD_freeze 55 = .ok (.getfield 29, 3) := by decide +kernel
theorem d_MOD_freeze_58 : decode b_MOD_freeze 58 = .ok (.iload_n 2, 1) := by decide +kernel
theorem d_MOD_freeze_59 : decode b_MOD_freeze 59 = .ok (.iaload, 1) := by decide +kernel
theorem d_MOD_freeze_60 : decode b_MOD_freeze 60 = .ok (.goto 23, 3) := by decide +kernel
theorem d_MOD_freeze_63 : decode b_MOD_freeze 63 = .ok (.iload_n 1, 1) := by decide +kernel
theorem d_MOD_freeze_64 : decode b_MOD_freeze 64 = .ok (.iconst 1, 1) := by decide +kernel
theorem d_MOD_freeze_65 : decode b_MOD_freeze 65 = .ok (.if_icmp .ne 12, 3) := by decide +kernel
theorem d_MOD_freeze_68 : decode b_MOD_freeze 68 = .ok (.aload_n 0, 1) := by decide +kernel
theorem d_MOD_freeze_69 : decode b_MOD_freeze 69 = .ok (.getfield 53, 3) := by decide +kernel
theorem d_MOD_freeze_72 : decode b_MOD_freeze 72 = .ok (.iload_n 2, 1) := by decide +kernel
theorem d_MOD_freeze_73 : decode b_MOD_freeze 73 = .ok (.iaload, 1) := by decide +kernel
theorem d_MOD_freeze_74 : decode b_MOD_freeze 74 = .ok (.goto 9, 3) := by decide +kernel
theorem d_MOD_freeze_77 : decode b_MOD_freeze 77 = .ok (.aload_n 0, 1) := by decide +kernel
theorem d_MOD_freeze_78 : decode b_MOD_freeze 78 = .ok (.getfield 56, 3) := by decide +kernel
theorem d_MOD_freeze_81 : decode b_MOD_freeze 81 = .ok (.iload_n 2, 1) := by decide +kernel
theorem d_MOD_freeze_82 : decode b_MOD_freeze 82 = .ok (.iaload, 1) := by decide +kernel
theorem d_MOD_freeze_83 : decode b_MOD_freeze 83 = .ok (.ireturn, 1) := by decide +kernel
abbrev b_MOD_put : ByteArray := prog_7_method_22_code
def y_MOD_put : MethodName := ⟨R_MOD, "put", "(I)V"⟩
def w_MOD_put : List Cond := .code y_MOD_put b_MOD_put 2 none :: lwG
theorem d_MOD_put_0 : decode b_MOD_put 0 = .ok (.aload_n 0, 1) := by decide +kernel
theorem d_MOD_put_1 : decode b_MOD_put 1 = .ok (.getfield 59, 3) := by decide +kernel
theorem d_MOD_put_4 : decode b_MOD_put 4 = .ok (.aload_n 0, 1) := by decide +kernel
theorem d_MOD_put_5 : decode b_MOD_put 5 = .ok (.getfield 132, 3) := by decide +kernel
theorem d_MOD_put_8 : decode b_MOD_put 8 = .ok (.iload_n 1, 1) := by decide +kernel
theorem d_MOD_put_9 : decode b_MOD_put 9 = .ok (.sipush 255, 3) := by decide +kernel
theorem d_MOD_put_12 : decode b_MOD_put 12 = .ok (.iand, 1) := by decide +kernel
theorem d_MOD_put_13 : decode b_MOD_put 13 = .ok (.iastore, 1) := by decide +kernel
theorem d_MOD_put_14 : decode b_MOD_put 14 = .ok (.aload_n 0, 1) := by decide +kernel
theorem d_MOD_put_15 : decode b_MOD_put 15 = .ok (.dup, 1) := by decide +kernel
theorem d_MOD_put_16 : decode b_MOD_put 16 = .ok (.getfield 132, 3) := by decide +kernel
theorem d_MOD_put_19 : decode b_MOD_put 19 = .ok (.iconst 1, 1) := by decide +kernel
theorem d_MOD_put_20 : decode b_MOD_put 20 = .ok (.iadd, 1) := by decide +kernel
theorem d_MOD_put_21 : decode b_MOD_put 21 = .ok (.putfield 132, 3) := by decide +kernel
theorem d_MOD_put_24 : decode b_MOD_put 24 = .ok (.return_, 1) := by decide +kernel
abbrev b_MOD_putTwo : ByteArray := prog_7_method_23_code
def y_MOD_putTwo : MethodName := ⟨R_MOD, "putTwo", "(I)V"⟩
def w_MOD_putTwo : List Cond := .code y_MOD_putTwo b_MOD_putTwo 2 none :: lwG
theorem d_MOD_putTwo_0 : decode b_MOD_putTwo 0 = .ok (.aload_n 0, 1) := by decide +kernel
theorem d_MOD_putTwo_1 : decode b_MOD_putTwo 1 = .ok (.iload_n 1, 1) := by decide +kernel
theorem d_MOD_putTwo_2 : decode b_MOD_putTwo 2 = .ok (.bipush 8, 2) := by decide +kernel
theorem d_MOD_putTwo_4 : decode b_MOD_putTwo 4 = .ok (.ishr, 1) := by decide +kernel
theorem d_MOD_putTwo_5 : decode b_MOD_putTwo 5 = .ok (.invokevirtual 135, 3) := by decide +kernel
theorem d_MOD_putTwo_8 : decode b_MOD_putTwo 8 = .ok (.aload_n 0, 1) := by decide +kernel
theorem d_MOD_putTwo_9 : decode b_MOD_putTwo 9 = .ok (.iload_n 1, 1) := by decide +kernel
theorem d_MOD_putTwo_10 : decode b_MOD_putTwo 10 = .ok (.invokevirtual 135, 3) := by decide +kernel
theorem d_MOD_putTwo_13 : decode b_MOD_putTwo 13 = .ok (.return_, 1) := by decide +kernel
abbrev b_MOD_sum : ByteArray := prog_7_method_29_code
def y_MOD_sum : MethodName := ⟨R_MOD, "sum", "()I"⟩
def w_MOD_sum : List Cond := .code y_MOD_sum b_MOD_sum 3 (some .int) :: lwG
theorem d_MOD_sum_0 : decode b_MOD_sum 0 = .ok (.aload_n 0, 1) := by decide +kernel
theorem d_MOD_sum_1 : decode b_MOD_sum 1 = .ok (.iconst 0, 1) := by decide +kernel
theorem d_MOD_sum_2 : decode b_MOD_sum 2 = .ok (.putfield 62, 3) := by decide +kernel
theorem d_MOD_sum_5 : decode b_MOD_sum 5 = .ok (.iconst 0, 1) := by decide +kernel
theorem d_MOD_sum_6 : decode b_MOD_sum 6 = .ok (.istore_n 1, 1) := by decide +kernel
theorem d_MOD_sum_7 : decode b_MOD_sum 7 = .ok (.iconst 0, 1) := by decide +kernel
theorem d_MOD_sum_8 : decode b_MOD_sum 8 = .ok (.istore_n 2, 1) := by decide +kernel
theorem d_MOD_sum_9 : decode b_MOD_sum 9 = .ok (.iload_n 2, 1) := by decide +kernel
theorem d_MOD_sum_10 : decode b_MOD_sum 10 = .ok (.aload_n 0, 1) := by decide +kernel
theorem d_MOD_sum_11 : decode b_MOD_sum 11 = .ok (.getfield 132, 3) := by decide +kernel
theorem d_MOD_sum_14 : decode b_MOD_sum 14 = .ok (.if_icmp .ge 18, 3) := by decide +kernel
theorem d_MOD_sum_17 : decode b_MOD_sum 17 = .ok (.iload_n 1, 1) := by decide +kernel
theorem d_MOD_sum_18 : decode b_MOD_sum 18 = .ok (.aload_n 0, 1) := by decide +kernel
theorem d_MOD_sum_19 : decode b_MOD_sum 19 = .ok (.getfield 59, 3) := by decide +kernel
theorem d_MOD_sum_22 : decode b_MOD_sum 22 = .ok (.iload_n 2, 1) := by decide +kernel
theorem d_MOD_sum_23 : decode b_MOD_sum 23 = .ok (.iaload, 1) := by decide +kernel
theorem d_MOD_sum_24 : decode b_MOD_sum 24 = .ok (.iadd, 1) := by decide +kernel
theorem d_MOD_sum_25 : decode b_MOD_sum 25 = .ok (.istore_n 1, 1) := by decide +kernel
theorem d_MOD_sum_26 : decode b_MOD_sum 26 = .ok (.iinc 2 1, 3) := by decide +kernel
theorem d_MOD_sum_29 : decode b_MOD_sum 29 = .ok (.goto (-20), 3) := by decide +kernel
theorem d_MOD_sum_32 : decode b_MOD_sum 32 = .ok (.iload_n 1, 1) := by decide +kernel
theorem d_MOD_sum_33 : decode b_MOD_sum 33 = .ok (.ireturn, 1) := by decide +kernel
