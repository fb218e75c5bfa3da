abbrev b_ER_isBitSet : ByteArray := prog_1_method_28_code
def y_ER_isBitSet : MethodName := ⟨R_ER, "isBitSet", "(II)Z"⟩
def w_ER_isBitSet : List Cond := .code y_ER_isBitSet b_ER_isBitSet 2 (some .boolean) :: lwG
theorem d_ER_isBitSet_0 : decode b_ER_isBitSet 0 = .ok (.iload_n 0, 1) := by decide +kernel
theorem d_ER_isBitSet_1 : decode b_ER_isBitSet 1 = .ok (.iload_n 1, 1) := by decide +kernel
theorem d_ER_isBitSet_2 : decode b_ER_isBitSet 2 = .ok (.ishr, 1) := by decide +kernel
theorem d_ER_isBitSet_3 : decode b_ER_isBitSet 3 = .ok (.iconst 1, 1) := by decide +kernel
theorem d_ER_isBitSet_4 : decode b_ER_isBitSet 4 = .ok (.iand, 1) := by decide +kernel
theorem d_ER_isBitSet_5 : decode b_ER_isBitSet 5 = .ok (.iconst 1, 1) := by decide +kernel
theorem d_ER_isBitSet_6 : decode b_ER_isBitSet 6 = .ok (.if_icmp .ne 7, 3) := by decide +kernel
theorem d_ER_isBitSet_9 : decode b_ER_isBitSet 9 = .ok (.iconst 1, 1) := by decide +kernel
theorem d_ER_isBitSet_10 : decode b_ER_isBitSet 10 = .ok (.goto 4, 3) := by decide +kernel
theorem d_ER_isBitSet_13 : decode b_ER_isBitSet 13 = .ok (.iconst 0, 1) := by decide +kernel
theorem d_ER_isBitSet_14 : decode b_ER_isBitSet 14 = .ok (.ireturn, 1) := by decide +kernel
abbrev b_ER_isKind : ByteArray := prog_1_method_15_code
def y_ER_isKind : MethodName := ⟨R_ER, "isKind", "(I)Z"⟩
def w_ER_isKind : List Cond := .code y_ER_isKind b_ER_isKind 1 (some .boolean) :: lwG
theorem d_ER_isKind_0 : decode b_ER_isKind 0 = .ok (.iload_n 0, 1) := by decide +kernel
theorem d_ER_isKind_1 : decode b_ER_isKind 1 = .ok (.ifCond .lt 12, 3) := by decide +kernel
theorem d_ER_isKind_4 : decode b_ER_isKind 4 = .ok (.iload_n 0, 1) := by decide +kernel
theorem d_ER_isKind_5 : decode b_ER_isKind 5 = .ok (.iconst 4, 1) := by decide +kernel
theorem d_ER_isKind_6 : decode b_ER_isKind 6 = .ok (.if_icmp .ge 7, 3) := by decide +kernel
theorem d_ER_isKind_9 : decode b_ER_isKind 9 = .ok (.iconst 1, 1) := by decide +kernel
theorem d_ER_isKind_10 : decode b_ER_isKind 10 = .ok (.goto 4, 3) := by decide +kernel
theorem d_ER_isKind_13 : decode b_ER_isKind 13 = .ok (.iconst 0, 1) := by decide +kernel
theorem d_ER_isKind_14 : decode b_ER_isKind 14 = .ok (.ireturn, 1) := by decide +kernel
abbrev b_MON_init : ByteArray := prog_4_method_1_code
def y_MON_init : MethodName := ⟨R_MON, "<init>", "(II)V"⟩
def w_MON_init : List Cond := .code y_MON_init b_MON_init 3 none :: lwG
theorem d_MON_init_0 : decode b_MON_init 0 = .ok (.aload_n 0, 1) := by decide +kernel
theorem d_MON_init_1 : decode b_MON_init 1 = .ok (.invokespecial 3, 3) := by decide +kernel
theorem d_MON_init_4 : decode b_MON_init 4 = .ok (.aload_n 0, 1) := by decide +kernel
theorem d_MON_init_5 : decode b_MON_init 5 = .ok (.iconst 0, 1) := by decide +kernel
theorem d_MON_init_6 : decode b_MON_init 6 = .ok (.putfield 9, 3) := by decide +kernel
theorem d_MON_init_9 : decode b_MON_init 9 = .ok (.aload_n 0, 1) := by decide +kernel
theorem d_MON_init_10 : decode b_MON_init 10 = .ok (.iconst 0, 1) := by decide +kernel
theorem d_MON_init_11 : decode b_MON_init 11 = .ok (.putfield 15, 3) := by decide +kernel
theorem d_MON_init_14 : decode b_MON_init 14 = .ok (.aload_n 0, 1) := by decide +kernel
theorem d_MON_init_15 : decode b_MON_init 15 = .ok (.iconst 0, 1) := by decide +kernel
theorem d_MON_init_16 : decode b_MON_init 16 = .ok (.putfield 18, 3) := by decide +kernel
theorem d_MON_init_19 : decode b_MON_init 19 = .ok (.aload_n 0, 1) := by decide +kernel
theorem d_MON_init_20 : decode b_MON_init 20 = .ok (.iconst 0, 1) := by decide +kernel
theorem d_MON_init_21 : decode b_MON_init 21 = .ok (.putfield 21, 3) := by decide +kernel
theorem d_MON_init_24 : decode b_MON_init 24 = .ok (.aload_n 0, 1) := by decide +kernel
theorem d_MON_init_25 : decode b_MON_init 25 = .ok (.iload_n 1, 1) := by decide +kernel
theorem d_MON_init_26 : decode b_MON_init 26 = .ok (.putfield 25, 3) := by decide +kernel
theorem d_MON_init_29 : decode b_MON_init 29 = .ok (.aload_n 0, 1) := by decide +kernel
theorem d_MON_init_30 : decode b_MON_init 30 = .ok (.iload_n 2, 1) := by decide +kernel
theorem d_MON_init_31 : decode b_MON_init 31 = .ok (.putfield 28, 3) := by decide +kernel
theorem d_MON_init_34 : decode b_MON_init 34 = .ok (.return_, 1) := by decide +kernel
abbrev b_MON_countChance : ByteArray := prog_4_method_4_code
def y_MON_countChance : MethodName := ⟨R_MON, "countChance", "(Z)V"⟩
def w_MON_countChance : List Cond := .code y_MON_countChance b_MON_countChance 2 none :: lwG
theorem d_MON_countChance_0 : decode b_MON_countChance 0 = .ok (.aload_n 0, 1) := by decide +kernel
theorem d_MON_countChance_1 : decode b_MON_countChance 1 = .ok (.getfield 15, 3) := by decide +kernel
theorem d_MON_countChance_4 : decode b_MON_countChance 4 = .ok (.bipush 100, 2) := by decide +kernel
theorem d_MON_countChance_6 : decode b_MON_countChance 6 = .ok (.if_icmp .lt 23, 3) := by decide +kernel
theorem d_MON_countChance_9 : decode b_MON_countChance 9 = .ok (.aload_n 0, 1) := by decide +kernel
theorem d_MON_countChance_10 : decode b_MON_countChance 10 = .ok (.dup, 1) := by decide +kernel
theorem d_MON_countChance_11 : decode b_MON_countChance 11 = .ok (.getfield 9, 3) := by decide +kernel
theorem d_MON_countChance_14 : decode b_MON_countChance 14 = .ok (.iconst 2, 1) := by decide +kernel
theorem d_MON_countChance_15 : decode b_MON_countChance 15 = .ok (.idiv, 1) := by decide +kernel
theorem d_MON_countChance_16 : decode b_MON_countChance 16 = .ok (.putfield 9, 3) := by decide +kernel
theorem d_MON_countChance_19 : decode b_MON_countChance 19 = .ok (.aload_n 0, 1) := by decide +kernel
theorem d_MON_countChance_20 : decode b_MON_countChance 20 = .ok (.dup, 1) := by decide +kernel
theorem d_MON_countChance_21 : decode b_MON_countChance 21 = .ok (.getfield 15, 3) := by decide +kernel
theorem d_MON_countChance_24 : decode b_MON_countChance 24 = .ok (.iconst 2, 1) := by decide +kernel
theorem d_MON_countChance_25 : decode b_MON_countChance 25 = .ok (.idiv, 1) := by decide +kernel
theorem d_MON_countChance_26 : decode b_MON_countChance 26 = .ok (.putfield 15, 3) := by decide +kernel
theorem d_MON_countChance_29 : decode b_MON_countChance 29 = .ok (.aload_n 0, 1) := by decide +kernel
theorem d_MON_countChance_30 : decode b_MON_countChance 30 = .ok (.dup, 1) := by decide +kernel
theorem d_MON_countChance_31 : decode b_MON_countChance 31 = .ok (.getfield 15, 3) := by decide +kernel
theorem d_MON_countChance_34 : decode b_MON_countChance 34 = .ok (.iconst 1, 1) := by decide +kernel
theorem d_MON_countChance_35 : decode b_MON_countChance 35 = .ok (.iadd, 1) := by decide +kernel
theorem d_MON_countChance_36 : decode b_MON_countChance 36 = .ok (.putfield 15, 3) := by decide +kernel
theorem d_MON_countChance_39 : decode b_MON_countChance 39 = .ok (.iload_n 1, 1) := by decide +kernel
theorem d_MON_countChance_40 : decode b_MON_countChance 40 = .ok (.ifCond .eq 13, 3) := by decide +kernel
theorem d_MON_countChance_43 : decode b_MON_countChance 43 = .ok (.aload_n 0, 1) := by decide +kernel
theorem d_MON_countChance_44 : decode b_MON_countChance 44 = .ok (.dup, 1) := by decide +kernel
theorem d_MON_countChance_45 : decode b_MON_countChance 45 = .ok (.getfield 9, 3) := by decide +kernel
theorem d_MON_countChance_48 : decode b_MON_countChance 48 = .ok (.iconst 1, 1) := by decide +kernel
theorem d_MON_countChance_49 : decode b_MON_countChance 49 = .ok (.iadd, 1) := by decide +kernel
theorem d_MON_countChance_50 : decode b_MON_countChance 50 = .ok (.putfield 9, 3) := by decide +kernel
theorem d_MON_countChance_53 : decode b_MON_countChance 53 = .ok (.return_, 1) := by decide +kernel
abbrev b_MON_hasChance : ByteArray := prog_4_method_3_code
def y_MON_hasChance : MethodName := ⟨R_MON, "hasChance", "(I)Z"⟩
def w_MON_hasChance : List Cond := .code y_MON_hasChance b_MON_hasChance 3 (some .boolean) :: lwG
theorem d_MON_hasChance_0 : decode b_MON_hasChance 0 = .ok (.iload_n 1, 1) := by decide +kernel
theorem d_MON_hasChance_1 : decode b_MON_hasChance 1 = .ok (.aload_n 0, 1) := by decide +kernel
theorem d_MON_hasChance_2 : decode b_MON_hasChance 2 = .ok (.getfield 28, 3) := by decide +kernel
theorem d_MON_hasChance_5 : decode b_MON_hasChance 5 = .ok (.invokestatic 39, 3) := by decide +kernel
theorem d_MON_hasChance_8 : decode b_MON_hasChance 8 = .ok (.istore_n 2, 1) := by decide +kernel
theorem d_MON_hasChance_9 : decode b_MON_hasChance 9 = .ok (.iload_n 2, 1) := by decide +kernel
theorem d_MON_hasChance_10 : decode b_MON_hasChance 10 = .ok (.ifCond .eq 13, 3) := by decide +kernel
theorem d_MON_hasChance_13 : decode b_MON_hasChance 13 = .ok (.aload_n 0, 1) := by decide +kernel
theorem d_MON_hasChance_14 : decode b_MON_hasChance 14 = .ok (.dup, 1) := by decide +kernel
theorem d_MON_hasChance_15 : decode b_MON_hasChance 15 = .ok (.getfield 18, 3) := by decide +kernel
theorem d_MON_hasChance_18 : decode b_MON_hasChance 18 = .ok (.iconst 1, 1) := by decide +kernel
theorem d_MON_hasChance_19 : decode b_MON_hasChance 19 = .ok (.iadd, 1) := by decide +kernel
theorem d_MON_hasChance_20 : decode b_MON_hasChance 20 = .ok (.putfield 18, 3) := by decide +kernel
theorem d_MON_hasChance_23 : decode b_MON_hasChance 23 = .ok (.aload_n 0, 1) := by decide +kernel
theorem d_MON_hasChance_24 : decode b_MON_hasChance 24 = .ok (.getfield 25, 3) := by decide +kernel
theorem d_MON_hasChance_27 : decode b_MON_hasChance 27 = .ok (.tableswitch 80 1 3 #[25, 51, 70], 25) := by decide +kernel
theorem d_MON_hasChance_52 : decode b_MON_hasChance 52 = .ok (.iload_n 2, 1) := by decide +kernel
theorem d_MON_hasChance_53 : decode b_MON_hasChance 53 = .ok (.ifCond .eq 23, 3) := by decide +kernel
theorem d_MON_hasChance_56 : decode b_MON_hasChance 56 = .ok (.iload_n 1, 1) := by decide +kernel
theorem d_MON_hasChance_57 : decode b_MON_hasChance 57 = .ok (.aload_n 0, 1) := by decide +kernel
theorem d_MON_hasChance_58 : decode b_MON_hasChance 58 = .ok (.getfield 28, 3) := by decide +kernel
theorem d_MON_hasChance_61 : decode b_MON_hasChance 61 = .ok (.iconst 1, 1) := by decide +kernel
theorem d_MON_hasChance_62 : decode b_MON_hasChance 62 = .ok (.iadd, 1) := by decide +kernel
theorem d_MON_hasChance_63 : decode b_MON_hasChance 63 = .ok (.bipush 8, 2) := by decide +kernel
theorem d_MON_hasChance_65 : decode b_MON_hasChance 65 = .ok (.irem, 1) := by decide +kernel
theorem d_MON_hasChance_66 : decode b_MON_hasChance 66 = .ok (.invokestatic 39, 3) := by decide +kernel
theorem d_MON_hasChance_69 : decode b_MON_hasChance 69 = .ok (.ifCond .eq 7, 3) := by decide +kernel
theorem d_MON_hasChance_72 : decode b_MON_hasChance 72 = .ok (.iconst 1, 1) := by decide +kernel
theorem d_MON_hasChance_73 : decode b_MON_hasChance 73 = .ok (.goto 4, 3) := by decide +kernel
theorem d_MON_hasChance_76 : decode b_MON_hasChance 76 = .ok (.iconst 0, 1) := by decide +kernel
theorem d_MON_hasChance_77 : decode b_MON_hasChance 77 = .ok (.ireturn, 1) := by decide +kernel
theorem d_MON_hasChance_78 : decode b_MON_hasChance 78 = .ok (.iload_n 2, 1) := by decide +kernel
theorem d_MON_hasChance_79 : decode b_MON_hasChance 79 = .ok (.ifCond .eq 16, 3) := by decide +kernel
theorem d_MON_hasChance_82 : decode b_MON_hasChance 82 = .ok (.aload_n 0, 1) := by decide +kernel
theorem d_MON_hasChance_83 : decode b_MON_hasChance 83 = .ok (.getfield 18, 3) := by decide +kernel
theorem d_MON_hasChance_86 : decode b_MON_hasChance 86 = .ok (.iconst 2, 1) := by decide +kernel
theorem d_MON_hasChance_87 : decode b_MON_hasChance 87 = .ok (.irem, 1) := by decide +kernel
theorem d_MON_hasChance_88 : decode b_MON_hasChance 88 = .ok (.ifCond .ne 7, 3) := by decide +kernel
theorem d_MON_hasChance_91 : decode b_MON_hasChance 91 = .ok (.iconst 1, 1) := by decide +kernel
theorem d_MON_hasChance_92 : decode b_MON_hasChance 92 = .ok (.goto 4, 3) := by decide +kernel
theorem d_MON_hasChance_95 : decode b_MON_hasChance 95 = .ok (.iconst 0, 1) := by decide +kernel
theorem d_MON_hasChance_96 : decode b_MON_hasChance 96 = .ok (.ireturn, 1) := by decide +kernel
theorem d_MON_hasChance_97 : decode b_MON_hasChance 97 = .ok (.iload_n 2, 1) := by decide +kernel
theorem d_MON_hasChance_98 : decode b_MON_hasChance 98 = .ok (.ifCond .ne 7, 3) := by decide +kernel
theorem d_MON_hasChance_101 : decode b_MON_hasChance 101 = .ok (.iconst 1, 1) := by decide +kernel
theorem d_MON_hasChance_102 : decode b_MON_hasChance 102 = .ok (.goto 4, 3) := by decide +kernel
theorem d_MON_hasChance_105 : decode b_MON_hasChance 105 = .ok (.iconst 0, 1) := by decide +kernel
theorem d_MON_hasChance_106 : decode b_MON_hasChance 106 = .ok (.ireturn, 1) := by decide +kernel
theorem d_MON_hasChance_107 : decode b_MON_hasChance 107 = .ok (.iload_n 2, 1) := by decide +kernel
theorem d_MON_hasChance_108 : decode b_MON_hasChance 108 = .ok (.ireturn, 1) := by decide +kernel
abbrev b_MON_endCycle : ByteArray := prog_4_method_2_code
def y_MON_endCycle : MethodName := ⟨R_MON, "endCycle", "(IZ)Z"⟩
def w_MON_endCycle : List Cond := .code y_MON_endCycle b_MON_endCycle 4 (some .boolean) :: lwG
theorem d_MON_endCycle_0 : decode b_MON_endCycle 0 = .ok (.aload_n 0, 1) := by decide +kernel
theorem d_MON_endCycle_1 : decode b_MON_endCycle 1 = .ok (.iload_n 1, 1) := by decide +kernel
theorem d_MON_endCycle_2 : decode b_MON_endCycle 2 = .ok (.invokevirtual 31, 3) := by decide +kernel
theorem d_MON_endCycle_5 : decode b_MON_endCycle 5 = .ok (.istore_n 3, 1) := by decide +kernel
theorem d_MON_endCycle_6 : decode b_MON_endCycle 6 = .ok (.iload_n 3, 1) := by decide +kernel
theorem d_MON_endCycle_7 : decode b_MON_endCycle 7 = .ok (.ifCond .eq 8, 3) := by decide +kernel
theorem d_MON_endCycle_10 : decode b_MON_endCycle 10 = .ok (.aload_n 0, 1) := by decide +kernel
theorem d_MON_endCycle_11 : decode b_MON_endCycle 11 = .ok (.iload_n 2, 1) := by decide +kernel
theorem d_MON_endCycle_12 : decode b_MON_endCycle 12 = .ok (.invokevirtual 35, 3) := by decide +kernel
theorem d_MON_endCycle_15 : decode b_MON_endCycle 15 = .ok (.iload_n 2, 1) := by decide +kernel
theorem d_MON_endCycle_16 : decode b_MON_endCycle 16 = .ok (.ifCond .eq 8, 3) := by decide +kernel
theorem d_MON_endCycle_19 : decode b_MON_endCycle 19 = .ok (.aload_n 0, 1) := by decide +kernel
theorem d_MON_endCycle_20 : decode b_MON_endCycle 20 = .ok (.iconst 1, 1) := by decide +kernel
theorem d_MON_endCycle_21 : decode b_MON_endCycle 21 = .ok (.putfield 21, 3) := by decide +kernel
theorem d_MON_endCycle_24 : decode b_MON_endCycle 24 = .ok (.iload_n 3, 1) := by decide +kernel
theorem d_MON_endCycle_25 : decode b_MON_endCycle 25 = .ok (.ireturn, 1) := by decide +kernel
abbrev b_COD_init : ByteArray := prog_2_method_1_code
def y_COD_init : MethodName := ⟨R_COD, "<init>", "(IZ)V"⟩
def w_COD_init : List Cond := .code y_COD_init b_COD_init 3 none :: lwG
theorem d_COD_init_0 : decode b_COD_init 0 = .ok (.aload_n 0, 1) := by decide +kernel
theorem d_COD_init_1 : decode b_COD_init 1 = .ok (.invokespecial 3, 3) := by decide +kernel
theorem d_COD_init_4 : decode b_COD_init 4 = .ok (.aload_n 0, 1) := by decide +kernel
theorem d_COD_init_5 : decode b_COD_init 5 = .ok (.iconst 0, 1) := by decide +kernel
theorem d_COD_init_6 : decode b_COD_init 6 = .ok (.putfield 9, 3) := by decide +kernel
theorem d_COD_init_9 : decode b_COD_init 9 = .ok (.aload_n 0, 1) := by decide +kernel
theorem d_COD_init_10 : decode b_COD_init 10 = .ok (.iconst 0, 1) := by decide +kernel
theorem d_COD_init_11 : decode b_COD_init 11 = .ok (.putfield 15, 3) := by decide +kernel
theorem d_COD_init_14 : decode b_COD_init 14 = .ok (.aload_n 0, 1) := by decide +kernel
theorem d_COD_init_15 : decode b_COD_init 15 = .ok (.iconst 0, 1) := by decide +kernel
theorem d_COD_init_16 : decode b_COD_init 16 = .ok (.putfield 18, 3) := by decide +kernel
theorem d_COD_init_19 : decode b_COD_init 19 = .ok (.aload_n 0, 1) := by decide +kernel
theorem d_COD_init_20 : decode b_COD_init 20 = .ok (.iconst 0, 1) := by decide +kernel
theorem d_COD_init_21 : decode b_COD_init 21 = .ok (.putfield 21, 3) := by decide +kernel
theorem d_COD_init_24 : decode b_COD_init 24 = .ok (.aload_n 0, 1) := by decide +kernel
theorem d_COD_init_25 : decode b_COD_init 25 = .ok (.iconst 0, 1) := by decide +kernel
theorem d_COD_init_26 : decode b_COD_init 26 = .ok (.putfield 25, 3) := by decide +kernel
theorem d_COD_init_29 : decode b_COD_init 29 = .ok (.aload_n 0, 1) := by decide +kernel
theorem d_COD_init_30 : decode b_COD_init 30 = .ok (.iconst 0, 1) := by decide +kernel
theorem d_COD_init_31 : decode b_COD_init 31 = .ok (.putfield 28, 3) := by decide +kernel
theorem d_COD_init_34 : decode b_COD_init 34 = .ok (.aload_n 0, 1) := by decide +kernel
theorem d_COD_init_35 : decode b_COD_init 35 = .ok (.iconst 0, 1) := by decide +kernel
theorem d_COD_init_36 : decode b_COD_init 36 = .ok (.putfield 31, 3) := by decide +kernel
theorem d_COD_init_39 : decode b_COD_init 39 = .ok (.aload_n 0, 1) := by decide +kernel
theorem d_COD_init_40 : decode b_COD_init 40 = .ok (.iload_n 1, 1) := by decide +kernel
theorem d_COD_init_41 : decode b_COD_init 41 = .ok (.putfield 34, 3) := by decide +kernel
theorem d_COD_init_44 : decode b_COD_init 44 = .ok (.aload_n 0, 1) := by decide +kernel
theorem d_COD_init_45 : decode b_COD_init 45 = .ok (.iload_n 2, 1) := by decide +kernel
theorem d_COD_init_46 : decode b_COD_init 46 = .ok (.putfield 37, 3) := by decide +kernel
theorem d_COD_init_49 : decode b_COD_init 49 = .ok (.return_, 1) := by decide +kernel
abbrev b_COD_endCycleOn : ByteArray := prog_2_method_2_code
def y_COD_endCycleOn : MethodName := ⟨R_COD, "endCycleOn", "(II)V"⟩
def w_COD_endCycleOn : List Cond := .code y_COD_endCycleOn b_COD_endCycleOn 3 none :: lwG
theorem d_COD_endCycleOn_0 : decode b_COD_endCycleOn 0 = .ok (.aload_n 0, 1) := by decide +kernel
theorem d_COD_endCycleOn_1 : decode b_COD_endCycleOn 1 = .ok (.iconst 0, 1) := by decide +kernel
theorem d_COD_endCycleOn_2 : decode b_COD_endCycleOn 2 = .ok (.putfield 21, 3) := by decide +kernel
theorem d_COD_endCycleOn_5 : decode b_COD_endCycleOn 5 = .ok (.aload_n 0, 1) := by decide +kernel
theorem d_COD_endCycleOn_6 : decode b_COD_endCycleOn 6 = .ok (.iconst 0, 1) := by decide +kernel
theorem d_COD_endCycleOn_7 : decode b_COD_endCycleOn 7 = .ok (.putfield 25, 3) := by decide +kernel
theorem d_COD_endCycleOn_10 : decode b_COD_endCycleOn 10 = .ok (.aload_n 0, 1) := by decide +kernel
theorem d_COD_endCycleOn_11 : decode b_COD_endCycleOn 11 = .ok (.getfield 9, 3) := by decide +kernel
theorem d_COD_endCycleOn_14 : decode b_COD_endCycleOn 14 = .ok (.ifCond .eq 21, 3) := by decide +kernel
theorem d_COD_endCycleOn_17 : decode b_COD_endCycleOn 17 = .ok (.aload_n 0, 1) := by decide +kernel
theorem d_COD_endCycleOn_18 : decode b_COD_endCycleOn 18 = .ok (.iconst 0, 1) := by decide +kernel
theorem d_COD_endCycleOn_19 : decode b_COD_endCycleOn 19 = .ok (.putfield 9, 3) := by decide +kernel
theorem d_COD_endCycleOn_22 : decode b_COD_endCycleOn 22 = .ok (.aload_n 0, 1) := by decide +kernel
theorem d_COD_endCycleOn_23 : decode b_COD_endCycleOn 23 = .ok (.iconst 1, 1) := by decide +kernel
theorem d_COD_endCycleOn_24 : decode b_COD_endCycleOn 24 = .ok (.putfield 15, 3) := by decide +kernel
theorem d_COD_endCycleOn_27 : decode b_COD_endCycleOn 27 = .ok (.aload_n 0, 1) := by decide +kernel
theorem d_COD_endCycleOn_28 : decode b_COD_endCycleOn 28 = .ok (.iconst 1, 1) := by decide +kernel
theorem d_COD_endCycleOn_29 : decode b_COD_endCycleOn 29 = .ok (.putfield 18, 3) := by decide +kernel
theorem d_COD_endCycleOn_32 : decode b_COD_endCycleOn 32 = .ok (.goto 25, 3) := by decide +kernel
theorem d_COD_endCycleOn_35 : decode b_COD_endCycleOn 35 = .ok (.aload_n 0, 1) := by decide +kernel
theorem d_COD_endCycleOn_36 : decode b_COD_endCycleOn 36 = .ok (.getfield 15, 3) := by decide +kernel
theorem d_COD_endCycleOn_39 : decode b_COD_endCycleOn 39 = .ok (.ifCond .ne 18, 3) := by decide +kernel
theorem d_COD_endCycleOn_42 : decode b_COD_endCycleOn 42 = .ok (.aload_n 0, 1) := by decide +kernel
theorem d_COD_endCycleOn_43 : decode b_COD_endCycleOn 43 = .ok (.iconst 1, 1) := by decide +kernel
theorem d_COD_endCycleOn_44 : decode b_COD_endCycleOn 44 = .ok (.putfield 9, 3) := by decide +kernel
theorem d_COD_endCycleOn_47 : decode b_COD_endCycleOn 47 = .ok (.aload_n 0, 1) := by decide +kernel
theorem d_COD_endCycleOn_48 : decode b_COD_endCycleOn 48 = .ok (.iload_n 1, 1) := by decide +kernel
theorem d_COD_endCycleOn_49 : decode b_COD_endCycleOn 49 = .ok (.putfield 28, 3) := by decide +kernel
theorem d_COD_endCycleOn_52 : decode b_COD_endCycleOn 52 = .ok (.aload_n 0, 1) := by decide +kernel
theorem d_COD_endCycleOn_53 : decode b_COD_endCycleOn 53 = .ok (.iload_n 2, 1) := by decide +kernel
theorem d_COD_endCycleOn_54 : decode b_COD_endCycleOn 54 = .ok (.putfield 31, 3) := by decide +kernel
theorem d_COD_endCycleOn_57 : decode b_COD_endCycleOn 57 = .ok (.return_, 1) := by decide +kernel
abbrev b_COD_forgetFault : ByteArray := prog_2_method_4_code
def y_COD_forgetFault : MethodName := ⟨R_COD, "forgetFault", "()V"⟩
def w_COD_forgetFault : List Cond := .code y_COD_forgetFault b_COD_forgetFault 1 none :: lwG
theorem d_COD_forgetFault_0 : decode b_COD_forgetFault 0 = .ok (.aload_n 0, 1) := by decide +kernel
theorem d_COD_forgetFault_1 : decode b_COD_forgetFault 1 = .ok (.iconst 0, 1) := by decide +kernel
theorem d_COD_forgetFault_2 : decode b_COD_forgetFault 2 = .ok (.putfield 9, 3) := by decide +kernel
theorem d_COD_forgetFault_5 : decode b_COD_forgetFault 5 = .ok (.aload_n 0, 1) := by decide +kernel
theorem d_COD_forgetFault_6 : decode b_COD_forgetFault 6 = .ok (.iconst 0, 1) := by decide +kernel
theorem d_COD_forgetFault_7 : decode b_COD_forgetFault 7 = .ok (.putfield 15, 3) := by decide +kernel
theorem d_COD_forgetFault_10 : decode b_COD_forgetFault 10 = .ok (.aload_n 0, 1) := by decide +kernel
theorem d_COD_forgetFault_11 : decode b_COD_forgetFault 11 = .ok (.iconst 0, 1) := by decide +kernel
theorem d_COD_forgetFault_12 : decode b_COD_forgetFault 12 = .ok (.putfield 21, 3) := by decide +kernel
theorem d_COD_forgetFault_15 : decode b_COD_forgetFault 15 = .ok (.aload_n 0, 1) := by decide +kernel
theorem d_COD_forgetFault_16 : decode b_COD_forgetFault 16 = .ok (.iconst 0, 1) := by decide +kernel
theorem d_COD_forgetFault_17 : decode b_COD_forgetFault 17 = .ok (.putfield 28, 3) := by decide +kernel
theorem d_COD_forgetFault_20 : decode b_COD_forgetFault 20 = .ok (.aload_n 0, 1) := by decide +kernel
theorem d_COD_forgetFault_21 : decode b_COD_forgetFault 21 = .ok (.iconst 0, 1) := by decide +kernel
theorem d_COD_forgetFault_22 : decode b_COD_forgetFault 22 = .ok (.putfield 31, 3) := by decide +kernel
theorem d_COD_forgetFault_25 : decode b_COD_forgetFault 25 = .ok (.return_, 1) := by decide +kernel
abbrev b_COD_endCycleOff : ByteArray := prog_2_method_3_code
def y_COD_endCycleOff : MethodName := ⟨R_COD, "endCycleOff", "(I)V"⟩
def w_COD_endCycleOff : List Cond := .code y_COD_endCycleOff b_COD_endCycleOff 2 none :: lwG
theorem d_COD_endCycleOff_0 : decode b_COD_endCycleOff 0 = .ok (.aload_n 0, 1) := by decide +kernel
theorem d_COD_endCycleOff_1 : decode b_COD_endCycleOff 1 = .ok (.dup, 1) := by decide +kernel
theorem d_COD_endCycleOff_2 : decode b_COD_endCycleOff 2 = .ok (.getfield 21, 3) := by decide +kernel
theorem d_COD_endCycleOff_5 : decode b_COD_endCycleOff 5 = .ok (.iconst 1, 1) := by decide +kernel
theorem d_COD_endCycleOff_6 : decode b_COD_endCycleOff 6 = .ok (.iadd, 1) := by decide +kernel
theorem d_COD_endCycleOff_7 : decode b_COD_endCycleOff 7 = .ok (.putfield 21, 3) := by decide +kernel
theorem d_COD_endCycleOff_10 : decode b_COD_endCycleOff 10 = .ok (.iload_n 1, 1) := by decide +kernel
theorem d_COD_endCycleOff_11 : decode b_COD_endCycleOff 11 = .ok (.iconst 0, 1) := by decide +kernel
theorem d_COD_endCycleOff_12 : decode b_COD_endCycleOff 12 = .ok (.invokestatic 40, 3) := by decide +kernel
theorem d_COD_endCycleOff_15 : decode b_COD_endCycleOff 15 = .ok (.ifCond .eq 13, 3) := by decide +kernel
theorem d_COD_endCycleOff_18 : decode b_COD_endCycleOff 18 = .ok (.aload_n 0, 1) := by decide +kernel
theorem d_COD_endCycleOff_19 : decode b_COD_endCycleOff 19 = .ok (.dup, 1) := by decide +kernel
theorem d_COD_endCycleOff_20 : decode b_COD_endCycleOff 20 = .ok (.getfield 25, 3) := by decide +kernel
theorem d_COD_endCycleOff_23 : decode b_COD_endCycleOff 23 = .ok (.iconst 1, 1) := by decide +kernel
theorem d_COD_endCycleOff_24 : decode b_COD_endCycleOff 24 = .ok (.iadd, 1) := by decide +kernel
theorem d_COD_endCycleOff_25 : decode b_COD_endCycleOff 25 = .ok (.putfield 25, 3) := by decide +kernel
theorem d_COD_endCycleOff_28 : decode b_COD_endCycleOff 28 = .ok (.aload_n 0, 1) := by decide +kernel
theorem d_COD_endCycleOff_29 : decode b_COD_endCycleOff 29 = .ok (.getfield 9, 3) := by decide +kernel
theorem d_COD_endCycleOff_32 : decode b_COD_endCycleOff 32 = .ok (.ifCond .ne 11, 3) := by decide +kernel
theorem d_COD_endCycleOff_35 : decode b_COD_endCycleOff 35 = .ok (.aload_n 0, 1) := by decide +kernel
theorem d_COD_endCycleOff_36 : decode b_COD_endCycleOff 36 = .ok (.getfield 21, 3) := by decide +kernel
theorem d_COD_endCycleOff_39 : decode b_COD_endCycleOff 39 = .ok (.iconst 3, 1) := by decide +kernel
theorem d_COD_endCycleOff_40 : decode b_COD_endCycleOff 40 = .ok (.if_icmp .lt 7, 3) := by decide +kernel
theorem d_COD_endCycleOff_43 : decode b_COD_endCycleOff 43 = .ok (.aload_n 0, 1) := by decide +kernel
theorem d_COD_endCycleOff_44 : decode b_COD_endCycleOff 44 = .ok (.invokevirtual 44, 3) := by decide +kernel
theorem d_COD_endCycleOff_47 : decode b_COD_endCycleOff 47 = .ok (.aload_n 0, 1) := by decide +kernel
theorem d_COD_endCycleOff_48 : decode b_COD_endCycleOff 48 = .ok (.getfield 25, 3) := by decide +kernel
theorem d_COD_endCycleOff_51 : decode b_COD_endCycleOff 51 = .ok (.iconst 3, 1) := by decide +kernel
theorem d_COD_endCycleOff_52 : decode b_COD_endCycleOff 52 = .ok (.if_icmp .lt 8, 3) := by decide +kernel
theorem d_COD_endCycleOff_55 : decode b_COD_endCycleOff 55 = .ok (.aload_n 0, 1) := by decide +kernel
theorem d_COD_endCycleOff_56 : decode b_COD_endCycleOff 56 = .ok (.iconst 0, 1) := by decide +kernel
theorem d_COD_endCycleOff_57 : decode b_COD_endCycleOff 57 = .ok (.putfield 18, 3) := by decide +kernel
theorem d_COD_endCycleOff_60 : decode b_COD_endCycleOff 60 = .ok (.return_, 1) := by decide +kernel
abbrev b_COD_hasFrozenRow : ByteArray := prog_2_method_5_code
def y_COD_hasFrozenRow : MethodName := ⟨R_COD, "hasFrozenRow", "()Z"⟩
def w_COD_hasFrozenRow : List Cond := .code y_COD_hasFrozenRow b_COD_hasFrozenRow 1 (some .boolean) :: lwG
theorem d_COD_hasFrozenRow_0 : decode b_COD_hasFrozenRow 0 = .ok (.aload_n 0, 1) := by decide +kernel
theorem d_COD_hasFrozenRow_1 : decode b_COD_hasFrozenRow 1 = .ok (.getfield 28, 3) := by decide +kernel
theorem d_COD_hasFrozenRow_4 : decode b_COD_hasFrozenRow 4 = .ok (.ifCond .eq 7, 3) := by decide +kernel
theorem d_COD_hasFrozenRow_7 : decode b_COD_hasFrozenRow 7 = .ok (.iconst 1, 1) := by decide +kernel
theorem d_COD_hasFrozenRow_8 : decode b_COD_hasFrozenRow 8 = .ok (.goto 4, 3) := by decide +kernel
theorem d_COD_hasFrozenRow_11 : decode b_COD_hasFrozenRow 11 = .ok (.iconst 0, 1) := by decide +kernel
theorem d_COD_hasFrozenRow_12 : decode b_COD_hasFrozenRow 12 = .ok (.ireturn, 1) := by decide +kernel
abbrev b_COD_isToldIn : ByteArray := prog_2_method_6_code
def y_COD_isToldIn : MethodName := ⟨R_COD, "isToldIn", "(I)Z"⟩
def w_COD_isToldIn : List Cond := .code y_COD_isToldIn b_COD_isToldIn 2 (some .boolean) :: lwG
theorem d_COD_isToldIn_0 : decode b_COD_isToldIn 0 = .ok (.iload_n 1, 1) := by decide +kernel
theorem d_COD_isToldIn_1 : decode b_COD_isToldIn 1 = .ok (.lookupswitch 50 #[(3, 35), (7, 40), (10, 45)], 35) := by decide +kernel
theorem d_COD_isToldIn_36 : decode b_COD_isToldIn 36 = .ok (.aload_n 0, 1) := by decide +kernel
theorem d_COD_isToldIn_37 : decode b_COD_isToldIn 37 = .ok (.getfield 15, 3) := by decide +kernel
theorem d_COD_isToldIn_40 : decode b_COD_isToldIn 40 = .ok (.ireturn, 1) := by decide +kernel
theorem d_COD_isToldIn_41 : decode b_COD_isToldIn 41 = .ok (.aload_n 0, 1) := by decide +kernel
theorem d_COD_isToldIn_42 : decode b_COD_isToldIn 42 = .ok (.getfield 9, 3) := by decide +kernel
theorem d_COD_isToldIn_45 : decode b_COD_isToldIn 45 = .ok (.ireturn, 1) := by decide +kernel
theorem d_COD_isToldIn_46 : decode b_COD_isToldIn 46 = .ok (.aload_n 0, 1) := by decide +kernel
theorem d_COD_isToldIn_47 : decode b_COD_isToldIn 47 = .ok (.getfield 18, 3) := by decide +kernel
theorem d_COD_isToldIn_50 : decode b_COD_isToldIn 50 = .ok (.ireturn, 1) := by decide +kernel
theorem d_COD_isToldIn_51 : decode b_COD_isToldIn 51 = .ok (.iconst 0, 1) := by decide +kernel
theorem d_COD_isToldIn_52 : decode b_COD_isToldIn 52 = .ok (.ireturn, 1) := by decide +kernel
abbrev b_LAMP_init : ByteArray := prog_3_method_1_code
def y_LAMP_init : MethodName := ⟨R_LAMP, "<init>", "()V"⟩
def w_LAMP_init : List Cond := .code y_LAMP_init b_LAMP_init 1 none :: lwG
theorem d_LAMP_init_0 : decode b_LAMP_init 0 = .ok (.aload_n 0, 1) := by decide +kernel
theorem d_LAMP_init_1 : decode b_LAMP_init 1 = .ok (.invokespecial 1, 3) := by decide +kernel
theorem d_LAMP_init_4 : decode b_LAMP_init 4 = .ok (.aload_n 0, 1) := by decide +kernel
theorem d_LAMP_init_5 : decode b_LAMP_init 5 = .ok (.iconst 0, 1) := by decide +kernel
theorem d_LAMP_init_6 : decode b_LAMP_init 6 = .ok (.putfield 7, 3) := by decide +kernel
theorem d_LAMP_init_9 : decode b_LAMP_init 9 = .ok (.aload_n 0, 1) := by decide +kernel
theorem d_LAMP_init_10 : decode b_LAMP_init 10 = .ok (.lconst 0, 1) := by decide +kernel
theorem d_LAMP_init_11 : decode b_LAMP_init 11 = .ok (.putfield 13, 3) := by decide +kernel
theorem d_LAMP_init_14 : decode b_LAMP_init 14 = .ok (.aload_n 0, 1) := by decide +kernel
theorem d_LAMP_init_15 : decode b_LAMP_init 15 = .ok (.lconst 0, 1) := by decide +kernel
theorem d_LAMP_init_16 : decode b_LAMP_init 16 = .ok (.putfield 17, 3) := by decide +kernel
theorem d_LAMP_init_19 : decode b_LAMP_init 19 = .ok (.return_, 1) := by decide +kernel
abbrev b_LAMP_reset : ByteArray := prog_3_method_4_code
def y_LAMP_reset : MethodName := ⟨R_LAMP, "reset", "()V"⟩
def w_LAMP_reset : List Cond := .code y_LAMP_reset b_LAMP_reset 1 none :: lwG
theorem d_LAMP_reset_0 : decode b_LAMP_reset 0 = .ok (.aload_n 0, 1) := by decide +kernel
theorem d_LAMP_reset_1 : decode b_LAMP_reset 1 = .ok (.iconst 0, 1) := by decide +kernel
theorem d_LAMP_reset_2 : decode b_LAMP_reset 2 = .ok (.putfield 7, 3) := by decide +kernel
theorem d_LAMP_reset_5 : decode b_LAMP_reset 5 = .ok (.aload_n 0, 1) := by decide +kernel
theorem d_LAMP_reset_6 : decode b_LAMP_reset 6 = .ok (.lconst 0, 1) := by decide +kernel
theorem d_LAMP_reset_7 : decode b_LAMP_reset 7 = .ok (.putfield 13, 3) := by decide +kernel
theorem d_LAMP_reset_10 : decode b_LAMP_reset 10 = .ok (.aload_n 0, 1) := by decide +kernel
theorem d_LAMP_reset_11 : decode b_LAMP_reset 11 = .ok (.lconst 0, 1) := by decide +kernel
theorem d_LAMP_reset_12 : decode b_LAMP_reset 12 = .ok (.putfield 17, 3) := by decide +kernel
theorem d_LAMP_reset_15 : decode b_LAMP_reset 15 = .ok (.return_, 1) := by decide +kernel
abbrev b_LAMP_follow : ByteArray := prog_3_method_2_code
def y_LAMP_follow : MethodName := ⟨R_LAMP, "follow", "(Z)V"⟩
def w_LAMP_follow : List Cond := .code y_LAMP_follow b_LAMP_follow 2 none :: lwG
theorem d_LAMP_follow_0 : decode b_LAMP_follow 0 = .ok (.iload_n 1, 1) := by decide +kernel
theorem d_LAMP_follow_1 : decode b_LAMP_follow 1 = .ok (.ifCond .eq 14, 3) := by decide +kernel
theorem d_LAMP_follow_4 : decode b_LAMP_follow 4 = .ok (.aload_n 0, 1) := by decide +kernel
theorem d_LAMP_follow_5 : decode b_LAMP_follow 5 = .ok (.getfield 7, 3) := by decide +kernel
theorem d_LAMP_follow_8 : decode b_LAMP_follow 8 = .ok (.ifCond .ne 7, 3) := by decide +kernel
theorem d_LAMP_follow_11 : decode b_LAMP_follow 11 = .ok (.aload_n 0, 1) := by decide +kernel
theorem d_LAMP_follow_12 : decode b_LAMP_follow 12 = .ok (.invokevirtual 20, 3) := by decide +kernel
theorem d_LAMP_follow_15 : decode b_LAMP_follow 15 = .ok (.aload_n 0, 1) := by decide +kernel
theorem d_LAMP_follow_16 : decode b_LAMP_follow 16 = .ok (.iload_n 1, 1) := by decide +kernel
theorem d_LAMP_follow_17 : decode b_LAMP_follow 17 = .ok (.putfield 7, 3) := by decide +kernel
theorem d_LAMP_follow_20 : decode b_LAMP_follow 20 = .ok (.return_, 1) := by decide +kernel
abbrev b_LAMP_goOn : ByteArray := prog_3_method_3_code
def y_LAMP_goOn : MethodName := ⟨R_LAMP, "goOn", "(JJ)Z"⟩
def w_LAMP_goOn : List Cond := .code y_LAMP_goOn b_LAMP_goOn 5 (some .boolean) :: lwG
theorem d_LAMP_goOn_0 : decode b_LAMP_goOn 0 = .ok (.aload_n 0, 1) := by decide +kernel
theorem d_LAMP_goOn_1 : decode b_LAMP_goOn 1 = .ok (.getfield 7, 3) := by decide +kernel
theorem d_LAMP_goOn_4 : decode b_LAMP_goOn 4 = .ok (.ifCond .eq 23, 3) := by decide +kernel
theorem d_LAMP_goOn_7 : decode b_LAMP_goOn 7 = .ok (.aload_n 0, 1) := by decide +kernel
theorem d_LAMP_goOn_8 : decode b_LAMP_goOn 8 = .ok (.dup, 1) := by decide +kernel
theorem d_LAMP_goOn_9 : decode b_LAMP_goOn 9 = .ok (.getfield 13, 3) := by decide +kernel
theorem d_LAMP_goOn_12 : decode b_LAMP_goOn 12 = .ok (.lload_n 1, 1) := by decide +kernel
theorem d_LAMP_goOn_13 : decode b_LAMP_goOn 13 = .ok (.ladd, 1) := by decide +kernel
theorem d_LAMP_goOn_14 : decode b_LAMP_goOn 14 = .ok (.putfield 13, 3) := by decide +kernel
theorem d_LAMP_goOn_17 : decode b_LAMP_goOn 17 = .ok (.aload_n 0, 1) := by decide +kernel
theorem d_LAMP_goOn_18 : decode b_LAMP_goOn 18 = .ok (.dup, 1) := by decide +kernel
theorem d_LAMP_goOn_19 : decode b_LAMP_goOn 19 = .ok (.getfield 17, 3) := by decide +kernel
theorem d_LAMP_goOn_22 : decode b_LAMP_goOn 22 = .ok (.lload_n 3, 1) := by decide +kernel
theorem d_LAMP_goOn_23 : decode b_LAMP_goOn 23 = .ok (.ladd, 1) := by decide +kernel
theorem d_LAMP_goOn_24 : decode b_LAMP_goOn 24 = .ok (.putfield 17, 3) := by decide +kernel
theorem d_LAMP_goOn_27 : decode b_LAMP_goOn 27 = .ok (.aload_n 0, 1) := by decide +kernel
theorem d_LAMP_goOn_28 : decode b_LAMP_goOn 28 = .ok (.getfield 7, 3) := by decide +kernel
theorem d_LAMP_goOn_31 : decode b_LAMP_goOn 31 = .ok (.ireturn, 1) := by decide +kernel
