abbrev b_ER_clear : ByteArray := prog_1_method_9_code
def y_ER_clear : MethodName := ⟨R_ER, "clear", "()I"⟩
def w_ER_clear : List Cond := .code y_ER_clear b_ER_clear 3 (some .int) :: lwG
theorem d_ER_clear_0 : decode b_ER_clear 0 = .ok (.aload_n 0, 1) := by decide +kernel
theorem d_ER_clear_1 : decode b_ER_clear 1 = .ok (.invokevirtual 63, 3) := by decide +kernel
theorem d_ER_clear_4 : decode b_ER_clear 4 = .ok (.istore_n 1, 1) := by decide +kernel
theorem d_ER_clear_5 : decode b_ER_clear 5 = .ok (.iconst 0, 1) := by decide +kernel
theorem d_ER_clear_6 : decode b_ER_clear 6 = .ok (.istore_n 2, 1) := by decide +kernel
theorem d_ER_clear_7 : decode b_ER_clear 7 = .ok (.iload_n 2, 1) := by decide +kernel
theorem d_ER_clear_8 : decode b_ER_clear 8 = .ok (.aload_n 0, 1) := by decide +kernel
theorem d_ER_clear_9 : decode b_ER_clear 9 = .ok (.getfield 16, 3) := by decide +kernel
theorem d_ER_clear_12 : decode b_ER_clear 12 = .ok (.invokevirtual 41, 3) := by decide +kernel
theorem d_ER_clear_15 : decode b_ER_clear 15 = .ok (.if_icmp .ge 23, 3) := by decide +kernel
theorem d_ER_clear_18 : decode b_ER_clear 18 = .ok (.aload_n 0, 1) := by decide +kernel
theorem d_ER_clear_19 : decode b_ER_clear 19 = .ok (.getfield 16, 3) := by decide +kernel
theorem d_ER_clear_22 : decode b_ER_clear 22 = .ok (.iload_n 2, 1) := by decide +kernel
theorem d_ER_clear_23 : decode b_ER_clear 23 = .ok (.invokevirtual 73, 3) := by decide +kernel
theorem d_ER_clear_26 : decode b_ER_clear 26 = .ok (.checkcast 105, 3) := by decide +kernel
theorem d_ER_clear_29 : decode b_ER_clear 29 = .ok (.invokevirtual 119, 3) := by decide +kernel
theorem d_ER_clear_32 : decode b_ER_clear 32 = .ok (.iinc 2 1, 3) := by decide +kernel
theorem d_ER_clear_35 : decode b_ER_clear 35 = .ok (.goto (-28), 3) := by decide +kernel
theorem d_ER_clear_38 : decode b_ER_clear 38 = .ok (.iconst 0, 1) := by decide +kernel
theorem d_ER_clear_39 : decode b_ER_clear 39 = .ok (.istore_n 2, 1) := by decide +kernel
theorem d_ER_clear_40 : decode b_ER_clear 40 = .ok (.iload_n 2, 1) := by decide +kernel
theorem d_ER_clear_41 : decode b_ER_clear 41 = .ok (.aload_n 0, 1) := by decide +kernel
theorem d_ER_clear_42 : decode b_ER_clear 42 = .ok (.getfield 10, 3) := by decide +kernel
theorem d_ER_clear_45 : decode b_ER_clear 45 = .ok (.invokevirtual 41, 3) := by decide +kernel
theorem d_ER_clear_48 : decode b_ER_clear 48 = .ok (.if_icmp .ge 24, 3) := by decide +kernel
theorem d_ER_clear_51 : decode b_ER_clear 51 = .ok (.aload_n 0, 1) := by decide +kernel
theorem d_ER_clear_52 : decode b_ER_clear 52 = .ok (.getfield 10, 3) := by decide +kernel
theorem d_ER_clear_55 : decode b_ER_clear 55 = .ok (.iload_n 2, 1) := by decide +kernel
theorem d_ER_clear_56 : decode b_ER_clear 56 = .ok (.invokevirtual 73, 3) := by decide +kernel
theorem d_ER_clear_59 : decode b_ER_clear 59 = .ok (.checkcast 45, 3) := by decide +kernel
theorem d_ER_clear_62 : decode b_ER_clear 62 = .ok (.iconst 0, 1) := by decide +kernel
theorem d_ER_clear_63 : decode b_ER_clear 63 = .ok (.putfield 122, 3) := by decide +kernel
theorem d_ER_clear_66 : decode b_ER_clear 66 = .ok (.iinc 2 1, 3) := by decide +kernel
theorem d_ER_clear_69 : decode b_ER_clear 69 = .ok (.goto (-29), 3) := by decide +kernel
theorem d_ER_clear_72 : decode b_ER_clear 72 = .ok (.aload_n 0, 1) := by decide +kernel
theorem d_ER_clear_73 : decode b_ER_clear 73 = .ok (.getfield 22, 3) := by decide +kernel
theorem d_ER_clear_76 : decode b_ER_clear 76 = .ok (.invokevirtual 125, 3) := by decide +kernel
theorem d_ER_clear_79 : decode b_ER_clear 79 = .ok (.iload_n 1, 1) := by decide +kernel
theorem d_ER_clear_80 : decode b_ER_clear 80 = .ok (.ireturn, 1) := by decide +kernel
abbrev b_ER_cycle : ByteArray := prog_1_method_3_code
def y_ER_cycle : MethodName := ⟨R_ER, "cycle", "(II)I"⟩
def w_ER_cycle : List Cond := .code y_ER_cycle b_ER_cycle 4 (some .int) :: lwG
theorem d_ER_cycle_0 : decode b_ER_cycle 0 = .ok (.iload_n 1, 1) := by decide +kernel
theorem d_ER_cycle_1 : decode b_ER_cycle 1 = .ok (.ifCond .lt 20, 3) := by decide +kernel
theorem d_ER_cycle_4 : decode b_ER_cycle 4 = .ok (.iload_n 1, 1) := by decide +kernel
theorem d_ER_cycle_5 : decode b_ER_cycle 5 = .ok (.sipush 255, 3) := by decide +kernel
theorem d_ER_cycle_8 : decode b_ER_cycle 8 = .ok (.if_icmp .gt 13, 3) := by decide +kernel
theorem d_ER_cycle_11 : decode b_ER_cycle 11 = .ok (.iload_n 2, 1) := by decide +kernel
theorem d_ER_cycle_12 : decode b_ER_cycle 12 = .ok (.ifCond .lt 9, 3) := by decide +kernel
theorem d_ER_cycle_15 : decode b_ER_cycle 15 = .ok (.iload_n 2, 1) := by decide +kernel
theorem d_ER_cycle_16 : decode b_ER_cycle 16 = .ok (.ldc 54, 2) := by decide +kernel
theorem d_ER_cycle_18 : decode b_ER_cycle 18 = .ok (.if_icmp .le 6, 3) := by decide +kernel
theorem d_ER_cycle_21 : decode b_ER_cycle 21 = .ok (.bipush (-2), 2) := by decide +kernel
theorem d_ER_cycle_23 : decode b_ER_cycle 23 = .ok (.ireturn, 1) := by decide +kernel
theorem d_ER_cycle_24 : decode b_ER_cycle 24 = .ok (.aload_n 0, 1) := by decide +kernel
theorem d_ER_cycle_25 : decode b_ER_cycle 25 = .ok (.dup, 1) := by decide +kernel
theorem d_ER_cycle_26 : decode b_ER_cycle 26 = .ok (.getfield 33, 3) := by decide +kernel
theorem d_ER_cycle_29 : decode b_ER_cycle 29 = .ok (.iconst 1, 1) := by decide +kernel
theorem d_ER_cycle_30 : decode b_ER_cycle 30 = .ok (.iadd, 1) := by decide +kernel
theorem d_ER_cycle_31 : decode b_ER_cycle 31 = .ok (.putfield 33, 3) := by decide +kernel
theorem d_ER_cycle_34 : decode b_ER_cycle 34 = .ok (.aload_n 0, 1) := by decide +kernel
theorem d_ER_cycle_35 : decode b_ER_cycle 35 = .ok (.iload_n 1, 1) := by decide +kernel
theorem d_ER_cycle_36 : decode b_ER_cycle 36 = .ok (.iload_n 2, 1) := by decide +kernel
theorem d_ER_cycle_37 : decode b_ER_cycle 37 = .ok (.invokevirtual 55, 3) := by decide +kernel
theorem d_ER_cycle_40 : decode b_ER_cycle 40 = .ok (.istore_n 3, 1) := by decide +kernel
theorem d_ER_cycle_41 : decode b_ER_cycle 41 = .ok (.aload_n 0, 1) := by decide +kernel
theorem d_ER_cycle_42 : decode b_ER_cycle 42 = .ok (.iload_n 1, 1) := by decide +kernel
theorem d_ER_cycle_43 : decode b_ER_cycle 43 = .ok (.invokevirtual 59, 3) := by decide +kernel
theorem d_ER_cycle_46 : decode b_ER_cycle 46 = .ok (.aload_n 0, 1) := by decide +kernel
theorem d_ER_cycle_47 : decode b_ER_cycle 47 = .ok (.getfield 22, 3) := by decide +kernel
theorem d_ER_cycle_50 : decode b_ER_cycle 50 = .ok (.aload_n 0, 1) := by decide +kernel
theorem d_ER_cycle_51 : decode b_ER_cycle 51 = .ok (.invokevirtual 63, 3) := by decide +kernel
theorem d_ER_cycle_54 : decode b_ER_cycle 54 = .ok (.ifCond .le 7, 3) := by decide +kernel
theorem d_ER_cycle_57 : decode b_ER_cycle 57 = .ok (.iconst 1, 1) := by decide +kernel
theorem d_ER_cycle_58 : decode b_ER_cycle 58 = .ok (.goto 4, 3) := by decide +kernel
theorem d_ER_cycle_61 : decode b_ER_cycle 61 = .ok (.iconst 0, 1) := by decide +kernel
theorem d_ER_cycle_62 : decode b_ER_cycle 62 = .ok (.invokevirtual 66, 3) := by decide +kernel
theorem d_ER_cycle_65 : decode b_ER_cycle 65 = .ok (.iload_n 3, 1) := by decide +kernel
theorem d_ER_cycle_66 : decode b_ER_cycle 66 = .ok (.ireturn, 1) := by decide +kernel
