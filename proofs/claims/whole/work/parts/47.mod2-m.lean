abbrev b_MOD_monitor : ByteArray := prog_7_method_4_code
def y_MOD_monitor : MethodName := ⟨R_MOD, "monitor", "(II)I"⟩
def w_MOD_monitor : List Cond := .code y_MOD_monitor b_MOD_monitor 3 (some .int) :: lwG
theorem d_MOD_monitor_0 : decode b_MOD_monitor 0 = .ok (.aload_n 0, 1) := by decide +kernel
theorem d_MOD_monitor_1 : decode b_MOD_monitor 1 = .ok (.iconst 0, 1) := by decide +kernel
theorem d_MOD_monitor_2 : decode b_MOD_monitor 2 = .ok (.putfield 62, 3) := by decide +kernel
theorem d_MOD_monitor_5 : decode b_MOD_monitor 5 = .ok (.iload_n 1, 1) := by decide +kernel
theorem d_MOD_monitor_6 : decode b_MOD_monitor 6 = .ok (.i2l, 1) := by decide +kernel
theorem d_MOD_monitor_7 : decode b_MOD_monitor 7 = .ok (.lconst 0, 1) := by decide +kernel
theorem d_MOD_monitor_8 : decode b_MOD_monitor 8 = .ok (.ldc2_w 66, 3) := by decide +kernel
theorem d_MOD_monitor_11 : decode b_MOD_monitor 11 = .ok (.invokestatic 68, 3) := by decide +kernel
theorem d_MOD_monitor_14 : decode b_MOD_monitor 14 = .ok (.ifCond .eq 15, 3) := by decide +kernel
theorem d_MOD_monitor_17 : decode b_MOD_monitor 17 = .ok (.iload_n 2, 1) := by decide +kernel
theorem d_MOD_monitor_18 : decode b_MOD_monitor 18 = .ok (.i2l, 1) := by decide +kernel
theorem d_MOD_monitor_19 : decode b_MOD_monitor 19 = .ok (.lconst 0, 1) := by decide +kernel
theorem d_MOD_monitor_20 : decode b_MOD_monitor 20 = .ok (.ldc2_w 72, 3) := by decide +kernel
theorem d_MOD_monitor_23 : decode b_MOD_monitor 23 = .ok (.invokestatic 68, 3) := by decide +kernel
theorem d_MOD_monitor_26 : decode b_MOD_monitor 26 = .ok (.ifCond .ne 6, 3) := by decide +kernel
theorem d_MOD_monitor_29 : decode b_MOD_monitor 29 = .ok (.bipush (-2), 2) := by decide +kernel
theorem d_MOD_monitor_31 : decode b_MOD_monitor 31 = .ok (.ireturn, 1) := by decide +kernel
theorem d_MOD_monitor_32 : decode b_MOD_monitor 32 = .ok (.aload_n 0, 1) := by decide +kernel
theorem d_MOD_monitor_33 : decode b_MOD_monitor 33 = .ok (.getfield 74, 3) := by decide +kernel
theorem d_MOD_monitor_36 : decode b_MOD_monitor 36 = .ok (.bipush 16, 2) := by decide +kernel
theorem d_MOD_monitor_38 : decode b_MOD_monitor 38 = .ok (.if_icmp .ne 6, 3) := by decide +kernel
theorem d_MOD_monitor_41 : decode b_MOD_monitor 41 = .ok (.bipush (-4), 2) := by decide +kernel
theorem d_MOD_monitor_43 : decode b_MOD_monitor 43 = .ok (.ireturn, 1) := by decide +kernel
theorem d_MOD_monitor_44 : decode b_MOD_monitor 44 = .ok (.aload_n 0, 1) := by decide +kernel
theorem d_MOD_monitor_45 : decode b_MOD_monitor 45 = .ok (.getfield 7, 3) := by decide +kernel
theorem d_MOD_monitor_48 : decode b_MOD_monitor 48 = .ok (.aload_n 0, 1) := by decide +kernel
theorem d_MOD_monitor_49 : decode b_MOD_monitor 49 = .ok (.getfield 74, 3) := by decide +kernel
theorem d_MOD_monitor_52 : decode b_MOD_monitor 52 = .ok (.iload_n 1, 1) := by decide +kernel
theorem d_MOD_monitor_53 : decode b_MOD_monitor 53 = .ok (.iastore, 1) := by decide +kernel
theorem d_MOD_monitor_54 : decode b_MOD_monitor 54 = .ok (.aload_n 0, 1) := by decide +kernel
theorem d_MOD_monitor_55 : decode b_MOD_monitor 55 = .ok (.getfield 13, 3) := by decide +kernel
theorem d_MOD_monitor_58 : decode b_MOD_monitor 58 = .ok (.aload_n 0, 1) := by decide +kernel
theorem d_MOD_monitor_59 : decode b_MOD_monitor 59 = .ok (.getfield 74, 3) := by decide +kernel
theorem d_MOD_monitor_62 : decode b_MOD_monitor 62 = .ok (.iload_n 2, 1) := by decide +kernel
theorem d_MOD_monitor_63 : decode b_MOD_monitor 63 = .ok (.iastore, 1) := by decide +kernel
theorem d_MOD_monitor_64 : decode b_MOD_monitor 64 = .ok (.aload_n 0, 1) := by decide +kernel
theorem d_MOD_monitor_65 : decode b_MOD_monitor 65 = .ok (.dup, 1) := by decide +kernel
theorem d_MOD_monitor_66 : decode b_MOD_monitor 66 = .ok (.getfield 74, 3) := by decide +kernel
theorem d_MOD_monitor_69 : decode b_MOD_monitor 69 = .ok (.iconst 1, 1) := by decide +kernel
theorem d_MOD_monitor_70 : decode b_MOD_monitor 70 = .ok (.iadd, 1) := by decide +kernel
theorem d_MOD_monitor_71 : decode b_MOD_monitor 71 = .ok (.putfield 74, 3) := by decide +kernel
theorem d_MOD_monitor_74 : decode b_MOD_monitor 74 = .ok (.aload_n 0, 1) := by decide +kernel
theorem d_MOD_monitor_75 : decode b_MOD_monitor 75 = .ok (.getfield 74, 3) := by decide +kernel
theorem d_MOD_monitor_78 : decode b_MOD_monitor 78 = .ok (.ireturn, 1) := by decide +kernel
abbrev b_MOD_fault : ByteArray := prog_7_method_15_code
def y_MOD_fault : MethodName := ⟨R_MOD, "fault", "(IZ)I"⟩
def w_MOD_fault : List Cond := .code y_MOD_fault b_MOD_fault 4 (some .int) :: lwG
theorem d_MOD_fault_0 : decode b_MOD_fault 0 = .ok (.aload_n 0, 1) := by decide +kernel
theorem d_MOD_fault_1 : decode b_MOD_fault 1 = .ok (.iconst 0, 1) := by decide +kernel
theorem d_MOD_fault_2 : decode b_MOD_fault 2 = .ok (.putfield 62, 3) := by decide +kernel
theorem d_MOD_fault_5 : decode b_MOD_fault 5 = .ok (.iload_n 1, 1) := by decide +kernel
theorem d_MOD_fault_6 : decode b_MOD_fault 6 = .ok (.i2l, 1) := by decide +kernel
theorem d_MOD_fault_7 : decode b_MOD_fault 7 = .ok (.lconst 1, 1) := by decide +kernel
theorem d_MOD_fault_8 : decode b_MOD_fault 8 = .ok (.ldc2_w 89, 3) := by decide +kernel
theorem d_MOD_fault_11 : decode b_MOD_fault 11 = .ok (.invokestatic 68, 3) := by decide +kernel
theorem d_MOD_fault_14 : decode b_MOD_fault 14 = .ok (.ifCond .ne 6, 3) := by decide +kernel
theorem d_MOD_fault_17 : decode b_MOD_fault 17 = .ok (.bipush (-2), 2) := by decide +kernel
theorem d_MOD_fault_19 : decode b_MOD_fault 19 = .ok (.ireturn, 1) := by decide +kernel
theorem d_MOD_fault_20 : decode b_MOD_fault 20 = .ok (.iconst 0, 1) := by decide +kernel
theorem d_MOD_fault_21 : decode b_MOD_fault 21 = .ok (.istore_n 3, 1) := by decide +kernel
theorem d_MOD_fault_22 : decode b_MOD_fault 22 = .ok (.iload_n 3, 1) := by decide +kernel
theorem d_MOD_fault_23 : decode b_MOD_fault 23 = .ok (.aload_n 0, 1) := by decide +kernel
theorem d_MOD_fault_24 : decode b_MOD_fault 24 = .ok (.getfield 84, 3) := by decide +kernel
theorem d_MOD_fault_27 : decode b_MOD_fault 27 = .ok (.if_icmp .ge 19, 3) := by decide +kernel
theorem d_MOD_fault_30 : decode b_MOD_fault 30 = .ok (.aload_n 0, 1) := by decide +kernel
theorem d_MOD_fault_31 : decode b_MOD_fault 31 = .ok (.getfield 29, 3) := by decide +kernel
theorem d_MOD_fault_34 : decode b_MOD_fault 34 = .ok (.iload_n 3, 1) := by decide +kernel
theorem d_MOD_fault_35 : decode b_MOD_fault 35 = .ok (.iaload, 1) := by decide +kernel
theorem d_MOD_fault_36 : decode b_MOD_fault 36 = .ok (.iload_n 1, 1) := by decide +kernel
theorem d_MOD_fault_37 : decode b_MOD_fault 37 = .ok (.if_icmp .eq 9, 3) := by decide +kernel
theorem d_MOD_fault_40 : decode b_MOD_fault 40 = .ok (.iinc 3 1, 3) := by decide +kernel
theorem d_MOD_fault_43 : decode b_MOD_fault 43 = .ok (.goto (-21), 3) := by decide +kernel
theorem d_MOD_fault_46 : decode b_MOD_fault 46 = .ok (.iload_n 3, 1) := by decide +kernel
theorem d_MOD_fault_47 : decode b_MOD_fault 47 = .ok (.bipush 20, 2) := by decide +kernel
theorem d_MOD_fault_49 : decode b_MOD_fault 49 = .ok (.if_icmp .ne 6, 3) := by decide +kernel
theorem d_MOD_fault_52 : decode b_MOD_fault 52 = .ok (.bipush (-4), 2) := by decide +kernel
theorem d_MOD_fault_54 : decode b_MOD_fault 54 = .ok (.ireturn, 1) := by decide +kernel
theorem d_MOD_fault_55 : decode b_MOD_fault 55 = .ok (.iload_n 3, 1) := by decide +kernel
theorem d_MOD_fault_56 : decode b_MOD_fault 56 = .ok (.aload_n 0, 1) := by decide +kernel
theorem d_MOD_fault_57 : decode b_MOD_fault 57 = .ok (.getfield 84, 3) := by decide +kernel
theorem d_MOD_fault_60 : decode b_MOD_fault 60 = .ok (.if_icmp .ne 20, 3) := by decide +kernel
theorem d_MOD_fault_63 : decode b_MOD_fault 63 = .ok (.aload_n 0, 1) := by decide +kernel
theorem d_MOD_fault_64 : decode b_MOD_fault 64 = .ok (.getfield 29, 3) := by decide +kernel
theorem d_MOD_fault_67 : decode b_MOD_fault 67 = .ok (.iload_n 3, 1) := by decide +kernel
theorem d_MOD_fault_68 : decode b_MOD_fault 68 = .ok (.iload_n 1, 1) := by decide +kernel
theorem d_MOD_fault_69 : decode b_MOD_fault 69 = .ok (.iastore, 1) := by decide +kernel
theorem d_MOD_fault_70 : decode b_MOD_fault 70 = .ok (.aload_n 0, 1) := by decide +kernel
theorem d_MOD_fault_71 : decode b_MOD_fault 71 = .ok (.dup, 1) := by decide +kernel
theorem d_MOD_fault_72 : decode b_MOD_fault 72 = .ok (.getfield 84, 3) := by decide +kernel
theorem d_MOD_fault_75 : decode b_MOD_fault 75 = .ok (.iconst 1, 1) := by decide +kernel
theorem d_MOD_fault_76 : decode b_MOD_fault 76 = .ok (.iadd, 1) := by decide +kernel
theorem d_MOD_fault_77 : decode b_MOD_fault 77 = .ok (.putfield 84, 3) := by decide +kernel
theorem d_MOD_fault_80 : decode b_MOD_fault 80 = .ok (.aload_n 0, 1) := by decide +kernel
theorem d_MOD_fault_81 : decode b_MOD_fault 81 = .ok (.getfield 32, 3) := by decide +kernel
theorem d_MOD_fault_84 : decode b_MOD_fault 84 = .ok (.iload_n 3, 1) := by decide +kernel
theorem d_MOD_fault_85 : decode b_MOD_fault 85 = .ok (.iload_n 2, 1) := by decide +kernel
theorem d_MOD_fault_86 : decode b_MOD_fault 86 = .ok (.bastore, 1) := by decide +kernel
theorem d_MOD_fault_87 : decode b_MOD_fault 87 = .ok (.aload_n 0, 1) := by decide +kernel
theorem d_MOD_fault_88 : decode b_MOD_fault 88 = .ok (.getfield 84, 3) := by decide +kernel
theorem d_MOD_fault_91 : decode b_MOD_fault 91 = .ok (.ireturn, 1) := by decide +kernel
abbrev b_MOD_clear : ByteArray := prog_7_method_17_code
def y_MOD_clear : MethodName := ⟨R_MOD, "clear", "()I"⟩
def w_MOD_clear : List Cond := .code y_MOD_clear b_MOD_clear 3 (some .int) :: lwG
theorem d_MOD_clear_0 : decode b_MOD_clear 0 = .ok (.aload_n 0, 1) := by decide +kernel
theorem d_MOD_clear_1 : decode b_MOD_clear 1 = .ok (.iconst 0, 1) := by decide +kernel
theorem d_MOD_clear_2 : decode b_MOD_clear 2 = .ok (.putfield 62, 3) := by decide +kernel
theorem d_MOD_clear_5 : decode b_MOD_clear 5 = .ok (.aload_n 0, 1) := by decide +kernel
theorem d_MOD_clear_6 : decode b_MOD_clear 6 = .ok (.invokevirtual 105, 3) := by decide +kernel
theorem d_MOD_clear_9 : decode b_MOD_clear 9 = .ok (.istore_n 1, 1) := by decide +kernel
theorem d_MOD_clear_10 : decode b_MOD_clear 10 = .ok (.iconst 0, 1) := by decide +kernel
theorem d_MOD_clear_11 : decode b_MOD_clear 11 = .ok (.istore_n 2, 1) := by decide +kernel
theorem d_MOD_clear_12 : decode b_MOD_clear 12 = .ok (.iload_n 2, 1) := by decide +kernel
theorem d_MOD_clear_13 : decode b_MOD_clear 13 = .ok (.aload_n 0, 1) := by decide +kernel
theorem d_MOD_clear_14 : decode b_MOD_clear 14 = .ok (.getfield 84, 3) := by decide +kernel
theorem d_MOD_clear_17 : decode b_MOD_clear 17 = .ok (.if_icmp .ge 37, 3) := by decide +kernel
theorem d_MOD_clear_20 : decode b_MOD_clear 20 = .ok (.aload_n 0, 1) := by decide +kernel
theorem d_MOD_clear_21 : decode b_MOD_clear 21 = .ok (.getfield 35, 3) := by decide +kernel
theorem d_MOD_clear_24 : decode b_MOD_clear 24 = .ok (.iload_n 2, 1) := by decide +kernel
theorem d_MOD_clear_25 : decode b_MOD_clear 25 = .ok (.iconst 0, 1) := by decide +kernel
theorem d_MOD_clear_26 : decode b_MOD_clear 26 = .ok (.bastore, 1) := by decide +kernel
theorem d_MOD_clear_27 : decode b_MOD_clear 27 = .ok (.aload_n 0, 1) := by decide +kernel
theorem d_MOD_clear_28 : decode b_MOD_clear 28 = .ok (.getfield 38, 3) := by decide +kernel
theorem d_MOD_clear_31 : decode b_MOD_clear 31 = .ok (.iload_n 2, 1) := by decide +kernel
theorem d_MOD_clear_32 : decode b_MOD_clear 32 = .ok (.iconst 0, 1) := by decide +kernel
theorem d_MOD_clear_33 : decode b_MOD_clear 33 = .ok (.bastore, 1) := by decide +kernel
theorem d_MOD_clear_34 : decode b_MOD_clear 34 = .ok (.aload_n 0, 1) := by decide +kernel
theorem d_MOD_clear_35 : decode b_MOD_clear 35 = .ok (.getfield 50, 3) := by decide +kernel
theorem d_MOD_clear_38 : decode b_MOD_clear 38 = .ok (.iload_n 2, 1) := by decide +kernel
theorem d_MOD_clear_39 : decode b_MOD_clear 39 = .ok (.iconst 0, 1) := by decide +kernel
theorem d_MOD_clear_40 : decode b_MOD_clear 40 = .ok (.bastore, 1) := by decide +kernel
theorem d_MOD_clear_41 : decode b_MOD_clear 41 = .ok (.aload_n 0, 1) := by decide +kernel
theorem d_MOD_clear_42 : decode b_MOD_clear 42 = .ok (.getfield 44, 3) := by decide +kernel
theorem d_MOD_clear_45 : decode b_MOD_clear 45 = .ok (.iload_n 2, 1) := by decide +kernel
theorem d_MOD_clear_46 : decode b_MOD_clear 46 = .ok (.iconst 0, 1) := by decide +kernel
theorem d_MOD_clear_47 : decode b_MOD_clear 47 = .ok (.iastore, 1) := by decide +kernel
theorem d_MOD_clear_48 : decode b_MOD_clear 48 = .ok (.iinc 2 1, 3) := by decide +kernel
theorem d_MOD_clear_51 : decode b_MOD_clear 51 = .ok (.goto (-39), 3) := by decide +kernel
theorem d_MOD_clear_54 : decode b_MOD_clear 54 = .ok (.iconst 0, 1) := by decide +kernel
theorem d_MOD_clear_55 : decode b_MOD_clear 55 = .ok (.istore_n 2, 1) := by decide +kernel
theorem d_MOD_clear_56 : decode b_MOD_clear 56 = .ok (.iload_n 2, 1) := by decide +kernel
theorem d_MOD_clear_57 : decode b_MOD_clear 57 = .ok (.aload_n 0, 1) := by decide +kernel
theorem d_MOD_clear_58 : decode b_MOD_clear 58 = .ok (.getfield 74, 3) := by decide +kernel
theorem d_MOD_clear_61 : decode b_MOD_clear 61 = .ok (.if_icmp .ge 16, 3) := by decide +kernel
theorem d_MOD_clear_64 : decode b_MOD_clear 64 = .ok (.aload_n 0, 1) := by decide +kernel
theorem d_MOD_clear_65 : decode b_MOD_clear 65 = .ok (.getfield 25, 3) := by decide +kernel
theorem d_MOD_clear_68 : decode b_MOD_clear 68 = .ok (.iload_n 2, 1) := by decide +kernel
theorem d_MOD_clear_69 : decode b_MOD_clear 69 = .ok (.iconst 0, 1) := by decide +kernel
theorem d_MOD_clear_70 : decode b_MOD_clear 70 = .ok (.bastore, 1) := by decide +kernel
theorem d_MOD_clear_71 : decode b_MOD_clear 71 = .ok (.iinc 2 1, 3) := by decide +kernel
theorem d_MOD_clear_74 : decode b_MOD_clear 74 = .ok (.goto (-18), 3) := by decide +kernel
theorem d_MOD_clear_77 : decode b_MOD_clear 77 = .ok (.aload_n 0, 1) := by decide +kernel
theorem d_MOD_clear_78 : decode b_MOD_clear 78 = .ok (.iconst 0, 1) := by decide +kernel
theorem d_MOD_clear_79 : decode b_MOD_clear 79 = .ok (.putfield 109, 3) := by decide +kernel
theorem d_MOD_clear_82 : decode b_MOD_clear 82 = .ok (.aload_n 0, 1) := by decide +kernel
theorem d_MOD_clear_83 : decode b_MOD_clear 83 = .ok (.lconst 0, 1) := by decide +kernel
theorem d_MOD_clear_84 : decode b_MOD_clear 84 = .ok (.putfield 113, 3) := by decide +kernel
theorem d_MOD_clear_87 : decode b_MOD_clear 87 = .ok (.aload_n 0, 1) := by decide +kernel
theorem d_MOD_clear_88 : decode b_MOD_clear 88 = .ok (.lconst 0, 1) := by decide +kernel
theorem d_MOD_clear_89 : decode b_MOD_clear 89 = .ok (.putfield 117, 3) := by decide +kernel
theorem d_MOD_clear_92 : decode b_MOD_clear 92 = .ok (.iload_n 1, 1) := by decide +kernel
theorem d_MOD_clear_93 : decode b_MOD_clear 93 = .ok (.ireturn, 1) := by decide +kernel
