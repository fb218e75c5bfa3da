abbrev b_ER_monitor : ByteArray := prog_1_method_2_code
def y_ER_monitor : MethodName := ⟨R_ER, "monitor", "(II)I"⟩
def w_ER_monitor : List Cond := .code y_ER_monitor b_ER_monitor 3 (some .int) :: lwG
theorem d_ER_monitor_0 : decode b_ER_monitor 0 = .ok (.iload_n 1, 1) := by decide +kernel
theorem d_ER_monitor_1 : decode b_ER_monitor 1 = .ok (.invokestatic 37, 3) := by decide +kernel
theorem d_ER_monitor_4 : decode b_ER_monitor 4 = .ok (.ifCond .eq 13, 3) := by decide +kernel
theorem d_ER_monitor_7 : decode b_ER_monitor 7 = .ok (.iload_n 2, 1) := by decide +kernel
theorem d_ER_monitor_8 : decode b_ER_monitor 8 = .ok (.ifCond .lt 9, 3) := by decide +kernel
theorem d_ER_monitor_11 : decode b_ER_monitor 11 = .ok (.iload_n 2, 1) := by decide +kernel
theorem d_ER_monitor_12 : decode b_ER_monitor 12 = .ok (.bipush 8, 2) := by decide +kernel
theorem d_ER_monitor_14 : decode b_ER_monitor 14 = .ok (.if_icmp .lt 6, 3) := by decide +kernel
theorem d_ER_monitor_17 : decode b_ER_monitor 17 = .ok (.bipush (-2), 2) := by decide +kernel
theorem d_ER_monitor_19 : decode b_ER_monitor 19 = .ok (.ireturn, 1) := by decide +kernel
theorem d_ER_monitor_20 : decode b_ER_monitor 20 = .ok (.aload_n 0, 1) := by decide +kernel
theorem d_ER_monitor_21 : decode b_ER_monitor 21 = .ok (.getfield 10, 3) := by decide +kernel
theorem d_ER_monitor_24 : decode b_ER_monitor 24 = .ok (.invokevirtual 41, 3) := by decide +kernel
theorem d_ER_monitor_27 : decode b_ER_monitor 27 = .ok (.bipush 16, 2) := by decide +kernel
theorem d_ER_monitor_29 : decode b_ER_monitor 29 = .ok (.if_icmp .lt 6, 3) := by decide +kernel
theorem d_ER_monitor_32 : decode b_ER_monitor 32 = .ok (.bipush (-4), 2) := by decide +kernel
theorem d_ER_monitor_34 : decode b_ER_monitor 34 = .ok (.ireturn, 1) := by decide +kernel
theorem d_ER_monitor_35 : decode b_ER_monitor 35 = .ok (.aload_n 0, 1) := by decide +kernel
theorem d_ER_monitor_36 : decode b_ER_monitor 36 = .ok (.getfield 10, 3) := by decide +kernel
theorem d_ER_monitor_39 : decode b_ER_monitor 39 = .ok (.new 45, 3) := by decide +kernel
theorem d_ER_monitor_42 : decode b_ER_monitor 42 = .ok (.dup, 1) := by decide +kernel
theorem d_ER_monitor_43 : decode b_ER_monitor 43 = .ok (.iload_n 1, 1) := by decide +kernel
theorem d_ER_monitor_44 : decode b_ER_monitor 44 = .ok (.iload_n 2, 1) := by decide +kernel
theorem d_ER_monitor_45 : decode b_ER_monitor 45 = .ok (.invokespecial 47, 3) := by decide +kernel
theorem d_ER_monitor_48 : decode b_ER_monitor 48 = .ok (.invokevirtual 50, 3) := by decide +kernel
theorem d_ER_monitor_51 : decode b_ER_monitor 51 = .ok (.pop, 1) := by decide +kernel
theorem d_ER_monitor_52 : decode b_ER_monitor 52 = .ok (.aload_n 0, 1) := by decide +kernel
theorem d_ER_monitor_53 : decode b_ER_monitor 53 = .ok (.getfield 10, 3) := by decide +kernel
theorem d_ER_monitor_56 : decode b_ER_monitor 56 = .ok (.invokevirtual 41, 3) := by decide +kernel
theorem d_ER_monitor_59 : decode b_ER_monitor 59 = .ok (.ireturn, 1) := by decide +kernel
abbrev b_ER_fault : ByteArray := prog_1_method_7_code
def y_ER_fault : MethodName := ⟨R_ER, "fault", "(IZ)I"⟩
def w_ER_fault : List Cond := .code y_ER_fault b_ER_fault 4 (some .int) :: lwG
theorem d_ER_fault_0 : decode b_ER_fault 0 = .ok (.iload_n 1, 1) := by decide +kernel
theorem d_ER_fault_1 : decode b_ER_fault 1 = .ok (.iconst 1, 1) := by decide +kernel
theorem d_ER_fault_2 : decode b_ER_fault 2 = .ok (.if_icmp .lt 9, 3) := by decide +kernel
theorem d_ER_fault_5 : decode b_ER_fault 5 = .ok (.iload_n 1, 1) := by decide +kernel
theorem d_ER_fault_6 : decode b_ER_fault 6 = .ok (.ldc 54, 2) := by decide +kernel
theorem d_ER_fault_8 : decode b_ER_fault 8 = .ok (.if_icmp .le 6, 3) := by decide +kernel
theorem d_ER_fault_11 : decode b_ER_fault 11 = .ok (.bipush (-2), 2) := by decide +kernel
theorem d_ER_fault_13 : decode b_ER_fault 13 = .ok (.ireturn, 1) := by decide +kernel
theorem d_ER_fault_14 : decode b_ER_fault 14 = .ok (.aload_n 0, 1) := by decide +kernel
theorem d_ER_fault_15 : decode b_ER_fault 15 = .ok (.iload_n 1, 1) := by decide +kernel
theorem d_ER_fault_16 : decode b_ER_fault 16 = .ok (.invokevirtual 100, 3) := by decide +kernel
theorem d_ER_fault_19 : decode b_ER_fault 19 = .ok (.astore_n 3, 1) := by decide +kernel
theorem d_ER_fault_20 : decode b_ER_fault 20 = .ok (.aload_n 3, 1) := by decide +kernel
theorem d_ER_fault_21 : decode b_ER_fault 21 = .ok (.ifnull 16, 3) := by decide +kernel
theorem d_ER_fault_24 : decode b_ER_fault 24 = .ok (.aload_n 3, 1) := by decide +kernel
theorem d_ER_fault_25 : decode b_ER_fault 25 = .ok (.iload_n 2, 1) := by decide +kernel
theorem d_ER_fault_26 : decode b_ER_fault 26 = .ok (.putfield 104, 3) := by decide +kernel
theorem d_ER_fault_29 : decode b_ER_fault 29 = .ok (.aload_n 0, 1) := by decide +kernel
theorem d_ER_fault_30 : decode b_ER_fault 30 = .ok (.getfield 16, 3) := by decide +kernel
theorem d_ER_fault_33 : decode b_ER_fault 33 = .ok (.invokevirtual 41, 3) := by decide +kernel
theorem d_ER_fault_36 : decode b_ER_fault 36 = .ok (.ireturn, 1) := by decide +kernel
theorem d_ER_fault_37 : decode b_ER_fault 37 = .ok (.aload_n 0, 1) := by decide +kernel
theorem d_ER_fault_38 : decode b_ER_fault 38 = .ok (.getfield 16, 3) := by decide +kernel
theorem d_ER_fault_41 : decode b_ER_fault 41 = .ok (.invokevirtual 41, 3) := by decide +kernel
theorem d_ER_fault_44 : decode b_ER_fault 44 = .ok (.bipush 20, 2) := by decide +kernel
theorem d_ER_fault_46 : decode b_ER_fault 46 = .ok (.if_icmp .lt 6, 3) := by decide +kernel
theorem d_ER_fault_49 : decode b_ER_fault 49 = .ok (.bipush (-4), 2) := by decide +kernel
theorem d_ER_fault_51 : decode b_ER_fault 51 = .ok (.ireturn, 1) := by decide +kernel
theorem d_ER_fault_52 : decode b_ER_fault 52 = .ok (.aload_n 0, 1) := by decide +kernel
theorem d_ER_fault_53 : decode b_ER_fault 53 = .ok (.getfield 16, 3) := by decide +kernel
theorem d_ER_fault_56 : decode b_ER_fault 56 = .ok (.new 105, 3) := by decide +kernel
theorem d_ER_fault_59 : decode b_ER_fault 59 = .ok (.dup, 1) := by decide +kernel
theorem d_ER_fault_60 : decode b_ER_fault 60 = .ok (.iload_n 1, 1) := by decide +kernel
theorem d_ER_fault_61 : decode b_ER_fault 61 = .ok (.iload_n 2, 1) := by decide +kernel
theorem d_ER_fault_62 : decode b_ER_fault 62 = .ok (.invokespecial 110, 3) := by decide +kernel
theorem d_ER_fault_65 : decode b_ER_fault 65 = .ok (.invokevirtual 50, 3) := by decide +kernel
theorem d_ER_fault_68 : decode b_ER_fault 68 = .ok (.pop, 1) := by decide +kernel
theorem d_ER_fault_69 : decode b_ER_fault 69 = .ok (.aload_n 0, 1) := by decide +kernel
theorem d_ER_fault_70 : decode b_ER_fault 70 = .ok (.getfield 16, 3) := by decide +kernel
theorem d_ER_fault_73 : decode b_ER_fault 73 = .ok (.invokevirtual 41, 3) := by decide +kernel
theorem d_ER_fault_76 : decode b_ER_fault 76 = .ok (.ireturn, 1) := by decide +kernel
