abbrev b_ER_isMonitor : ByteArray := prog_1_method_16_code
def y_ER_isMonitor : MethodName := ⟨R_ER, "isMonitor", "(I)Z"⟩
def w_ER_isMonitor : List Cond := .code y_ER_isMonitor b_ER_isMonitor 2 (some .boolean) :: lwG
theorem d_ER_isMonitor_0 : decode b_ER_isMonitor 0 = .ok (.iload_n 1, 1) := by decide +kernel
theorem d_ER_isMonitor_1 : decode b_ER_isMonitor 1 = .ok (.iconst 1, 1) := by decide +kernel
theorem d_ER_isMonitor_2 : decode b_ER_isMonitor 2 = .ok (.if_icmp .lt 18, 3) := by decide +kernel
theorem d_ER_isMonitor_5 : decode b_ER_isMonitor 5 = .ok (.iload_n 1, 1) := by decide +kernel
theorem d_ER_isMonitor_6 : decode b_ER_isMonitor 6 = .ok (.aload_n 0, 1) := by decide +kernel
theorem d_ER_isMonitor_7 : decode b_ER_isMonitor 7 = .ok (.getfield 10, 3) := by decide +kernel
theorem d_ER_isMonitor_10 : decode b_ER_isMonitor 10 = .ok (.invokevirtual 41, 3) := by decide +kernel
theorem d_ER_isMonitor_13 : decode b_ER_isMonitor 13 = .ok (.if_icmp .gt 7, 3) := by decide +kernel
theorem d_ER_isMonitor_16 : decode b_ER_isMonitor 16 = .ok (.iconst 1, 1) := by decide +kernel
theorem d_ER_isMonitor_17 : decode b_ER_isMonitor 17 = .ok (.goto 4, 3) := by decide +kernel
theorem d_ER_isMonitor_20 : decode b_ER_isMonitor 20 = .ok (.iconst 0, 1) := by decide +kernel
theorem d_ER_isMonitor_21 : decode b_ER_isMonitor 21 = .ok (.ireturn, 1) := by decide +kernel
abbrev b_ER_howManyConfirmed : ByteArray := prog_1_method_19_code
def y_ER_howManyConfirmed : MethodName := ⟨R_ER, "howManyConfirmed", "()I"⟩
def w_ER_howManyConfirmed : List Cond := .code y_ER_howManyConfirmed b_ER_howManyConfirmed 3 (some .int) :: lwG
theorem d_ER_howManyConfirmed_0 : decode b_ER_howManyConfirmed 0 = .ok (.iconst 0, 1) := by decide +kernel
theorem d_ER_howManyConfirmed_1 : decode b_ER_howManyConfirmed 1 = .ok (.istore_n 1, 1) := by decide +kernel
theorem d_ER_howManyConfirmed_2 : decode b_ER_howManyConfirmed 2 = .ok (.iconst 0, 1) := by decide +kernel
theorem d_ER_howManyConfirmed_3 : decode b_ER_howManyConfirmed 3 = .ok (.istore_n 2, 1) := by decide +kernel
theorem d_ER_howManyConfirmed_4 : decode b_ER_howManyConfirmed 4 = .ok (.iload_n 2, 1) := by decide +kernel
theorem d_ER_howManyConfirmed_5 : decode b_ER_howManyConfirmed 5 = .ok (.aload_n 0, 1) := by decide +kernel
theorem d_ER_howManyConfirmed_6 : decode b_ER_howManyConfirmed 6 = .ok (.getfield 16, 3) := by decide +kernel
theorem d_ER_howManyConfirmed_9 : decode b_ER_howManyConfirmed 9 = .ok (.invokevirtual 41, 3) := by decide +kernel
theorem d_ER_howManyConfirmed_12 : decode b_ER_howManyConfirmed 12 = .ok (.if_icmp .ge 29, 3) := by decide +kernel
theorem d_ER_howManyConfirmed_15 : decode b_ER_howManyConfirmed 15 = .ok (.aload_n 0, 1) := by decide +kernel
theorem d_ER_howManyConfirmed_16 : decode b_ER_howManyConfirmed 16 = .ok (.getfield 16, 3) := by decide +kernel
theorem d_ER_howManyConfirmed_19 : decode b_ER_howManyConfirmed 19 = .ok (.iload_n 2, 1) := by decide +kernel
theorem d_ER_howManyConfirmed_20 : decode b_ER_howManyConfirmed 20 = .ok (.invokevirtual 73, 3) := by decide +kernel
theorem d_ER_howManyConfirmed_23 : decode b_ER_howManyConfirmed 23 = .ok (.checkcast 105, 3) := by decide +kernel
theorem d_ER_howManyConfirmed_26 : decode b_ER_howManyConfirmed 26 = .ok (.getfield 199, 3) := by decide +kernel
theorem d_ER_howManyConfirmed_29 : decode b_ER_howManyConfirmed 29 = .ok (.ifCond .eq 6, 3) := by decide +kernel
theorem d_ER_howManyConfirmed_32 : decode b_ER_howManyConfirmed 32 = .ok (.iinc 1 1, 3) := by decide +kernel
theorem d_ER_howManyConfirmed_35 : decode b_ER_howManyConfirmed 35 = .ok (.iinc 2 1, 3) := by decide +kernel
theorem d_ER_howManyConfirmed_38 : decode b_ER_howManyConfirmed 38 = .ok (.goto (-34), 3) := by decide +kernel
theorem d_ER_howManyConfirmed_41 : decode b_ER_howManyConfirmed 41 = .ok (.iload_n 1, 1) := by decide +kernel
theorem d_ER_howManyConfirmed_42 : decode b_ER_howManyConfirmed 42 = .ok (.ireturn, 1) := by decide +kernel
abbrev b_ER_readinessOf : ByteArray := prog_1_method_20_code
def y_ER_readinessOf : MethodName := ⟨R_ER, "readinessOf", "(I)I"⟩
def w_ER_readinessOf : List Cond := .code y_ER_readinessOf b_ER_readinessOf 5 (some .int) :: lwG
theorem d_ER_readinessOf_0 : decode b_ER_readinessOf 0 = .ok (.iconst 2, 1) := by decide +kernel
theorem d_ER_readinessOf_1 : decode b_ER_readinessOf 1 = .ok (.istore_n 2, 1) := by decide +kernel
theorem d_ER_readinessOf_2 : decode b_ER_readinessOf 2 = .ok (.iconst 0, 1) := by decide +kernel
theorem d_ER_readinessOf_3 : decode b_ER_readinessOf 3 = .ok (.istore_n 3, 1) := by decide +kernel
theorem d_ER_readinessOf_4 : decode b_ER_readinessOf 4 = .ok (.iload_n 3, 1) := by decide +kernel
theorem d_ER_readinessOf_5 : decode b_ER_readinessOf 5 = .ok (.aload_n 0, 1) := by decide +kernel
theorem d_ER_readinessOf_6 : decode b_ER_readinessOf 6 = .ok (.getfield 10, 3) := by decide +kernel
theorem d_ER_readinessOf_9 : decode b_ER_readinessOf 9 = .ok (.invokevirtual 41, 3) := by decide +kernel
theorem d_ER_readinessOf_12 : decode b_ER_readinessOf 12 = .ok (.if_icmp .ge 43, 3) := by decide +kernel
theorem d_ER_readinessOf_15 : decode b_ER_readinessOf 15 = .ok (.aload_n 0, 1) := by decide +kernel
theorem d_ER_readinessOf_16 : decode b_ER_readinessOf 16 = .ok (.getfield 10, 3) := by decide +kernel
theorem d_ER_readinessOf_19 : decode b_ER_readinessOf 19 = .ok (.iload_n 3, 1) := by decide +kernel
theorem d_ER_readinessOf_20 : decode b_ER_readinessOf 20 = .ok (.invokevirtual 73, 3) := by decide +kernel
theorem d_ER_readinessOf_23 : decode b_ER_readinessOf 23 = .ok (.checkcast 45, 3) := by decide +kernel
theorem d_ER_readinessOf_26 : decode b_ER_readinessOf 26 = .ok (.astore 4, 2) := by decide +kernel
theorem d_ER_readinessOf_28 : decode b_ER_readinessOf 28 = .ok (.aload 4, 2) := by decide +kernel
theorem d_ER_readinessOf_30 : decode b_ER_readinessOf 30 = .ok (.getfield 202, 3) := by decide +kernel
theorem d_ER_readinessOf_33 : decode b_ER_readinessOf 33 = .ok (.iload_n 1, 1) := by decide +kernel
theorem d_ER_readinessOf_34 : decode b_ER_readinessOf 34 = .ok (.if_icmp .ne 15, 3) := by decide +kernel
theorem d_ER_readinessOf_37 : decode b_ER_readinessOf 37 = .ok (.aload 4, 2) := by decide +kernel
theorem d_ER_readinessOf_39 : decode b_ER_readinessOf 39 = .ok (.getfield 122, 3) := by decide +kernel
theorem d_ER_readinessOf_42 : decode b_ER_readinessOf 42 = .ok (.ifCond .ne 5, 3) := by decide +kernel
theorem d_ER_readinessOf_45 : decode b_ER_readinessOf 45 = .ok (.iconst 0, 1) := by decide +kernel
theorem d_ER_readinessOf_46 : decode b_ER_readinessOf 46 = .ok (.ireturn, 1) := by decide +kernel
theorem d_ER_readinessOf_47 : decode b_ER_readinessOf 47 = .ok (.iconst 1, 1) := by decide +kernel
theorem d_ER_readinessOf_48 : decode b_ER_readinessOf 48 = .ok (.istore_n 2, 1) := by decide +kernel
theorem d_ER_readinessOf_49 : decode b_ER_readinessOf 49 = .ok (.iinc 3 1, 3) := by decide +kernel
theorem d_ER_readinessOf_52 : decode b_ER_readinessOf 52 = .ok (.goto (-48), 3) := by decide +kernel
theorem d_ER_readinessOf_55 : decode b_ER_readinessOf 55 = .ok (.iload_n 2, 1) := by decide +kernel
theorem d_ER_readinessOf_56 : decode b_ER_readinessOf 56 = .ok (.ireturn, 1) := by decide +kernel
abbrev b_ER_ready : ByteArray := prog_1_method_6_code
def y_ER_ready : MethodName := ⟨R_ER, "ready", "(I)I"⟩
def w_ER_ready : List Cond := .code y_ER_ready b_ER_ready 2 (some .int) :: lwG
theorem d_ER_ready_0 : decode b_ER_ready 0 = .ok (.iload_n 1, 1) := by decide +kernel
theorem d_ER_ready_1 : decode b_ER_ready 1 = .ok (.invokestatic 37, 3) := by decide +kernel
theorem d_ER_ready_4 : decode b_ER_ready 4 = .ok (.ifCond .eq 11, 3) := by decide +kernel
theorem d_ER_ready_7 : decode b_ER_ready 7 = .ok (.aload_n 0, 1) := by decide +kernel
theorem d_ER_ready_8 : decode b_ER_ready 8 = .ok (.iload_n 1, 1) := by decide +kernel
theorem d_ER_ready_9 : decode b_ER_ready 9 = .ok (.invokevirtual 96, 3) := by decide +kernel
theorem d_ER_ready_12 : decode b_ER_ready 12 = .ok (.goto 5, 3) := by decide +kernel
theorem d_ER_ready_15 : decode b_ER_ready 15 = .ok (.bipush (-2), 2) := by decide +kernel
theorem d_ER_ready_17 : decode b_ER_ready 17 = .ok (.ireturn, 1) := by decide +kernel
abbrev b_ER_knownCode : ByteArray := prog_1_method_21_code
def y_ER_knownCode : MethodName := ⟨R_ER, "knownCode", "(I)LEmissionRows$Code;"⟩
def w_ER_knownCode : List Cond := .code y_ER_knownCode b_ER_knownCode 4 (some (.object "EmissionRows$Code")) :: lwG
theorem d_ER_knownCode_0 : decode b_ER_knownCode 0 = .ok (.iconst 0, 1) := by decide +kernel
theorem d_ER_knownCode_1 : decode b_ER_knownCode 1 = .ok (.istore_n 2, 1) := by decide +kernel
theorem d_ER_knownCode_2 : decode b_ER_knownCode 2 = .ok (.iload_n 2, 1) := by decide +kernel
theorem d_ER_knownCode_3 : decode b_ER_knownCode 3 = .ok (.aload_n 0, 1) := by decide +kernel
theorem d_ER_knownCode_4 : decode b_ER_knownCode 4 = .ok (.getfield 16, 3) := by decide +kernel
theorem d_ER_knownCode_7 : decode b_ER_knownCode 7 = .ok (.invokevirtual 41, 3) := by decide +kernel
theorem d_ER_knownCode_10 : decode b_ER_knownCode 10 = .ok (.if_icmp .ge 31, 3) := by decide +kernel
theorem d_ER_knownCode_13 : decode b_ER_knownCode 13 = .ok (.aload_n 0, 1) := by decide +kernel
theorem d_ER_knownCode_14 : decode b_ER_knownCode 14 = .ok (.getfield 16, 3) := by decide +kernel
theorem d_ER_knownCode_17 : decode b_ER_knownCode 17 = .ok (.iload_n 2, 1) := by decide +kernel
theorem d_ER_knownCode_18 : decode b_ER_knownCode 18 = .ok (.invokevirtual 73, 3) := by decide +kernel
theorem d_ER_knownCode_21 : decode b_ER_knownCode 21 = .ok (.checkcast 105, 3) := by decide +kernel
theorem d_ER_knownCode_24 : decode b_ER_knownCode 24 = .ok (.astore_n 3, 1) := by decide +kernel
theorem d_ER_knownCode_25 : decode b_ER_knownCode 25 = .ok (.aload_n 3, 1) := by decide +kernel
theorem d_ER_knownCode_26 : decode b_ER_knownCode 26 = .ok (.getfield 116, 3) := by decide +kernel
theorem d_ER_knownCode_29 : decode b_ER_knownCode 29 = .ok (.iload_n 1, 1) := by decide +kernel
theorem d_ER_knownCode_30 : decode b_ER_knownCode 30 = .ok (.if_icmp .ne 5, 3) := by decide +kernel
theorem d_ER_knownCode_33 : decode b_ER_knownCode 33 = .ok (.aload_n 3, 1) := by decide +kernel
theorem d_ER_knownCode_34 : decode b_ER_knownCode 34 = .ok (.areturn, 1) := by decide +kernel
theorem d_ER_knownCode_35 : decode b_ER_knownCode 35 = .ok (.iinc 2 1, 3) := by decide +kernel
theorem d_ER_knownCode_38 : decode b_ER_knownCode 38 = .ok (.goto (-36), 3) := by decide +kernel
theorem d_ER_knownCode_41 : decode b_ER_knownCode 41 = .ok (.aconst_null, 1) := by decide +kernel
theorem d_ER_knownCode_42 : decode b_ER_knownCode 42 = .ok (.areturn, 1) := by decide +kernel
abbrev b_ER_firstFrozen : ByteArray := prog_1_method_22_code
def y_ER_firstFrozen : MethodName := ⟨R_ER, "firstFrozen", "()LEmissionRows$Code;"⟩
def w_ER_firstFrozen : List Cond := .code y_ER_firstFrozen b_ER_firstFrozen 3 (some (.object "EmissionRows$Code")) :: lwG
theorem d_ER_firstFrozen_0 : decode b_ER_firstFrozen 0 = .ok (.iconst 0, 1) := by decide +kernel
theorem d_ER_firstFrozen_1 : decode b_ER_firstFrozen 1 = .ok (.istore_n 1, 1) := by decide +kernel
theorem d_ER_firstFrozen_2 : decode b_ER_firstFrozen 2 = .ok (.iload_n 1, 1) := by decide +kernel
theorem d_ER_firstFrozen_3 : decode b_ER_firstFrozen 3 = .ok (.aload_n 0, 1) := by decide +kernel
theorem d_ER_firstFrozen_4 : decode b_ER_firstFrozen 4 = .ok (.getfield 16, 3) := by decide +kernel
theorem d_ER_firstFrozen_7 : decode b_ER_firstFrozen 7 = .ok (.invokevirtual 41, 3) := by decide +kernel
theorem d_ER_firstFrozen_10 : decode b_ER_firstFrozen 10 = .ok (.if_icmp .ge 30, 3) := by decide +kernel
theorem d_ER_firstFrozen_13 : decode b_ER_firstFrozen 13 = .ok (.aload_n 0, 1) := by decide +kernel
theorem d_ER_firstFrozen_14 : decode b_ER_firstFrozen 14 = .ok (.getfield 16, 3) := by decide +kernel
theorem d_ER_firstFrozen_17 : decode b_ER_firstFrozen 17 = .ok (.iload_n 1, 1) := by decide +kernel
theorem d_ER_firstFrozen_18 : decode b_ER_firstFrozen 18 = .ok (.invokevirtual 73, 3) := by decide +kernel
theorem d_ER_firstFrozen_21 : decode b_ER_firstFrozen 21 = .ok (.checkcast 105, 3) := by decide +kernel
theorem d_ER_firstFrozen_24 : decode b_ER_firstFrozen 24 = .ok (.astore_n 2, 1) := by decide +kernel
theorem d_ER_firstFrozen_25 : decode b_ER_firstFrozen 25 = .ok (.aload_n 2, 1) := by decide +kernel
theorem d_ER_firstFrozen_26 : decode b_ER_firstFrozen 26 = .ok (.invokevirtual 205, 3) := by decide +kernel
theorem d_ER_firstFrozen_29 : decode b_ER_firstFrozen 29 = .ok (.ifCond .eq 5, 3) := by decide +kernel
theorem d_ER_firstFrozen_32 : decode b_ER_firstFrozen 32 = .ok (.aload_n 2, 1) := by decide +kernel
theorem d_ER_firstFrozen_33 : decode b_ER_firstFrozen 33 = .ok (.areturn, 1) := by decide +kernel
theorem d_ER_firstFrozen_34 : decode b_ER_firstFrozen 34 = .ok (.iinc 1 1, 3) := by decide +kernel
theorem d_ER_firstFrozen_37 : decode b_ER_firstFrozen 37 = .ok (.goto (-35), 3) := by decide +kernel
theorem d_ER_firstFrozen_40 : decode b_ER_firstFrozen 40 = .ok (.aconst_null, 1) := by decide +kernel
theorem d_ER_firstFrozen_41 : decode b_ER_firstFrozen 41 = .ok (.areturn, 1) := by decide +kernel
abbrev b_ER_permanent : ByteArray := prog_1_method_8_code
def y_ER_permanent : MethodName := ⟨R_ER, "permanent", "(I)I"⟩
def w_ER_permanent : List Cond := .code y_ER_permanent b_ER_permanent 5 (some .int) :: lwG
theorem d_ER_permanent_0 : decode b_ER_permanent 0 = .ok (.iconst 0, 1) := by decide +kernel
theorem d_ER_permanent_1 : decode b_ER_permanent 1 = .ok (.istore_n 2, 1) := by decide +kernel
theorem d_ER_permanent_2 : decode b_ER_permanent 2 = .ok (.iconst 0, 1) := by decide +kernel
theorem d_ER_permanent_3 : decode b_ER_permanent 3 = .ok (.istore_n 3, 1) := by decide +kernel
theorem d_ER_permanent_4 : decode b_ER_permanent 4 = .ok (.iload_n 3, 1) := by decide +kernel
theorem d_ER_permanent_5 : decode b_ER_permanent 5 = .ok (.aload_n 0, 1) := by decide +kernel
theorem d_ER_permanent_6 : decode b_ER_permanent 6 = .ok (.getfield 16, 3) := by decide +kernel
theorem d_ER_permanent_9 : decode b_ER_permanent 9 = .ok (.invokevirtual 41, 3) := by decide +kernel
theorem d_ER_permanent_12 : decode b_ER_permanent 12 = .ok (.if_icmp .ge 44, 3) := by decide +kernel
theorem d_ER_permanent_15 : decode b_ER_permanent 15 = .ok (.aload_n 0, 1) := by decide +kernel
theorem d_ER_permanent_16 : decode b_ER_permanent 16 = .ok (.getfield 16, 3) := by decide +kernel
theorem d_ER_permanent_19 : decode b_ER_permanent 19 = .ok (.iload_n 3, 1) := by decide +kernel
theorem d_ER_permanent_20 : decode b_ER_permanent 20 = .ok (.invokevirtual 73, 3) := by decide +kernel
theorem d_ER_permanent_23 : decode b_ER_permanent 23 = .ok (.checkcast 105, 3) := by decide +kernel
theorem d_ER_permanent_26 : decode b_ER_permanent 26 = .ok (.astore 4, 2) := by decide +kernel
theorem d_ER_permanent_28 : decode b_ER_permanent 28 = .ok (.aload 4, 2) := by decide +kernel
theorem d_ER_permanent_30 : decode b_ER_permanent 30 = .ok (.getfield 113, 3) := by decide +kernel
theorem d_ER_permanent_33 : decode b_ER_permanent 33 = .ok (.ifCond .eq 17, 3) := by decide +kernel
theorem d_ER_permanent_36 : decode b_ER_permanent 36 = .ok (.iload_n 2, 1) := by decide +kernel
theorem d_ER_permanent_37 : decode b_ER_permanent 37 = .ok (.iload_n 1, 1) := by decide +kernel
theorem d_ER_permanent_38 : decode b_ER_permanent 38 = .ok (.if_icmp .ne 9, 3) := by decide +kernel
theorem d_ER_permanent_41 : decode b_ER_permanent 41 = .ok (.aload 4, 2) := by decide +kernel
theorem d_ER_permanent_43 : decode b_ER_permanent 43 = .ok (.getfield 116, 3) := by decide +kernel
theorem d_ER_permanent_46 : decode b_ER_permanent 46 = .ok (.ireturn, 1) := by decide +kernel
theorem d_ER_permanent_47 : decode b_ER_permanent 47 = .ok (.iinc 2 1, 3) := by decide +kernel
theorem d_ER_permanent_50 : decode b_ER_permanent 50 = .ok (.iinc 3 1, 3) := by decide +kernel
theorem d_ER_permanent_53 : decode b_ER_permanent 53 = .ok (.goto (-49), 3) := by decide +kernel
theorem d_ER_permanent_56 : decode b_ER_permanent 56 = .ok (.iconst 0, 1) := by decide +kernel
theorem d_ER_permanent_57 : decode b_ER_permanent 57 = .ok (.ireturn, 1) := by decide +kernel
