abbrev b_MOD_tellState : ByteArray := prog_7_method_24_code
def y_MOD_tellState : MethodName := ⟨R_MOD, "tellState", "()V"⟩
def w_MOD_tellState : List Cond := .code y_MOD_tellState b_MOD_tellState 3 none :: lwG
theorem d_MOD_tellState_0 : decode b_MOD_tellState 0 = .ok (.aload_n 0, 1) := by decide +kernel
theorem d_MOD_tellState_1 : decode b_MOD_tellState 1 = .ok (.bipush 65, 2) := by decide +kernel
theorem d_MOD_tellState_3 : decode b_MOD_tellState 3 = .ok (.invokevirtual 135, 3) := by decide +kernel
theorem d_MOD_tellState_6 : decode b_MOD_tellState 6 = .ok (.aload_n 0, 1) := by decide +kernel
theorem d_MOD_tellState_7 : decode b_MOD_tellState 7 = .ok (.iconst 1, 1) := by decide +kernel
theorem d_MOD_tellState_8 : decode b_MOD_tellState 8 = .ok (.invokevirtual 135, 3) := by decide +kernel
theorem d_MOD_tellState_11 : decode b_MOD_tellState 11 = .ok (.aload_n 0, 1) := by decide +kernel
theorem d_MOD_tellState_12 : decode b_MOD_tellState 12 = .ok (.aload_n 0, 1) := by decide +kernel
theorem d_MOD_tellState_13 : decode b_MOD_tellState 13 = .ok (.invokevirtual 105, 3) := by decide +kernel
theorem d_MOD_tellState_16 : decode b_MOD_tellState 16 = .ok (.aload_n 0, 1) := by decide +kernel
theorem d_MOD_tellState_17 : decode b_MOD_tellState 17 = .ok (.getfield 109, 3) := by decide +kernel
theorem d_MOD_tellState_20 : decode b_MOD_tellState 20 = .ok (.ifCond .eq 9, 3) := by decide +kernel
theorem d_MOD_tellState_23 : decode b_MOD_tellState 23 = .ok (.sipush 128, 3) := by decide +kernel
theorem d_MOD_tellState_26 : decode b_MOD_tellState 26 = .ok (.goto 4, 3) := by decide +kernel
theorem d_MOD_tellState_29 : decode b_MOD_tellState 29 = .ok (.iconst 0, 1) := by decide +kernel
theorem d_MOD_tellState_30 : decode b_MOD_tellState 30 = .ok (.iadd, 1) := by decide +kernel
theorem d_MOD_tellState_31 : decode b_MOD_tellState 31 = .ok (.invokevirtual 135, 3) := by decide +kernel
theorem d_MOD_tellState_34 : decode b_MOD_tellState 34 = .ok (.iconst 0, 1) := by decide +kernel
theorem d_MOD_tellState_35 : decode b_MOD_tellState 35 = .ok (.istore_n 1, 1) := by decide +kernel
theorem d_MOD_tellState_36 : decode b_MOD_tellState 36 = .ok (.iconst 0, 1) := by decide +kernel
theorem d_MOD_tellState_37 : decode b_MOD_tellState 37 = .ok (.istore_n 2, 1) := by decide +kernel
theorem d_MOD_tellState_38 : decode b_MOD_tellState 38 = .ok (.iload_n 2, 1) := by decide +kernel
theorem d_MOD_tellState_39 : decode b_MOD_tellState 39 = .ok (.aload_n 0, 1) := by decide +kernel
theorem d_MOD_tellState_40 : decode b_MOD_tellState 40 = .ok (.getfield 74, 3) := by decide +kernel
theorem d_MOD_tellState_43 : decode b_MOD_tellState 43 = .ok (.if_icmp .ge 33, 3) := by decide +kernel
theorem d_MOD_tellState_46 : decode b_MOD_tellState 46 = .ok (.iload_n 1, 1) := by decide +kernel
theorem d_MOD_tellState_47 : decode b_MOD_tellState 47 = .ok (.aload_n 0, 1) := by decide +kernel
theorem d_MOD_tellState_48 : decode b_MOD_tellState 48 = .ok (.getfield 25, 3) := by decide +kernel
theorem d_MOD_tellState_51 : decode b_MOD_tellState 51 = .ok (.iload_n 2, 1) := by decide +kernel
theorem d_MOD_tellState_52 : decode b_MOD_tellState 52 = .ok (.baload, 1) := by decide +kernel
theorem d_MOD_tellState_53 : decode b_MOD_tellState 53 = .ok (.ifCond .eq 7, 3) := by decide +kernel
theorem d_MOD_tellState_56 : decode b_MOD_tellState 56 = .ok (.iconst 0, 1) := by decide +kernel
theorem d_MOD_tellState_57 : decode b_MOD_tellState 57 = .ok (.goto 11, 3) := by decide +kernel
theorem d_MOD_tellState_60 : decode b_MOD_tellState 60 = .ok (.iconst 1, 1) := by decide +kernel
theorem d_MOD_tellState_61 : decode b_MOD_tellState 61 = .ok (.aload_n 0, 1) := by decide +kernel
theorem d_MOD_tellState_62 : decode b_MOD_tellState 62 = .ok (.getfield 7, 3) := by decide +kernel
theorem d_MOD_tellState_65 : decode b_MOD_tellState 65 = .ok (.iload_n 2, 1) := by decide +kernel
theorem d_MOD_tellState_66 : decode b_MOD_tellState 66 = .ok (.iaload, 1) := by decide +kernel
theorem d_MOD_tellState_67 : decode b_MOD_tellState 67 = .ok (.ishl, 1) := by decide +kernel
theorem d_MOD_tellState_68 : decode b_MOD_tellState 68 = .ok (.ior, 1) := by decide +kernel
theorem d_MOD_tellState_69 : decode b_MOD_tellState 69 = .ok (.istore_n 1, 1) := by decide +kernel
theorem d_MOD_tellState_70 : decode b_MOD_tellState 70 = .ok (.iinc 2 1, 3) := by decide +kernel
theorem d_MOD_tellState_73 : decode b_MOD_tellState 73 = .ok (.goto (-35), 3) := by decide +kernel
theorem d_MOD_tellState_76 : decode b_MOD_tellState 76 = .ok (.aload_n 0, 1) := by decide +kernel
theorem d_MOD_tellState_77 : decode b_MOD_tellState 77 = .ok (.iload_n 1, 1) := by decide +kernel
theorem d_MOD_tellState_78 : decode b_MOD_tellState 78 = .ok (.invokevirtual 135, 3) := by decide +kernel
theorem d_MOD_tellState_81 : decode b_MOD_tellState 81 = .ok (.return_, 1) := by decide +kernel
abbrev b_MOD_tellFrozen : ByteArray := prog_7_method_25_code
def y_MOD_tellFrozen : MethodName := ⟨R_MOD, "tellFrozen", "(I)V"⟩
def w_MOD_tellFrozen : List Cond := .code y_MOD_tellFrozen b_MOD_tellFrozen 3 none :: lwG
theorem d_MOD_tellFrozen_0 : decode b_MOD_tellFrozen 0 = .ok (.aload_n 0, 1) := by decide +kernel
theorem d_MOD_tellFrozen_1 : decode b_MOD_tellFrozen 1 = .ok (.invokevirtual 129, 3) := by decide +kernel
theorem d_MOD_tellFrozen_4 : decode b_MOD_tellFrozen 4 = .ok (.istore_n 2, 1) := by decide +kernel
theorem d_MOD_tellFrozen_5 : decode b_MOD_tellFrozen 5 = .ok (.iload_n 2, 1) := by decide +kernel
theorem d_MOD_tellFrozen_6 : decode b_MOD_tellFrozen 6 = .ok (.aload_n 0, 1) := by decide +kernel
theorem d_MOD_tellFrozen_7 : decode b_MOD_tellFrozen 7 = .ok (.getfield 84, 3) := by decide +kernel
theorem d_MOD_tellFrozen_10 : decode b_MOD_tellFrozen 10 = .ok (.if_icmp .ge 56, 3) := by decide +kernel
theorem d_MOD_tellFrozen_13 : decode b_MOD_tellFrozen 13 = .ok (.aload_n 0, 1) := by decide +kernel
theorem d_MOD_tellFrozen_14 : decode b_MOD_tellFrozen 14 = .ok (.bipush 66, 2) := by decide +kernel
theorem d_MOD_tellFrozen_16 : decode b_MOD_tellFrozen 16 = .ok (.invokevirtual 135, 3) := by decide +kernel
theorem d_MOD_tellFrozen_19 : decode b_MOD_tellFrozen 19 = .ok (.aload_n 0, 1) := by decide +kernel
theorem d_MOD_tellFrozen_20 : decode b_MOD_tellFrozen 20 = .ok (.iload_n 1, 1) := by decide +kernel
theorem d_MOD_tellFrozen_21 : decode b_MOD_tellFrozen 21 = .ok (.invokevirtual 135, 3) := by decide +kernel
theorem d_MOD_tellFrozen_24 : decode b_MOD_tellFrozen 24 = .ok (.aload_n 0, 1) := by decide +kernel
theorem d_MOD_tellFrozen_25 : decode b_MOD_tellFrozen 25 = .ok (.aload_n 0, 1) := by decide +kernel
theorem d_MOD_tellFrozen_26 : decode b_MOD_tellFrozen 26 = .ok (.getfield 29, 3) := by decide +kernel
theorem d_MOD_tellFrozen_29 : decode b_MOD_tellFrozen 29 = .ok (.iload_n 2, 1) := by decide +kernel
theorem d_MOD_tellFrozen_30 : decode b_MOD_tellFrozen 30 = .ok (.iaload, 1) := by decide +kernel
theorem d_MOD_tellFrozen_31 : decode b_MOD_tellFrozen 31 = .ok (.invokevirtual 139, 3) := by decide +kernel
theorem d_MOD_tellFrozen_34 : decode b_MOD_tellFrozen 34 = .ok (.aload_n 0, 1) := by decide +kernel
theorem d_MOD_tellFrozen_35 : decode b_MOD_tellFrozen 35 = .ok (.aload_n 0, 1) := by decide +kernel
theorem d_MOD_tellFrozen_36 : decode b_MOD_tellFrozen 36 = .ok (.getfield 53, 3) := by decide +kernel
theorem d_MOD_tellFrozen_39 : decode b_MOD_tellFrozen 39 = .ok (.iload_n 2, 1) := by decide +kernel
theorem d_MOD_tellFrozen_40 : decode b_MOD_tellFrozen 40 = .ok (.iaload, 1) := by decide +kernel
theorem d_MOD_tellFrozen_41 : decode b_MOD_tellFrozen 41 = .ok (.invokevirtual 139, 3) := by decide +kernel
theorem d_MOD_tellFrozen_44 : decode b_MOD_tellFrozen 44 = .ok (.aload_n 0, 1) := by decide +kernel
theorem d_MOD_tellFrozen_45 : decode b_MOD_tellFrozen 45 = .ok (.aload_n 0, 1) := by decide +kernel
theorem d_MOD_tellFrozen_46 : decode b_MOD_tellFrozen 46 = .ok (.getfield 56, 3) := by decide +kernel
theorem d_MOD_tellFrozen_49 : decode b_MOD_tellFrozen 49 = .ok (.iload_n 2, 1) := by decide +kernel
theorem d_MOD_tellFrozen_50 : decode b_MOD_tellFrozen 50 = .ok (.iaload, 1) := by decide +kernel
theorem d_MOD_tellFrozen_51 : decode b_MOD_tellFrozen 51 = .ok (.iload_n 1, 1) := by decide +kernel
theorem d_MOD_tellFrozen_52 : decode b_MOD_tellFrozen 52 = .ok (.invokestatic 77, 3) := by decide +kernel
theorem d_MOD_tellFrozen_55 : decode b_MOD_tellFrozen 55 = .ok (.ifCond .eq 7, 3) := by decide +kernel
theorem d_MOD_tellFrozen_58 : decode b_MOD_tellFrozen 58 = .ok (.iconst 1, 1) := by decide +kernel
theorem d_MOD_tellFrozen_59 : decode b_MOD_tellFrozen 59 = .ok (.goto 4, 3) := by decide +kernel
theorem d_MOD_tellFrozen_62 : decode b_MOD_tellFrozen 62 = .ok (.iconst 0, 1) := by decide +kernel
theorem d_MOD_tellFrozen_63 : decode b_MOD_tellFrozen 63 = .ok (.invokevirtual 135, 3) := by decide +kernel
theorem d_MOD_tellFrozen_66 : decode b_MOD_tellFrozen 66 = .ok (.return_, 1) := by decide +kernel
abbrev b_MOD_tellCodes : ByteArray := prog_7_method_26_code
def y_MOD_tellCodes : MethodName := ⟨R_MOD, "tellCodes", "(I)V"⟩
def w_MOD_tellCodes : List Cond := .code y_MOD_tellCodes b_MOD_tellCodes 3 none :: lwG
theorem d_MOD_tellCodes_0 : decode b_MOD_tellCodes 0 = .ok (.aload_n 0, 1) := by decide +kernel
theorem d_MOD_tellCodes_1 : decode b_MOD_tellCodes 1 = .ok (.bipush 64, 2) := by decide +kernel
theorem d_MOD_tellCodes_3 : decode b_MOD_tellCodes 3 = .ok (.iload_n 1, 1) := by decide +kernel
theorem d_MOD_tellCodes_4 : decode b_MOD_tellCodes 4 = .ok (.iadd, 1) := by decide +kernel
theorem d_MOD_tellCodes_5 : decode b_MOD_tellCodes 5 = .ok (.invokevirtual 135, 3) := by decide +kernel
theorem d_MOD_tellCodes_8 : decode b_MOD_tellCodes 8 = .ok (.iconst 0, 1) := by decide +kernel
theorem d_MOD_tellCodes_9 : decode b_MOD_tellCodes 9 = .ok (.istore_n 2, 1) := by decide +kernel
theorem d_MOD_tellCodes_10 : decode b_MOD_tellCodes 10 = .ok (.iload_n 2, 1) := by decide +kernel
theorem d_MOD_tellCodes_11 : decode b_MOD_tellCodes 11 = .ok (.aload_n 0, 1) := by decide +kernel
theorem d_MOD_tellCodes_12 : decode b_MOD_tellCodes 12 = .ok (.getfield 84, 3) := by decide +kernel
theorem d_MOD_tellCodes_15 : decode b_MOD_tellCodes 15 = .ok (.if_icmp .ge 63, 3) := by decide +kernel
theorem d_MOD_tellCodes_18 : decode b_MOD_tellCodes 18 = .ok (.iload_n 1, 1) := by decide +kernel
theorem d_MOD_tellCodes_19 : decode b_MOD_tellCodes 19 = .ok (.iconst 3, 1) := by decide +kernel
theorem d_MOD_tellCodes_20 : decode b_MOD_tellCodes 20 = .ok (.if_icmp .ne 12, 3) := by decide +kernel
theorem d_MOD_tellCodes_23 : decode b_MOD_tellCodes 23 = .ok (.aload_n 0, 1) := by decide +kernel
theorem d_MOD_tellCodes_24 : decode b_MOD_tellCodes 24 = .ok (.getfield 38, 3) := by decide +kernel
theorem d_MOD_tellCodes_27 : decode b_MOD_tellCodes 27 = .ok (.iload_n 2, 1) := by decide +kernel
theorem d_MOD_tellCodes_28 : decode b_MOD_tellCodes 28 = .ok (.baload, 1) := by decide +kernel
theorem d_MOD_tellCodes_29 : decode b_MOD_tellCodes 29 = .ok (.ifCond .ne 33, 3) := by decide +kernel
theorem d_MOD_tellCodes_32 : decode b_MOD_tellCodes 32 = .ok (.iload_n 1, 1) := by decide +kernel
theorem d_MOD_tellCodes_33 : decode b_MOD_tellCodes 33 = .ok (.bipush 7, 2) := by decide +kernel
theorem d_MOD_tellCodes_35 : decode b_MOD_tellCodes 35 = .ok (.if_icmp .ne 12, 3) := by decide +kernel
theorem d_MOD_tellCodes_38 : decode b_MOD_tellCodes 38 = .ok (.aload_n 0, 1) := by decide +kernel
theorem d_MOD_tellCodes_39 : decode b_MOD_tellCodes 39 = .ok (.getfield 35, 3) := by decide +kernel
theorem d_MOD_tellCodes_42 : decode b_MOD_tellCodes 42 = .ok (.iload_n 2, 1) := by decide +kernel
theorem d_MOD_tellCodes_43 : decode b_MOD_tellCodes 43 = .ok (.baload, 1) := by decide +kernel
theorem d_MOD_tellCodes_44 : decode b_MOD_tellCodes 44 = .ok (.ifCond .ne 18, 3) := by decide +kernel
theorem d_MOD_tellCodes_47 : decode b_MOD_tellCodes 47 = .ok (.iload_n 1, 1) := by decide +kernel
theorem d_MOD_tellCodes_48 : decode b_MOD_tellCodes 48 = .ok (.bipush 10, 2) := by decide +kernel
theorem d_MOD_tellCodes_50 : decode b_MOD_tellCodes 50 = .ok (.if_icmp .ne 22, 3) := by decide +kernel
theorem d_MOD_tellCodes_53 : decode b_MOD_tellCodes 53 = .ok (.aload_n 0, 1) := by decide +kernel
theorem d_MOD_tellCodes_54 : decode b_MOD_tellCodes 54 = .ok (.getfield 41, 3) := by decide +kernel
theorem d_MOD_tellCodes_57 : decode b_MOD_tellCodes 57 = .ok (.iload_n 2, 1) := by decide +kernel
theorem d_MOD_tellCodes_58 : decode b_MOD_tellCodes 58 = .ok (.baload, 1) := by decide +kernel
theorem d_MOD_tellCodes_59 : decode b_MOD_tellCodes 59 = .ok (.ifCond .eq 13, 3) := by decide +kernel
theorem d_MOD_tellCodes_62 : decode b_MOD_tellCodes 62 = .ok (.aload_n 0, 1) := by decide +kernel
theorem d_MOD_tellCodes_63 : decode b_MOD_tellCodes 63 = .ok (.aload_n 0, 1) := by decide +kernel
theorem d_MOD_tellCodes_64 : decode b_MOD_tellCodes 64 = .ok (.getfield 29, 3) := by decide +kernel
theorem d_MOD_tellCodes_67 : decode b_MOD_tellCodes 67 = .ok (.iload_n 2, 1) := by decide +kernel
theorem d_MOD_tellCodes_68 : decode b_MOD_tellCodes 68 = .ok (.iaload, 1) := by decide +kernel
theorem d_MOD_tellCodes_69 : decode b_MOD_tellCodes 69 = .ok (.invokevirtual 139, 3) := by decide +kernel
theorem d_MOD_tellCodes_72 : decode b_MOD_tellCodes 72 = .ok (.iinc 2 1, 3) := by decide +kernel
theorem d_MOD_tellCodes_75 : decode b_MOD_tellCodes 75 = .ok (.goto (-65), 3) := by decide +kernel
theorem d_MOD_tellCodes_78 : decode b_MOD_tellCodes 78 = .ok (.return_, 1) := by decide +kernel
