abbrev b_ER_tellNow : ByteArray := prog_1_method_23_code
def y_ER_tellNow : MethodName := ⟨R_ER, "tellNow", "(I)V"⟩
def w_ER_tellNow : List Cond := .code y_ER_tellNow b_ER_tellNow 2 none :: lwG
theorem d_ER_tellNow_0 : decode b_ER_tellNow 0 = .ok (.iload_n 1, 1) := by decide +kernel
theorem d_ER_tellNow_1 : decode b_ER_tellNow 1 = .ok (.iconst 1, 1) := by decide +kernel
theorem d_ER_tellNow_2 : decode b_ER_tellNow 2 = .ok (.if_icmp .ne 62, 3) := by decide +kernel
theorem d_ER_tellNow_5 : decode b_ER_tellNow 5 = .ok (.aload_n 0, 1) := by decide +kernel
theorem d_ER_tellNow_6 : decode b_ER_tellNow 6 = .ok (.getfield 29, 3) := by decide +kernel
theorem d_ER_tellNow_9 : decode b_ER_tellNow 9 = .ok (.iconst 1, 1) := by decide +kernel
theorem d_ER_tellNow_10 : decode b_ER_tellNow 10 = .ok (.invokevirtual 209, 3) := by decide +kernel
theorem d_ER_tellNow_13 : decode b_ER_tellNow 13 = .ok (.aload_n 0, 1) := by decide +kernel
theorem d_ER_tellNow_14 : decode b_ER_tellNow 14 = .ok (.getfield 29, 3) := by decide +kernel
theorem d_ER_tellNow_17 : decode b_ER_tellNow 17 = .ok (.iload_n 1, 1) := by decide +kernel
theorem d_ER_tellNow_18 : decode b_ER_tellNow 18 = .ok (.invokevirtual 212, 3) := by decide +kernel
theorem d_ER_tellNow_21 : decode b_ER_tellNow 21 = .ok (.aload_n 0, 1) := by decide +kernel
theorem d_ER_tellNow_22 : decode b_ER_tellNow 22 = .ok (.getfield 29, 3) := by decide +kernel
theorem d_ER_tellNow_25 : decode b_ER_tellNow 25 = .ok (.aload_n 0, 1) := by decide +kernel
theorem d_ER_tellNow_26 : decode b_ER_tellNow 26 = .ok (.invokevirtual 63, 3) := by decide +kernel
theorem d_ER_tellNow_29 : decode b_ER_tellNow 29 = .ok (.aload_n 0, 1) := by decide +kernel
theorem d_ER_tellNow_30 : decode b_ER_tellNow 30 = .ok (.getfield 22, 3) := by decide +kernel
theorem d_ER_tellNow_33 : decode b_ER_tellNow 33 = .ok (.getfield 214, 3) := by decide +kernel
theorem d_ER_tellNow_36 : decode b_ER_tellNow 36 = .ok (.ifCond .eq 9, 3) := by decide +kernel
theorem d_ER_tellNow_39 : decode b_ER_tellNow 39 = .ok (.sipush 128, 3) := by decide +kernel
theorem d_ER_tellNow_42 : decode b_ER_tellNow 42 = .ok (.goto 4, 3) := by decide +kernel
theorem d_ER_tellNow_45 : decode b_ER_tellNow 45 = .ok (.iconst 0, 1) := by decide +kernel
theorem d_ER_tellNow_46 : decode b_ER_tellNow 46 = .ok (.iadd, 1) := by decide +kernel
theorem d_ER_tellNow_47 : decode b_ER_tellNow 47 = .ok (.invokevirtual 212, 3) := by decide +kernel
theorem d_ER_tellNow_50 : decode b_ER_tellNow 50 = .ok (.aload_n 0, 1) := by decide +kernel
theorem d_ER_tellNow_51 : decode b_ER_tellNow 51 = .ok (.getfield 29, 3) := by decide +kernel
theorem d_ER_tellNow_54 : decode b_ER_tellNow 54 = .ok (.aload_n 0, 1) := by decide +kernel
theorem d_ER_tellNow_55 : decode b_ER_tellNow 55 = .ok (.invokevirtual 217, 3) := by decide +kernel
theorem d_ER_tellNow_58 : decode b_ER_tellNow 58 = .ok (.invokevirtual 212, 3) := by decide +kernel
theorem d_ER_tellNow_61 : decode b_ER_tellNow 61 = .ok (.goto 46, 3) := by decide +kernel
theorem d_ER_tellNow_64 : decode b_ER_tellNow 64 = .ok (.iload_n 1, 1) := by decide +kernel
theorem d_ER_tellNow_65 : decode b_ER_tellNow 65 = .ok (.bipush 33, 2) := by decide +kernel
theorem d_ER_tellNow_67 : decode b_ER_tellNow 67 = .ok (.if_icmp .ne 40, 3) := by decide +kernel
theorem d_ER_tellNow_70 : decode b_ER_tellNow 70 = .ok (.aload_n 0, 1) := by decide +kernel
theorem d_ER_tellNow_71 : decode b_ER_tellNow 71 = .ok (.getfield 29, 3) := by decide +kernel
theorem d_ER_tellNow_74 : decode b_ER_tellNow 74 = .ok (.iconst 1, 1) := by decide +kernel
theorem d_ER_tellNow_75 : decode b_ER_tellNow 75 = .ok (.invokevirtual 209, 3) := by decide +kernel
theorem d_ER_tellNow_78 : decode b_ER_tellNow 78 = .ok (.aload_n 0, 1) := by decide +kernel
theorem d_ER_tellNow_79 : decode b_ER_tellNow 79 = .ok (.getfield 29, 3) := by decide +kernel
theorem d_ER_tellNow_82 : decode b_ER_tellNow 82 = .ok (.iload_n 1, 1) := by decide +kernel
theorem d_ER_tellNow_83 : decode b_ER_tellNow 83 = .ok (.invokevirtual 212, 3) := by decide +kernel
theorem d_ER_tellNow_86 : decode b_ER_tellNow 86 = .ok (.aload_n 0, 1) := by decide +kernel
theorem d_ER_tellNow_87 : decode b_ER_tellNow 87 = .ok (.getfield 29, 3) := by decide +kernel
theorem d_ER_tellNow_90 : decode b_ER_tellNow 90 = .ok (.aload_n 0, 1) := by decide +kernel
theorem d_ER_tellNow_91 : decode b_ER_tellNow 91 = .ok (.getfield 22, 3) := by decide +kernel
theorem d_ER_tellNow_94 : decode b_ER_tellNow 94 = .ok (.getfield 220, 3) := by decide +kernel
theorem d_ER_tellNow_97 : decode b_ER_tellNow 97 = .ok (.ldc2_w 223, 3) := by decide +kernel
theorem d_ER_tellNow_100 : decode b_ER_tellNow 100 = .ok (.ldiv, 1) := by decide +kernel
theorem d_ER_tellNow_101 : decode b_ER_tellNow 101 = .ok (.invokestatic 138, 3) := by decide +kernel
theorem d_ER_tellNow_104 : decode b_ER_tellNow 104 = .ok (.invokevirtual 225, 3) := by decide +kernel
theorem d_ER_tellNow_107 : decode b_ER_tellNow 107 = .ok (.return_, 1) := by decide +kernel
abbrev b_ER_tellFrozen : ByteArray := prog_1_method_25_code
def y_ER_tellFrozen : MethodName := ⟨R_ER, "tellFrozen", "(I)V"⟩
def w_ER_tellFrozen : List Cond := .code y_ER_tellFrozen b_ER_tellFrozen 3 none :: lwG
theorem d_ER_tellFrozen_0 : decode b_ER_tellFrozen 0 = .ok (.aload_n 0, 1) := by decide +kernel
theorem d_ER_tellFrozen_1 : decode b_ER_tellFrozen 1 = .ok (.invokevirtual 142, 3) := by decide +kernel
theorem d_ER_tellFrozen_4 : decode b_ER_tellFrozen 4 = .ok (.astore_n 2, 1) := by decide +kernel
theorem d_ER_tellFrozen_5 : decode b_ER_tellFrozen 5 = .ok (.iload_n 1, 1) := by decide +kernel
theorem d_ER_tellFrozen_6 : decode b_ER_tellFrozen 6 = .ok (.ifCond .lt 13, 3) := by decide +kernel
theorem d_ER_tellFrozen_9 : decode b_ER_tellFrozen 9 = .ok (.iload_n 1, 1) := by decide +kernel
theorem d_ER_tellFrozen_10 : decode b_ER_tellFrozen 10 = .ok (.bipush 8, 2) := by decide +kernel
theorem d_ER_tellFrozen_12 : decode b_ER_tellFrozen 12 = .ok (.if_icmp .ge 7, 3) := by decide +kernel
theorem d_ER_tellFrozen_15 : decode b_ER_tellFrozen 15 = .ok (.aload_n 2, 1) := by decide +kernel
theorem d_ER_tellFrozen_16 : decode b_ER_tellFrozen 16 = .ok (.ifnonnull 4, 3) := by decide +kernel
theorem d_ER_tellFrozen_19 : decode b_ER_tellFrozen 19 = .ok (.return_, 1) := by decide +kernel
theorem d_ER_tellFrozen_20 : decode b_ER_tellFrozen 20 = .ok (.aload_n 0, 1) := by decide +kernel
theorem d_ER_tellFrozen_21 : decode b_ER_tellFrozen 21 = .ok (.getfield 29, 3) := by decide +kernel
theorem d_ER_tellFrozen_24 : decode b_ER_tellFrozen 24 = .ok (.iconst 2, 1) := by decide +kernel
theorem d_ER_tellFrozen_25 : decode b_ER_tellFrozen 25 = .ok (.invokevirtual 209, 3) := by decide +kernel
theorem d_ER_tellFrozen_28 : decode b_ER_tellFrozen 28 = .ok (.aload_n 0, 1) := by decide +kernel
theorem d_ER_tellFrozen_29 : decode b_ER_tellFrozen 29 = .ok (.getfield 29, 3) := by decide +kernel
theorem d_ER_tellFrozen_32 : decode b_ER_tellFrozen 32 = .ok (.iload_n 1, 1) := by decide +kernel
theorem d_ER_tellFrozen_33 : decode b_ER_tellFrozen 33 = .ok (.invokevirtual 212, 3) := by decide +kernel
theorem d_ER_tellFrozen_36 : decode b_ER_tellFrozen 36 = .ok (.aload_n 0, 1) := by decide +kernel
theorem d_ER_tellFrozen_37 : decode b_ER_tellFrozen 37 = .ok (.getfield 29, 3) := by decide +kernel
theorem d_ER_tellFrozen_40 : decode b_ER_tellFrozen 40 = .ok (.aload_n 2, 1) := by decide +kernel
theorem d_ER_tellFrozen_41 : decode b_ER_tellFrozen 41 = .ok (.getfield 116, 3) := by decide +kernel
theorem d_ER_tellFrozen_44 : decode b_ER_tellFrozen 44 = .ok (.invokevirtual 225, 3) := by decide +kernel
theorem d_ER_tellFrozen_47 : decode b_ER_tellFrozen 47 = .ok (.aload_n 0, 1) := by decide +kernel
theorem d_ER_tellFrozen_48 : decode b_ER_tellFrozen 48 = .ok (.getfield 29, 3) := by decide +kernel
theorem d_ER_tellFrozen_51 : decode b_ER_tellFrozen 51 = .ok (.aload_n 2, 1) := by decide +kernel
theorem d_ER_tellFrozen_52 : decode b_ER_tellFrozen 52 = .ok (.getfield 146, 3) := by decide +kernel
theorem d_ER_tellFrozen_55 : decode b_ER_tellFrozen 55 = .ok (.invokevirtual 225, 3) := by decide +kernel
theorem d_ER_tellFrozen_58 : decode b_ER_tellFrozen 58 = .ok (.aload_n 0, 1) := by decide +kernel
theorem d_ER_tellFrozen_59 : decode b_ER_tellFrozen 59 = .ok (.getfield 29, 3) := by decide +kernel
theorem d_ER_tellFrozen_62 : decode b_ER_tellFrozen 62 = .ok (.aload_n 2, 1) := by decide +kernel
theorem d_ER_tellFrozen_63 : decode b_ER_tellFrozen 63 = .ok (.getfield 149, 3) := by decide +kernel
theorem d_ER_tellFrozen_66 : decode b_ER_tellFrozen 66 = .ok (.iload_n 1, 1) := by decide +kernel
theorem d_ER_tellFrozen_67 : decode b_ER_tellFrozen 67 = .ok (.invokestatic 185, 3) := by decide +kernel
theorem d_ER_tellFrozen_70 : decode b_ER_tellFrozen 70 = .ok (.ifCond .eq 7, 3) := by decide +kernel
theorem d_ER_tellFrozen_73 : decode b_ER_tellFrozen 73 = .ok (.iconst 1, 1) := by decide +kernel
theorem d_ER_tellFrozen_74 : decode b_ER_tellFrozen 74 = .ok (.goto 4, 3) := by decide +kernel
theorem d_ER_tellFrozen_77 : decode b_ER_tellFrozen 77 = .ok (.iconst 0, 1) := by decide +kernel
theorem d_ER_tellFrozen_78 : decode b_ER_tellFrozen 78 = .ok (.invokevirtual 212, 3) := by decide +kernel
theorem d_ER_tellFrozen_81 : decode b_ER_tellFrozen 81 = .ok (.return_, 1) := by decide +kernel
abbrev b_ER_tellCounts : ByteArray := prog_1_method_26_code
def y_ER_tellCounts : MethodName := ⟨R_ER, "tellCounts", "(I)V"⟩
def w_ER_tellCounts : List Cond := .code y_ER_tellCounts b_ER_tellCounts 4 none :: lwG
theorem d_ER_tellCounts_0 : decode b_ER_tellCounts 0 = .ok (.iload_n 1, 1) := by decide +kernel
theorem d_ER_tellCounts_1 : decode b_ER_tellCounts 1 = .ok (.bipush 8, 2) := by decide +kernel
theorem d_ER_tellCounts_3 : decode b_ER_tellCounts 3 = .ok (.if_icmp .eq 4, 3) := by decide +kernel
theorem d_ER_tellCounts_6 : decode b_ER_tellCounts 6 = .ok (.return_, 1) := by decide +kernel
theorem d_ER_tellCounts_7 : decode b_ER_tellCounts 7 = .ok (.aload_n 0, 1) := by decide +kernel
theorem d_ER_tellCounts_8 : decode b_ER_tellCounts 8 = .ok (.getfield 29, 3) := by decide +kernel
theorem d_ER_tellCounts_11 : decode b_ER_tellCounts 11 = .ok (.bipush 9, 2) := by decide +kernel
theorem d_ER_tellCounts_13 : decode b_ER_tellCounts 13 = .ok (.invokevirtual 209, 3) := by decide +kernel
theorem d_ER_tellCounts_16 : decode b_ER_tellCounts 16 = .ok (.aload_n 0, 1) := by decide +kernel
theorem d_ER_tellCounts_17 : decode b_ER_tellCounts 17 = .ok (.getfield 29, 3) := by decide +kernel
theorem d_ER_tellCounts_20 : decode b_ER_tellCounts 20 = .ok (.iload_n 1, 1) := by decide +kernel
theorem d_ER_tellCounts_21 : decode b_ER_tellCounts 21 = .ok (.invokevirtual 212, 3) := by decide +kernel
theorem d_ER_tellCounts_24 : decode b_ER_tellCounts 24 = .ok (.iconst 0, 1) := by decide +kernel
theorem d_ER_tellCounts_25 : decode b_ER_tellCounts 25 = .ok (.istore_n 2, 1) := by decide +kernel
theorem d_ER_tellCounts_26 : decode b_ER_tellCounts 26 = .ok (.iload_n 2, 1) := by decide +kernel
theorem d_ER_tellCounts_27 : decode b_ER_tellCounts 27 = .ok (.aload_n 0, 1) := by decide +kernel
theorem d_ER_tellCounts_28 : decode b_ER_tellCounts 28 = .ok (.getfield 10, 3) := by decide +kernel
theorem d_ER_tellCounts_31 : decode b_ER_tellCounts 31 = .ok (.invokevirtual 41, 3) := by decide +kernel
theorem d_ER_tellCounts_34 : decode b_ER_tellCounts 34 = .ok (.if_icmp .ge 43, 3) := by decide +kernel
theorem d_ER_tellCounts_37 : decode b_ER_tellCounts 37 = .ok (.aload_n 0, 1) := by decide +kernel
theorem d_ER_tellCounts_38 : decode b_ER_tellCounts 38 = .ok (.getfield 10, 3) := by decide +kernel
theorem d_ER_tellCounts_41 : decode b_ER_tellCounts 41 = .ok (.iload_n 2, 1) := by decide +kernel
theorem d_ER_tellCounts_42 : decode b_ER_tellCounts 42 = .ok (.invokevirtual 73, 3) := by decide +kernel
theorem d_ER_tellCounts_45 : decode b_ER_tellCounts 45 = .ok (.checkcast 45, 3) := by decide +kernel
theorem d_ER_tellCounts_48 : decode b_ER_tellCounts 48 = .ok (.astore_n 3, 1) := by decide +kernel
theorem d_ER_tellCounts_49 : decode b_ER_tellCounts 49 = .ok (.aload_n 0, 1) := by decide +kernel
theorem d_ER_tellCounts_50 : decode b_ER_tellCounts 50 = .ok (.getfield 29, 3) := by decide +kernel
theorem d_ER_tellCounts_53 : decode b_ER_tellCounts 53 = .ok (.aload_n 3, 1) := by decide +kernel
theorem d_ER_tellCounts_54 : decode b_ER_tellCounts 54 = .ok (.getfield 77, 3) := by decide +kernel
theorem d_ER_tellCounts_57 : decode b_ER_tellCounts 57 = .ok (.invokevirtual 212, 3) := by decide +kernel
theorem d_ER_tellCounts_60 : decode b_ER_tellCounts 60 = .ok (.aload_n 0, 1) := by decide +kernel
theorem d_ER_tellCounts_61 : decode b_ER_tellCounts 61 = .ok (.getfield 29, 3) := by decide +kernel
theorem d_ER_tellCounts_64 : decode b_ER_tellCounts 64 = .ok (.aload_n 3, 1) := by decide +kernel
theorem d_ER_tellCounts_65 : decode b_ER_tellCounts 65 = .ok (.getfield 80, 3) := by decide +kernel
theorem d_ER_tellCounts_68 : decode b_ER_tellCounts 68 = .ok (.invokevirtual 212, 3) := by decide +kernel
theorem d_ER_tellCounts_71 : decode b_ER_tellCounts 71 = .ok (.iinc 2 1, 3) := by decide +kernel
theorem d_ER_tellCounts_74 : decode b_ER_tellCounts 74 = .ok (.goto (-48), 3) := by decide +kernel
theorem d_ER_tellCounts_77 : decode b_ER_tellCounts 77 = .ok (.return_, 1) := by decide +kernel
abbrev b_ER_tellCodes : ByteArray := prog_1_method_27_code
def y_ER_tellCodes : MethodName := ⟨R_ER, "tellCodes", "(I)V"⟩
def w_ER_tellCodes : List Cond := .code y_ER_tellCodes b_ER_tellCodes 4 none :: lwG
theorem d_ER_tellCodes_0 : decode b_ER_tellCodes 0 = .ok (.aload_n 0, 1) := by decide +kernel
theorem d_ER_tellCodes_1 : decode b_ER_tellCodes 1 = .ok (.getfield 29, 3) := by decide +kernel
theorem d_ER_tellCodes_4 : decode b_ER_tellCodes 4 = .ok (.iload_n 1, 1) := by decide +kernel
theorem d_ER_tellCodes_5 : decode b_ER_tellCodes 5 = .ok (.invokevirtual 209, 3) := by decide +kernel
theorem d_ER_tellCodes_8 : decode b_ER_tellCodes 8 = .ok (.iconst 0, 1) := by decide +kernel
theorem d_ER_tellCodes_9 : decode b_ER_tellCodes 9 = .ok (.istore_n 2, 1) := by decide +kernel
theorem d_ER_tellCodes_10 : decode b_ER_tellCodes 10 = .ok (.iload_n 2, 1) := by decide +kernel
theorem d_ER_tellCodes_11 : decode b_ER_tellCodes 11 = .ok (.aload_n 0, 1) := by decide +kernel
theorem d_ER_tellCodes_12 : decode b_ER_tellCodes 12 = .ok (.getfield 16, 3) := by decide +kernel
theorem d_ER_tellCodes_15 : decode b_ER_tellCodes 15 = .ok (.invokevirtual 41, 3) := by decide +kernel
theorem d_ER_tellCodes_18 : decode b_ER_tellCodes 18 = .ok (.if_icmp .ge 40, 3) := by decide +kernel
theorem d_ER_tellCodes_21 : decode b_ER_tellCodes 21 = .ok (.aload_n 0, 1) := by decide +kernel
theorem d_ER_tellCodes_22 : decode b_ER_tellCodes 22 = .ok (.getfield 16, 3) := by decide +kernel
theorem d_ER_tellCodes_25 : decode b_ER_tellCodes 25 = .ok (.iload_n 2, 1) := by decide +kernel
theorem d_ER_tellCodes_26 : decode b_ER_tellCodes 26 = .ok (.invokevirtual 73, 3) := by decide +kernel
theorem d_ER_tellCodes_29 : decode b_ER_tellCodes 29 = .ok (.checkcast 105, 3) := by decide +kernel
theorem d_ER_tellCodes_32 : decode b_ER_tellCodes 32 = .ok (.astore_n 3, 1) := by decide +kernel
theorem d_ER_tellCodes_33 : decode b_ER_tellCodes 33 = .ok (.aload_n 3, 1) := by decide +kernel
theorem d_ER_tellCodes_34 : decode b_ER_tellCodes 34 = .ok (.iload_n 1, 1) := by decide +kernel
theorem d_ER_tellCodes_35 : decode b_ER_tellCodes 35 = .ok (.invokevirtual 228, 3) := by decide +kernel
theorem d_ER_tellCodes_38 : decode b_ER_tellCodes 38 = .ok (.ifCond .eq 14, 3) := by decide +kernel
theorem d_ER_tellCodes_41 : decode b_ER_tellCodes 41 = .ok (.aload_n 0, 1) := by decide +kernel
theorem d_ER_tellCodes_42 : decode b_ER_tellCodes 42 = .ok (.getfield 29, 3) := by decide +kernel
theorem d_ER_tellCodes_45 : decode b_ER_tellCodes 45 = .ok (.aload_n 3, 1) := by decide +kernel
theorem d_ER_tellCodes_46 : decode b_ER_tellCodes 46 = .ok (.getfield 116, 3) := by decide +kernel
theorem d_ER_tellCodes_49 : decode b_ER_tellCodes 49 = .ok (.invokevirtual 225, 3) := by decide +kernel
theorem d_ER_tellCodes_52 : decode b_ER_tellCodes 52 = .ok (.iinc 2 1, 3) := by decide +kernel
theorem d_ER_tellCodes_55 : decode b_ER_tellCodes 55 = .ok (.goto (-45), 3) := by decide +kernel
theorem d_ER_tellCodes_58 : decode b_ER_tellCodes 58 = .ok (.return_, 1) := by decide +kernel
