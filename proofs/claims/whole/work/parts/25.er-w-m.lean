abbrev b_ER_lamp : ByteArray := prog_1_method_10_code
def y_ER_lamp : MethodName := ⟨R_ER, "lamp", "(JJ)I"⟩
def w_ER_lamp : List Cond := .code y_ER_lamp b_ER_lamp 5 (some .int) :: lwG
theorem d_ER_lamp_0 : decode b_ER_lamp 0 = .ok (.lload_n 1, 1) := by decide +kernel
theorem d_ER_lamp_1 : decode b_ER_lamp 1 = .ok (.lconst 0, 1) := by decide +kernel
theorem d_ER_lamp_2 : decode b_ER_lamp 2 = .ok (.lcmp, 1) := by decide +kernel
theorem d_ER_lamp_3 : decode b_ER_lamp 3 = .ok (.ifCond .lt 25, 3) := by decide +kernel
theorem d_ER_lamp_6 : decode b_ER_lamp 6 = .ok (.lload_n 1, 1) := by decide +kernel
theorem d_ER_lamp_7 : decode b_ER_lamp 7 = .ok (.ldc2_w 128, 3) := by decide +kernel
theorem d_ER_lamp_10 : decode b_ER_lamp 10 = .ok (.lcmp, 1) := by decide +kernel
theorem d_ER_lamp_11 : decode b_ER_lamp 11 = .ok (.ifCond .gt 17, 3) := by decide +kernel
theorem d_ER_lamp_14 : decode b_ER_lamp 14 = .ok (.lload_n 3, 1) := by decide +kernel
theorem d_ER_lamp_15 : decode b_ER_lamp 15 = .ok (.lconst 0, 1) := by decide +kernel
theorem d_ER_lamp_16 : decode b_ER_lamp 16 = .ok (.lcmp, 1) := by decide +kernel
theorem d_ER_lamp_17 : decode b_ER_lamp 17 = .ok (.ifCond .lt 11, 3) := by decide +kernel
theorem d_ER_lamp_20 : decode b_ER_lamp 20 = .ok (.lload_n 3, 1) := by decide +kernel
theorem d_ER_lamp_21 : decode b_ER_lamp 21 = .ok (.ldc2_w 128, 3) := by decide +kernel
theorem d_ER_lamp_24 : decode b_ER_lamp 24 = .ok (.lcmp, 1) := by decide +kernel
theorem d_ER_lamp_25 : decode b_ER_lamp 25 = .ok (.ifCond .le 6, 3) := by decide +kernel
theorem d_ER_lamp_28 : decode b_ER_lamp 28 = .ok (.bipush (-2), 2) := by decide +kernel
theorem d_ER_lamp_30 : decode b_ER_lamp 30 = .ok (.ireturn, 1) := by decide +kernel
theorem d_ER_lamp_31 : decode b_ER_lamp 31 = .ok (.aload_n 0, 1) := by decide +kernel
theorem d_ER_lamp_32 : decode b_ER_lamp 32 = .ok (.getfield 22, 3) := by decide +kernel
theorem d_ER_lamp_35 : decode b_ER_lamp 35 = .ok (.lload_n 1, 1) := by decide +kernel
theorem d_ER_lamp_36 : decode b_ER_lamp 36 = .ok (.lload_n 3, 1) := by decide +kernel
theorem d_ER_lamp_37 : decode b_ER_lamp 37 = .ok (.invokevirtual 130, 3) := by decide +kernel
theorem d_ER_lamp_40 : decode b_ER_lamp 40 = .ok (.ifCond .eq 7, 3) := by decide +kernel
theorem d_ER_lamp_43 : decode b_ER_lamp 43 = .ok (.iconst 1, 1) := by decide +kernel
theorem d_ER_lamp_44 : decode b_ER_lamp 44 = .ok (.goto 4, 3) := by decide +kernel
theorem d_ER_lamp_47 : decode b_ER_lamp 47 = .ok (.iconst 0, 1) := by decide +kernel
theorem d_ER_lamp_48 : decode b_ER_lamp 48 = .ok (.ireturn, 1) := by decide +kernel
abbrev b_ER_passMonitors : ByteArray := prog_1_method_17_code
def y_ER_passMonitors : MethodName := ⟨R_ER, "passMonitors", "(II)I"⟩
def w_ER_passMonitors : List Cond := .code y_ER_passMonitors b_ER_passMonitors 5 (some .int) :: lwG
theorem d_ER_passMonitors_0 : decode b_ER_passMonitors 0 = .ok (.iconst 0, 1) := by decide +kernel
theorem d_ER_passMonitors_1 : decode b_ER_passMonitors 1 = .ok (.istore_n 3, 1) := by decide +kernel
theorem d_ER_passMonitors_2 : decode b_ER_passMonitors 2 = .ok (.iconst 0, 1) := by decide +kernel
theorem d_ER_passMonitors_3 : decode b_ER_passMonitors 3 = .ok (.istore 4, 2) := by decide +kernel
theorem d_ER_passMonitors_5 : decode b_ER_passMonitors 5 = .ok (.iload 4, 2) := by decide +kernel
theorem d_ER_passMonitors_7 : decode b_ER_passMonitors 7 = .ok (.aload_n 0, 1) := by decide +kernel
theorem d_ER_passMonitors_8 : decode b_ER_passMonitors 8 = .ok (.getfield 10, 3) := by decide +kernel
theorem d_ER_passMonitors_11 : decode b_ER_passMonitors 11 = .ok (.invokevirtual 41, 3) := by decide +kernel
theorem d_ER_passMonitors_14 : decode b_ER_passMonitors 14 = .ok (.if_icmp .ge 37, 3) := by decide +kernel
theorem d_ER_passMonitors_17 : decode b_ER_passMonitors 17 = .ok (.aload_n 0, 1) := by decide +kernel
theorem d_ER_passMonitors_18 : decode b_ER_passMonitors 18 = .ok (.getfield 10, 3) := by decide +kernel
theorem d_ER_passMonitors_21 : decode b_ER_passMonitors 21 = .ok (.iload 4, 2) := by decide +kernel
theorem d_ER_passMonitors_23 : decode b_ER_passMonitors 23 = .ok (.invokevirtual 73, 3) := by decide +kernel
theorem d_ER_passMonitors_26 : decode b_ER_passMonitors 26 = .ok (.checkcast 45, 3) := by decide +kernel
theorem d_ER_passMonitors_29 : decode b_ER_passMonitors 29 = .ok (.iload_n 1, 1) := by decide +kernel
theorem d_ER_passMonitors_30 : decode b_ER_passMonitors 30 = .ok (.iload_n 2, 1) := by decide +kernel
theorem d_ER_passMonitors_31 : decode b_ER_passMonitors 31 = .ok (.iload 4, 2) := by decide +kernel
theorem d_ER_passMonitors_33 : decode b_ER_passMonitors 33 = .ok (.invokestatic 185, 3) := by decide +kernel
theorem d_ER_passMonitors_36 : decode b_ER_passMonitors 36 = .ok (.invokevirtual 189, 3) := by decide +kernel
theorem d_ER_passMonitors_39 : decode b_ER_passMonitors 39 = .ok (.ifCond .eq 6, 3) := by decide +kernel
theorem d_ER_passMonitors_42 : decode b_ER_passMonitors 42 = .ok (.iinc 3 1, 3) := by decide +kernel
theorem d_ER_passMonitors_45 : decode b_ER_passMonitors 45 = .ok (.iinc 4 1, 3) := by decide +kernel
theorem d_ER_passMonitors_48 : decode b_ER_passMonitors 48 = .ok (.goto (-43), 3) := by decide +kernel
theorem d_ER_passMonitors_51 : decode b_ER_passMonitors 51 = .ok (.iload_n 3, 1) := by decide +kernel
theorem d_ER_passMonitors_52 : decode b_ER_passMonitors 52 = .ok (.ireturn, 1) := by decide +kernel
abbrev b_ER_passCodes : ByteArray := prog_1_method_18_code
def y_ER_passCodes : MethodName := ⟨R_ER, "passCodes", "(I)V"⟩
def w_ER_passCodes : List Cond := .code y_ER_passCodes b_ER_passCodes 4 none :: lwG
theorem d_ER_passCodes_0 : decode b_ER_passCodes 0 = .ok (.iconst 0, 1) := by decide +kernel
theorem d_ER_passCodes_1 : decode b_ER_passCodes 1 = .ok (.istore_n 2, 1) := by decide +kernel
theorem d_ER_passCodes_2 : decode b_ER_passCodes 2 = .ok (.iload_n 2, 1) := by decide +kernel
theorem d_ER_passCodes_3 : decode b_ER_passCodes 3 = .ok (.aload_n 0, 1) := by decide +kernel
theorem d_ER_passCodes_4 : decode b_ER_passCodes 4 = .ok (.getfield 16, 3) := by decide +kernel
theorem d_ER_passCodes_7 : decode b_ER_passCodes 7 = .ok (.invokevirtual 41, 3) := by decide +kernel
theorem d_ER_passCodes_10 : decode b_ER_passCodes 10 = .ok (.if_icmp .ge 45, 3) := by decide +kernel
theorem d_ER_passCodes_13 : decode b_ER_passCodes 13 = .ok (.aload_n 0, 1) := by decide +kernel
theorem d_ER_passCodes_14 : decode b_ER_passCodes 14 = .ok (.getfield 16, 3) := by decide +kernel
theorem d_ER_passCodes_17 : decode b_ER_passCodes 17 = .ok (.iload_n 2, 1) := by decide +kernel
theorem d_ER_passCodes_18 : decode b_ER_passCodes 18 = .ok (.invokevirtual 73, 3) := by decide +kernel
theorem d_ER_passCodes_21 : decode b_ER_passCodes 21 = .ok (.checkcast 105, 3) := by decide +kernel
theorem d_ER_passCodes_24 : decode b_ER_passCodes 24 = .ok (.astore_n 3, 1) := by decide +kernel
theorem d_ER_passCodes_25 : decode b_ER_passCodes 25 = .ok (.aload_n 3, 1) := by decide +kernel
theorem d_ER_passCodes_26 : decode b_ER_passCodes 26 = .ok (.getfield 104, 3) := by decide +kernel
theorem d_ER_passCodes_29 : decode b_ER_passCodes 29 = .ok (.ifCond .eq 15, 3) := by decide +kernel
theorem d_ER_passCodes_32 : decode b_ER_passCodes 32 = .ok (.aload_n 3, 1) := by decide +kernel
theorem d_ER_passCodes_33 : decode b_ER_passCodes 33 = .ok (.aload_n 0, 1) := by decide +kernel
theorem d_ER_passCodes_34 : decode b_ER_passCodes 34 = .ok (.getfield 33, 3) := by decide +kernel
theorem d_ER_passCodes_37 : decode b_ER_passCodes 37 = .ok (.iload_n 1, 1) := by decide +kernel
theorem d_ER_passCodes_38 : decode b_ER_passCodes 38 = .ok (.invokevirtual 193, 3) := by decide +kernel
theorem d_ER_passCodes_41 : decode b_ER_passCodes 41 = .ok (.goto 8, 3) := by decide +kernel
theorem d_ER_passCodes_44 : decode b_ER_passCodes 44 = .ok (.aload_n 3, 1) := by decide +kernel
theorem d_ER_passCodes_45 : decode b_ER_passCodes 45 = .ok (.iload_n 1, 1) := by decide +kernel
theorem d_ER_passCodes_46 : decode b_ER_passCodes 46 = .ok (.invokevirtual 196, 3) := by decide +kernel
theorem d_ER_passCodes_49 : decode b_ER_passCodes 49 = .ok (.iinc 2 1, 3) := by decide +kernel
theorem d_ER_passCodes_52 : decode b_ER_passCodes 52 = .ok (.goto (-50), 3) := by decide +kernel
theorem d_ER_passCodes_55 : decode b_ER_passCodes 55 = .ok (.return_, 1) := by decide +kernel
