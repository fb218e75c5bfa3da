abbrev b_ER_ratio : ByteArray := prog_1_method_5_code
def y_ER_ratio : MethodName := ⟨R_ER, "ratio", "(II)J"⟩
def w_ER_ratio : List Cond := .code y_ER_ratio b_ER_ratio 4 (some .long) :: lwG
theorem d_ER_ratio_0 : decode b_ER_ratio 0 = .ok (.aload_n 0, 1) := by decide +kernel
theorem d_ER_ratio_1 : decode b_ER_ratio 1 = .ok (.iload_n 1, 1) := by decide +kernel
theorem d_ER_ratio_2 : decode b_ER_ratio 2 = .ok (.invokevirtual 70, 3) := by decide +kernel
theorem d_ER_ratio_5 : decode b_ER_ratio 5 = .ok (.ifCond .ne 7, 3) := by decide +kernel
theorem d_ER_ratio_8 : decode b_ER_ratio 8 = .ok (.ldc2_w 83, 3) := by decide +kernel
theorem d_ER_ratio_11 : decode b_ER_ratio 11 = .ok (.lreturn, 1) := by decide +kernel
theorem d_ER_ratio_12 : decode b_ER_ratio 12 = .ok (.aload_n 0, 1) := by decide +kernel
theorem d_ER_ratio_13 : decode b_ER_ratio 13 = .ok (.getfield 10, 3) := by decide +kernel
theorem d_ER_ratio_16 : decode b_ER_ratio 16 = .ok (.iload_n 1, 1) := by decide +kernel
theorem d_ER_ratio_17 : decode b_ER_ratio 17 = .ok (.iconst 1, 1) := by decide +kernel
theorem d_ER_ratio_18 : decode b_ER_ratio 18 = .ok (.isub, 1) := by decide +kernel
theorem d_ER_ratio_19 : decode b_ER_ratio 19 = .ok (.invokevirtual 73, 3) := by decide +kernel
theorem d_ER_ratio_22 : decode b_ER_ratio 22 = .ok (.checkcast 45, 3) := by decide +kernel
theorem d_ER_ratio_25 : decode b_ER_ratio 25 = .ok (.astore_n 3, 1) := by decide +kernel
theorem d_ER_ratio_26 : decode b_ER_ratio 26 = .ok (.aload_n 3, 1) := by decide +kernel
theorem d_ER_ratio_27 : decode b_ER_ratio 27 = .ok (.getfield 80, 3) := by decide +kernel
theorem d_ER_ratio_30 : decode b_ER_ratio 30 = .ok (.ifCond .ne 13, 3) := by decide +kernel
theorem d_ER_ratio_33 : decode b_ER_ratio 33 = .ok (.new 85, 3) := by decide +kernel
theorem d_ER_ratio_36 : decode b_ER_ratio 36 = .ok (.dup, 1) := by decide +kernel
theorem d_ER_ratio_37 : decode b_ER_ratio 37 = .ok (.ldc 87, 2) := by decide +kernel
theorem d_ER_ratio_39 : decode b_ER_ratio 39 = .ok (.invokespecial 89, 3) := by decide +kernel
theorem d_ER_ratio_42 : decode b_ER_ratio 42 = .ok (.athrow, 1) := by decide +kernel
theorem d_ER_ratio_43 : decode b_ER_ratio 43 = .ok (.iload_n 2, 1) := by decide +kernel
theorem d_ER_ratio_44 : decode b_ER_ratio 44 = .ok (.ifCond .ne 10, 3) := by decide +kernel
theorem d_ER_ratio_47 : decode b_ER_ratio 47 = .ok (.aload_n 3, 1) := by decide +kernel
theorem d_ER_ratio_48 : decode b_ER_ratio 48 = .ok (.getfield 77, 3) := by decide +kernel
theorem d_ER_ratio_51 : decode b_ER_ratio 51 = .ok (.goto 7, 3) := by decide +kernel
theorem d_ER_ratio_54 : decode b_ER_ratio 54 = .ok (.aload_n 3, 1) := by decide +kernel
theorem d_ER_ratio_55 : decode b_ER_ratio 55 = .ok (.getfield 80, 3) := by decide +kernel
theorem d_ER_ratio_58 : decode b_ER_ratio 58 = .ok (.aload_n 3, 1) := by decide +kernel
theorem d_ER_ratio_59 : decode b_ER_ratio 59 = .ok (.getfield 77, 3) := by decide +kernel
theorem d_ER_ratio_62 : decode b_ER_ratio 62 = .ok (.aload_n 3, 1) := by decide +kernel
theorem d_ER_ratio_63 : decode b_ER_ratio 63 = .ok (.getfield 80, 3) := by decide +kernel
theorem d_ER_ratio_66 : decode b_ER_ratio 66 = .ok (.invokestatic 92, 3) := by decide +kernel
theorem d_ER_ratio_69 : decode b_ER_ratio 69 = .ok (.i2l, 1) := by decide +kernel
theorem d_ER_ratio_70 : decode b_ER_ratio 70 = .ok (.lreturn, 1) := by decide +kernel
abbrev b_ER_at : ByteArray := prog_1_method_13_code
def y_ER_at : MethodName := ⟨R_ER, "at", "(I)B"⟩
def w_ER_at : List Cond := .code y_ER_at b_ER_at 2 (some .byte) :: lwG
theorem d_ER_at_0 : decode b_ER_at 0 = .ok (.aload_n 0, 1) := by decide +kernel
theorem d_ER_at_1 : decode b_ER_at 1 = .ok (.getfield 29, 3) := by decide +kernel
theorem d_ER_at_4 : decode b_ER_at 4 = .ok (.iload_n 1, 1) := by decide +kernel
theorem d_ER_at_5 : decode b_ER_at 5 = .ok (.invokevirtual 170, 3) := by decide +kernel
theorem d_ER_at_8 : decode b_ER_at 8 = .ok (.ifCond .ne 13, 3) := by decide +kernel
theorem d_ER_at_11 : decode b_ER_at 11 = .ok (.new 173, 3) := by decide +kernel
theorem d_ER_at_14 : decode b_ER_at 14 = .ok (.dup, 1) := by decide +kernel
theorem d_ER_at_15 : decode b_ER_at 15 = .ok (.ldc 175, 2) := by decide +kernel
theorem d_ER_at_17 : decode b_ER_at 17 = .ok (.invokespecial 177, 3) := by decide +kernel
theorem d_ER_at_20 : decode b_ER_at 20 = .ok (.athrow, 1) := by decide +kernel
theorem d_ER_at_21 : decode b_ER_at 21 = .ok (.aload_n 0, 1) := by decide +kernel
theorem d_ER_at_22 : decode b_ER_at 22 = .ok (.getfield 29, 3) := by decide +kernel
theorem d_ER_at_25 : decode b_ER_at 25 = .ok (.getfield 178, 3) := by decide +kernel
theorem d_ER_at_28 : decode b_ER_at 28 = .ok (.iload_n 1, 1) := by decide +kernel
theorem d_ER_at_29 : decode b_ER_at 29 = .ok (.baload, 1) := by decide +kernel
theorem d_ER_at_30 : decode b_ER_at 30 = .ok (.ireturn, 1) := by decide +kernel
