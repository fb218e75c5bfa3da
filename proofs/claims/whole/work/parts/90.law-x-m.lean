abbrev b_LAW_ratio : ByteArray := method_3_code
def y_LAW_ratio : MethodName := ⟨R_LAW, "ratio", "(LEmissionRows;II[J)I"⟩
def w_LAW_ratio : List Cond := .codeWith y_LAW_ratio b_LAW_ratio 5 (some .int) [(0, 9, 12, 13)] :: lwG
theorem d_LAW_ratio_0 : decode b_LAW_ratio 0 = .ok (.aload_n 3, 1) := by decide +kernel
theorem d_LAW_ratio_1 : decode b_LAW_ratio 1 = .ok (.iconst 0, 1) := by decide +kernel
theorem d_LAW_ratio_2 : decode b_LAW_ratio 2 = .ok (.aload_n 0, 1) := by decide +kernel
theorem d_LAW_ratio_3 : decode b_LAW_ratio 3 = .ok (.iload_n 1, 1) := by decide +kernel
theorem d_LAW_ratio_4 : decode b_LAW_ratio 4 = .ok (.iload_n 2, 1) := by decide +kernel
theorem d_LAW_ratio_5 : decode b_LAW_ratio 5 = .ok (.invokevirtual 7, 3) := by decide +kernel
theorem d_LAW_ratio_8 : decode b_LAW_ratio 8 = .ok (.lastore, 1) := by decide +kernel
theorem d_LAW_ratio_9 : decode b_LAW_ratio 9 = .ok (.goto 7, 3) := by decide +kernel
theorem d_LAW_ratio_12 : decode b_LAW_ratio 12 = .ok (.astore 4, 2) := by decide +kernel
theorem d_LAW_ratio_14 : decode b_LAW_ratio 14 = .ok (.iconst 1, 1) := by decide +kernel
theorem d_LAW_ratio_15 : decode b_LAW_ratio 15 = .ok (.ireturn, 1) := by decide +kernel
theorem d_LAW_ratio_16 : decode b_LAW_ratio 16 = .ok (.iconst 0, 1) := by decide +kernel
theorem d_LAW_ratio_17 : decode b_LAW_ratio 17 = .ok (.ireturn, 1) := by decide +kernel
abbrev b_LAW_at : ByteArray := method_4_code
def y_LAW_at : MethodName := ⟨R_LAW, "at", "(LEmissionRows;I[J)I"⟩
def w_LAW_at : List Cond := .codeWith y_LAW_at b_LAW_at 4 (some .int) [(0, 9, 12, 19)] :: lwG
theorem d_LAW_at_0 : decode b_LAW_at 0 = .ok (.aload_n 2, 1) := by decide +kernel
theorem d_LAW_at_1 : decode b_LAW_at 1 = .ok (.iconst 0, 1) := by decide +kernel
theorem d_LAW_at_2 : decode b_LAW_at 2 = .ok (.aload_n 0, 1) := by decide +kernel
theorem d_LAW_at_3 : decode b_LAW_at 3 = .ok (.iload_n 1, 1) := by decide +kernel
theorem d_LAW_at_4 : decode b_LAW_at 4 = .ok (.invokevirtual 15, 3) := by decide +kernel
theorem d_LAW_at_7 : decode b_LAW_at 7 = .ok (.i2l, 1) := by decide +kernel
theorem d_LAW_at_8 : decode b_LAW_at 8 = .ok (.lastore, 1) := by decide +kernel
theorem d_LAW_at_9 : decode b_LAW_at 9 = .ok (.goto 6, 3) := by decide +kernel
theorem d_LAW_at_12 : decode b_LAW_at 12 = .ok (.astore_n 3, 1) := by decide +kernel
theorem d_LAW_at_13 : decode b_LAW_at 13 = .ok (.iconst 1, 1) := by decide +kernel
theorem d_LAW_at_14 : decode b_LAW_at 14 = .ok (.ireturn, 1) := by decide +kernel
theorem d_LAW_at_15 : decode b_LAW_at 15 = .ok (.iconst 0, 1) := by decide +kernel
theorem d_LAW_at_16 : decode b_LAW_at 16 = .ok (.ireturn, 1) := by decide +kernel
