abbrev b_AL_add_1 : ByteArray := prog_21_method_24_code
def y_AL_add_1 : MethodName := ⟨R_AL, "add", "(Ljava/lang/Object;[Ljava/lang/Object;I)V"⟩
def w_AL_add_1 : List Cond := .code y_AL_add_1 b_AL_add_1 4 none :: lwG
theorem d_AL_add_1_0 : decode b_AL_add_1 0 = .ok (.iload_n 3, 1) := by decide +kernel
theorem d_AL_add_1_1 : decode b_AL_add_1 1 = .ok (.aload_n 2, 1) := by decide +kernel
theorem d_AL_add_1_2 : decode b_AL_add_1 2 = .ok (.arraylength, 1) := by decide +kernel
theorem d_AL_add_1_3 : decode b_AL_add_1 3 = .ok (.if_icmp .ne 8, 3) := by decide +kernel
theorem d_AL_add_1_6 : decode b_AL_add_1 6 = .ok (.aload_n 0, 1) := by decide +kernel
theorem d_AL_add_1_7 : decode b_AL_add_1 7 = .ok (.invokevirtual 129, 3) := by decide +kernel
theorem d_AL_add_1_10 : decode b_AL_add_1 10 = .ok (.astore_n 2, 1) := by decide +kernel
theorem d_AL_add_1_11 : decode b_AL_add_1 11 = .ok (.aload_n 2, 1) := by decide +kernel
theorem d_AL_add_1_12 : decode b_AL_add_1 12 = .ok (.iload_n 3, 1) := by decide +kernel
theorem d_AL_add_1_13 : decode b_AL_add_1 13 = .ok (.aload_n 1, 1) := by decide +kernel
theorem d_AL_add_1_14 : decode b_AL_add_1 14 = .ok (.aastore, 1) := by decide +kernel
theorem d_AL_add_1_15 : decode b_AL_add_1 15 = .ok (.aload_n 0, 1) := by decide +kernel
theorem d_AL_add_1_16 : decode b_AL_add_1 16 = .ok (.iload_n 3, 1) := by decide +kernel
theorem d_AL_add_1_17 : decode b_AL_add_1 17 = .ok (.iconst 1, 1) := by decide +kernel
theorem d_AL_add_1_18 : decode b_AL_add_1 18 = .ok (.iadd, 1) := by decide +kernel
theorem d_AL_add_1_19 : decode b_AL_add_1 19 = .ok (.putfield 48, 3) := by decide +kernel
theorem d_AL_add_1_22 : decode b_AL_add_1 22 = .ok (.return_, 1) := by decide +kernel
