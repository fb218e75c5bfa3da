abbrev b_AL_add_0 : ByteArray := prog_21_method_25_code
def y_AL_add_0 : MethodName := ⟨R_AL, "add", "(Ljava/lang/Object;)Z"⟩
def w_AL_add_0 : List Cond := .code y_AL_add_0 b_AL_add_0 2 (some .boolean) :: lwG
theorem d_AL_add_0_0 : decode b_AL_add_0 0 = .ok (.aload_n 0, 1) := by decide +kernel
theorem d_AL_add_0_1 : decode b_AL_add_0 1 = .ok (.dup, 1) := by decide +kernel
theorem d_AL_add_0_2 : decode b_AL_add_0 2 = .ok (.getfield 63, 3) := by decide +kernel
theorem d_AL_add_0_5 : decode b_AL_add_0 5 = .ok (.iconst 1, 1) := by decide +kernel
theorem d_AL_add_0_6 : decode b_AL_add_0 6 = .ok (.iadd, 1) := by decide +kernel
theorem d_AL_add_0_7 : decode b_AL_add_0 7 = .ok (.putfield 63, 3) := by decide +kernel
theorem d_AL_add_0_10 : decode b_AL_add_0 10 = .ok (.aload_n 0, 1) := by decide +kernel
theorem d_AL_add_0_11 : decode b_AL_add_0 11 = .ok (.aload_n 1, 1) := by decide +kernel
theorem d_AL_add_0_12 : decode b_AL_add_0 12 = .ok (.aload_n 0, 1) := by decide +kernel
theorem d_AL_add_0_13 : decode b_AL_add_0 13 = .ok (.getfield 9, 3) := by decide +kernel
theorem d_AL_add_0_16 : decode b_AL_add_0 16 = .ok (.aload_n 0, 1) := by decide +kernel
theorem d_AL_add_0_17 : decode b_AL_add_0 17 = .ok (.getfield 48, 3) := by decide +kernel
theorem d_AL_add_0_20 : decode b_AL_add_0 20 = .ok (.invokevirtual 131, 3) := by decide +kernel
theorem d_AL_add_0_23 : decode b_AL_add_0 23 = .ok (.iconst 1, 1) := by decide +kernel
theorem d_AL_add_0_24 : decode b_AL_add_0 24 = .ok (.ireturn, 1) := by decide +kernel
