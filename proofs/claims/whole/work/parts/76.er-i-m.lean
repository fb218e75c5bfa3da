abbrev b_ER_init : ByteArray := prog_1_method_1_code
def y_ER_init : MethodName := ⟨R_ER, "<init>", "()V"⟩
def w_ER_init : List Cond := .code y_ER_init b_ER_init 1 none :: lwG
theorem d_ER_init_0 : decode b_ER_init 0 = .ok (.aload_n 0, 1) := by decide +kernel
theorem d_ER_init_1 : decode b_ER_init 1 = .ok (.invokespecial 1, 3) := by decide +kernel
theorem d_ER_init_4 : decode b_ER_init 4 = .ok (.aload_n 0, 1) := by decide +kernel
theorem d_ER_init_5 : decode b_ER_init 5 = .ok (.new 7, 3) := by decide +kernel
theorem d_ER_init_8 : decode b_ER_init 8 = .ok (.dup, 1) := by decide +kernel
theorem d_ER_init_9 : decode b_ER_init 9 = .ok (.invokespecial 9, 3) := by decide +kernel
theorem d_ER_init_12 : decode b_ER_init 12 = .ok (.putfield 10, 3) := by decide +kernel
theorem d_ER_init_15 : decode b_ER_init 15 = .ok (.aload_n 0, 1) := by decide +kernel
theorem d_ER_init_16 : decode b_ER_init 16 = .ok (.new 7, 3) := by decide +kernel
theorem d_ER_init_19 : decode b_ER_init 19 = .ok (.dup, 1) := by decide +kernel
theorem d_ER_init_20 : decode b_ER_init 20 = .ok (.invokespecial 9, 3) := by decide +kernel
theorem d_ER_init_23 : decode b_ER_init 23 = .ok (.putfield 16, 3) := by decide +kernel
theorem d_ER_init_26 : decode b_ER_init 26 = .ok (.aload_n 0, 1) := by decide +kernel
theorem d_ER_init_27 : decode b_ER_init 27 = .ok (.new 19, 3) := by decide +kernel
theorem d_ER_init_30 : decode b_ER_init 30 = .ok (.dup, 1) := by decide +kernel
theorem d_ER_init_31 : decode b_ER_init 31 = .ok (.invokespecial 21, 3) := by decide +kernel
theorem d_ER_init_34 : decode b_ER_init 34 = .ok (.putfield 22, 3) := by decide +kernel
theorem d_ER_init_37 : decode b_ER_init 37 = .ok (.aload_n 0, 1) := by decide +kernel
theorem d_ER_init_38 : decode b_ER_init 38 = .ok (.new 26, 3) := by decide +kernel
theorem d_ER_init_41 : decode b_ER_init 41 = .ok (.dup, 1) := by decide +kernel
theorem d_ER_init_42 : decode b_ER_init 42 = .ok (.invokespecial 28, 3) := by decide +kernel
theorem d_ER_init_45 : decode b_ER_init 45 = .ok (.putfield 29, 3) := by decide +kernel
theorem d_ER_init_48 : decode b_ER_init 48 = .ok (.aload_n 0, 1) := by decide +kernel
theorem d_ER_init_49 : decode b_ER_init 49 = .ok (.iconst 0, 1) := by decide +kernel
theorem d_ER_init_50 : decode b_ER_init 50 = .ok (.putfield 33, 3) := by decide +kernel
theorem d_ER_init_53 : decode b_ER_init 53 = .ok (.return_, 1) := by decide +kernel
