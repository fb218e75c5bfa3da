abbrev b_ARRS_copyOf_0 : ByteArray := prog_22_method_119_code
def y_ARRS_copyOf_0 : MethodName := ⟨R_ARRS, "copyOf", "([Ljava/lang/Object;I)[Ljava/lang/Object;"⟩
def w_ARRS_copyOf_0 : List Cond := .code y_ARRS_copyOf_0 b_ARRS_copyOf_0 2 (some (.array (.object "java/lang/Object"))) :: lwG
theorem d_ARRS_copyOf_0_0 : decode b_ARRS_copyOf_0 0 = .ok (.aload_n 0, 1) := by decide +kernel
theorem d_ARRS_copyOf_0_1 : decode b_ARRS_copyOf_0 1 = .ok (.iload_n 1, 1) := by decide +kernel
theorem d_ARRS_copyOf_0_2 : decode b_ARRS_copyOf_0 2 = .ok (.aload_n 0, 1) := by decide +kernel
theorem d_ARRS_copyOf_0_3 : decode b_ARRS_copyOf_0 3 = .ok (.invokevirtual 86, 3) := by decide +kernel
theorem d_ARRS_copyOf_0_6 : decode b_ARRS_copyOf_0 6 = .ok (.invokestatic 300, 3) := by decide +kernel
theorem d_ARRS_copyOf_0_9 : decode b_ARRS_copyOf_0 9 = .ok (.areturn, 1) := by decide +kernel
