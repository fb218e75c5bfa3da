abbrev b_ABC_init : ByteArray := prog_19_method_1_code
def y_ABC_init : MethodName := ⟨R_ABC, "<init>", "()V"⟩
def w_ABC_init : List Cond := .code y_ABC_init b_ABC_init 1 none :: lwG
theorem d_ABC_init_0 : decode b_ABC_init 0 = .ok (.aload_n 0, 1) := by decide +kernel
theorem d_ABC_init_1 : decode b_ABC_init 1 = .ok (.invokespecial 1, 3) := by decide +kernel
theorem d_ABC_init_4 : decode b_ABC_init 4 = .ok (.return_, 1) := by decide +kernel
abbrev b_ABL_init : ByteArray := prog_20_method_1_code
def y_ABL_init : MethodName := ⟨R_ABL, "<init>", "()V"⟩
def w_ABL_init : List Cond := .code y_ABL_init b_ABL_init 1 none :: lwG
theorem d_ABL_init_0 : decode b_ABL_init 0 = .ok (.aload_n 0, 1) := by decide +kernel
theorem d_ABL_init_1 : decode b_ABL_init 1 = .ok (.invokespecial 1, 3) := by decide +kernel
theorem d_ABL_init_4 : decode b_ABL_init 4 = .ok (.aload_n 0, 1) := by decide +kernel
theorem d_ABL_init_5 : decode b_ABL_init 5 = .ok (.iconst 0, 1) := by decide +kernel
theorem d_ABL_init_6 : decode b_ABL_init 6 = .ok (.putfield 7, 3) := by decide +kernel
theorem d_ABL_init_9 : decode b_ABL_init 9 = .ok (.return_, 1) := by decide +kernel
abbrev b_AL_init : ByteArray := prog_21_method_2_code
def y_AL_init : MethodName := ⟨R_AL, "<init>", "()V"⟩
def w_AL_init : List Cond := .code y_AL_init b_AL_init 1 none :: lwG
theorem d_AL_init_0 : decode b_AL_init 0 = .ok (.aload_n 0, 1) := by decide +kernel
theorem d_AL_init_1 : decode b_AL_init 1 = .ok (.invokespecial 1, 3) := by decide +kernel
theorem d_AL_init_4 : decode b_AL_init 4 = .ok (.aload_n 0, 1) := by decide +kernel
theorem d_AL_init_5 : decode b_AL_init 5 = .ok (.getstatic 39, 3) := by decide +kernel
theorem d_AL_init_8 : decode b_AL_init 8 = .ok (.putfield 9, 3) := by decide +kernel
theorem d_AL_init_11 : decode b_AL_init 11 = .ok (.return_, 1) := by decide +kernel
abbrev b_ASUP_newLength : ByteArray := prog_28_method_27_code
def y_ASUP_newLength : MethodName := ⟨R_ASUP, "newLength", "(III)I"⟩
def w_ASUP_newLength : List Cond := .code y_ASUP_newLength b_ASUP_newLength 4 (some .int) :: lwG
theorem d_ASUP_newLength_0 : decode b_ASUP_newLength 0 = .ok (.iload_n 0, 1) := by decide +kernel
theorem d_ASUP_newLength_1 : decode b_ASUP_newLength 1 = .ok (.iload_n 1, 1) := by decide +kernel
theorem d_ASUP_newLength_2 : decode b_ASUP_newLength 2 = .ok (.iload_n 2, 1) := by decide +kernel
theorem d_ASUP_newLength_3 : decode b_ASUP_newLength 3 = .ok (.invokestatic 194, 3) := by decide +kernel
theorem d_ASUP_newLength_6 : decode b_ASUP_newLength 6 = .ok (.iadd, 1) := by decide +kernel
theorem d_ASUP_newLength_7 : decode b_ASUP_newLength 7 = .ok (.istore_n 3, 1) := by decide +kernel
theorem d_ASUP_newLength_8 : decode b_ASUP_newLength 8 = .ok (.iconst 0, 1) := by decide +kernel
theorem d_ASUP_newLength_9 : decode b_ASUP_newLength 9 = .ok (.iload_n 3, 1) := by decide +kernel
theorem d_ASUP_newLength_10 : decode b_ASUP_newLength 10 = .ok (.if_icmp .ge 11, 3) := by decide +kernel
theorem d_ASUP_newLength_13 : decode b_ASUP_newLength 13 = .ok (.iload_n 3, 1) := by decide +kernel
theorem d_ASUP_newLength_14 : decode b_ASUP_newLength 14 = .ok (.ldc 200, 2) := by decide +kernel
theorem d_ASUP_newLength_16 : decode b_ASUP_newLength 16 = .ok (.if_icmp .gt 5, 3) := by decide +kernel
theorem d_ASUP_newLength_19 : decode b_ASUP_newLength 19 = .ok (.iload_n 3, 1) := by decide +kernel
theorem d_ASUP_newLength_20 : decode b_ASUP_newLength 20 = .ok (.ireturn, 1) := by decide +kernel
theorem d_ASUP_newLength_21 : decode b_ASUP_newLength 21 = .ok (.iload_n 0, 1) := by decide +kernel
theorem d_ASUP_newLength_22 : decode b_ASUP_newLength 22 = .ok (.iload_n 1, 1) := by decide +kernel
theorem d_ASUP_newLength_23 : decode b_ASUP_newLength 23 = .ok (.invokestatic 201, 3) := by decide +kernel
theorem d_ASUP_newLength_26 : decode b_ASUP_newLength 26 = .ok (.ireturn, 1) := by decide +kernel
abbrev b_ARRS_copyOf_1 : ByteArray := prog_22_method_120_code
def y_ARRS_copyOf_1 : MethodName := ⟨R_ARRS, "copyOf", "([Ljava/lang/Object;ILjava/lang/Class;)[Ljava/lang/Object;"⟩
def w_ARRS_copyOf_1 : List Cond := .code y_ARRS_copyOf_1 b_ARRS_copyOf_1 4 (some (.array (.object "java/lang/Object"))) :: lwG
theorem d_ARRS_copyOf_1_0 : decode b_ARRS_copyOf_1 0 = .ok (.aload_n 2, 1) := by decide +kernel
theorem d_ARRS_copyOf_1_1 : decode b_ARRS_copyOf_1 1 = .ok (.ldc 110, 2) := by decide +kernel
theorem d_ARRS_copyOf_1_3 : decode b_ARRS_copyOf_1 3 = .ok (.if_acmp .ne 10, 3) := by decide +kernel
theorem d_ARRS_copyOf_1_6 : decode b_ARRS_copyOf_1 6 = .ok (.iload_n 1, 1) := by decide +kernel
theorem d_ARRS_copyOf_1_7 : decode b_ARRS_copyOf_1 7 = .ok (.anewarray 2, 3) := by decide +kernel
theorem d_ARRS_copyOf_1_10 : decode b_ARRS_copyOf_1 10 = .ok (.goto 14, 3) := by decide +kernel
theorem d_ARRS_copyOf_1_13 : decode b_ARRS_copyOf_1 13 = .ok (.aload_n 2, 1) := by decide +kernel
theorem d_ARRS_copyOf_1_14 : decode b_ARRS_copyOf_1 14 = .ok (.invokevirtual 90, 3) := by decide +kernel
theorem d_ARRS_copyOf_1_17 : decode b_ARRS_copyOf_1 17 = .ok (.iload_n 1, 1) := by decide +kernel
theorem d_ARRS_copyOf_1_18 : decode b_ARRS_copyOf_1 18 = .ok (.invokestatic 95, 3) := by decide +kernel
theorem d_ARRS_copyOf_1_21 : decode b_ARRS_copyOf_1 21 = .ok (.checkcast 110, 3) := by decide +kernel
theorem d_ARRS_copyOf_1_24 : decode b_ARRS_copyOf_1 24 = .ok (.astore_n 3, 1) := by decide +kernel
theorem d_ARRS_copyOf_1_25 : decode b_ARRS_copyOf_1 25 = .ok (.aload_n 0, 1) := by decide +kernel
theorem d_ARRS_copyOf_1_26 : decode b_ARRS_copyOf_1 26 = .ok (.iconst 0, 1) := by decide +kernel
theorem d_ARRS_copyOf_1_27 : decode b_ARRS_copyOf_1 27 = .ok (.aload_n 3, 1) := by decide +kernel
theorem d_ARRS_copyOf_1_28 : decode b_ARRS_copyOf_1 28 = .ok (.iconst 0, 1) := by decide +kernel
theorem d_ARRS_copyOf_1_29 : decode b_ARRS_copyOf_1 29 = .ok (.aload_n 0, 1) := by decide +kernel
theorem d_ARRS_copyOf_1_30 : decode b_ARRS_copyOf_1 30 = .ok (.arraylength, 1) := by decide +kernel
theorem d_ARRS_copyOf_1_31 : decode b_ARRS_copyOf_1 31 = .ok (.iload_n 1, 1) := by decide +kernel
theorem d_ARRS_copyOf_1_32 : decode b_ARRS_copyOf_1 32 = .ok (.invokestatic 304, 3) := by decide +kernel
theorem d_ARRS_copyOf_1_35 : decode b_ARRS_copyOf_1 35 = .ok (.invokestatic 150, 3) := by decide +kernel
theorem d_ARRS_copyOf_1_38 : decode b_ARRS_copyOf_1 38 = .ok (.aload_n 3, 1) := by decide +kernel
theorem d_ARRS_copyOf_1_39 : decode b_ARRS_copyOf_1 39 = .ok (.areturn, 1) := by decide +kernel
