abbrev b_AL_size : ByteArray := prog_21_method_8_code
def y_AL_size : MethodName := ⟨R_AL, "size", "()I"⟩
def w_AL_size : List Cond := .code y_AL_size b_AL_size 1 (some .int) :: lwG
theorem d_AL_size_0 : decode b_AL_size 0 = .ok (.aload_n 0, 1) := by decide +kernel
theorem d_AL_size_1 : decode b_AL_size 1 = .ok (.getfield 48, 3) := by decide +kernel
theorem d_AL_size_4 : decode b_AL_size 4 = .ok (.ireturn, 1) := by decide +kernel
abbrev b_PRE_checkIndex : ByteArray := prog_29_method_11_code
def y_PRE_checkIndex : MethodName := ⟨R_PRE, "checkIndex", "(IILjava/util/function/BiFunction;)I"⟩
def w_PRE_checkIndex : List Cond := .code y_PRE_checkIndex b_PRE_checkIndex 3 (some .int) :: lwG
theorem d_PRE_checkIndex_0 : decode b_PRE_checkIndex 0 = .ok (.iload_n 0, 1) := by decide +kernel
theorem d_PRE_checkIndex_1 : decode b_PRE_checkIndex 1 = .ok (.ifCond .lt 8, 3) := by decide +kernel
theorem d_PRE_checkIndex_4 : decode b_PRE_checkIndex 4 = .ok (.iload_n 0, 1) := by decide +kernel
theorem d_PRE_checkIndex_5 : decode b_PRE_checkIndex 5 = .ok (.iload_n 1, 1) := by decide +kernel
theorem d_PRE_checkIndex_6 : decode b_PRE_checkIndex 6 = .ok (.if_icmp .lt 10, 3) := by decide +kernel
theorem d_PRE_checkIndex_9 : decode b_PRE_checkIndex 9 = .ok (.aload_n 2, 1) := by decide +kernel
theorem d_PRE_checkIndex_10 : decode b_PRE_checkIndex 10 = .ok (.iload_n 0, 1) := by decide +kernel
theorem d_PRE_checkIndex_11 : decode b_PRE_checkIndex 11 = .ok (.iload_n 1, 1) := by decide +kernel
theorem d_PRE_checkIndex_12 : decode b_PRE_checkIndex 12 = .ok (.invokestatic 95, 3) := by decide +kernel
theorem d_PRE_checkIndex_15 : decode b_PRE_checkIndex 15 = .ok (.athrow, 1) := by decide +kernel
theorem d_PRE_checkIndex_16 : decode b_PRE_checkIndex 16 = .ok (.iload_n 0, 1) := by decide +kernel
theorem d_PRE_checkIndex_17 : decode b_PRE_checkIndex 17 = .ok (.ireturn, 1) := by decide +kernel
abbrev b_OBJS_checkIndex : ByteArray := prog_25_method_17_code
def y_OBJS_checkIndex : MethodName := ⟨R_OBJS, "checkIndex", "(II)I"⟩
def w_OBJS_checkIndex : List Cond := .code y_OBJS_checkIndex b_OBJS_checkIndex 2 (some .int) :: lwG
theorem d_OBJS_checkIndex_0 : decode b_OBJS_checkIndex 0 = .ok (.iload_n 0, 1) := by decide +kernel
theorem d_OBJS_checkIndex_1 : decode b_OBJS_checkIndex 1 = .ok (.iload_n 1, 1) := by decide +kernel
theorem d_OBJS_checkIndex_2 : decode b_OBJS_checkIndex 2 = .ok (.aconst_null, 1) := by decide +kernel
theorem d_OBJS_checkIndex_3 : decode b_OBJS_checkIndex 3 = .ok (.invokestatic 105, 3) := by decide +kernel
theorem d_OBJS_checkIndex_6 : decode b_OBJS_checkIndex 6 = .ok (.ireturn, 1) := by decide +kernel
abbrev b_AL_elementData : ByteArray := prog_21_method_18_code
def y_AL_elementData : MethodName := ⟨R_AL, "elementData", "(I)Ljava/lang/Object;"⟩
def w_AL_elementData : List Cond := .code y_AL_elementData b_AL_elementData 2 (some (.object "java/lang/Object")) :: lwG
theorem d_AL_elementData_0 : decode b_AL_elementData 0 = .ok (.aload_n 0, 1) := by decide +kernel
theorem d_AL_elementData_1 : decode b_AL_elementData 1 = .ok (.getfield 9, 3) := by decide +kernel
theorem d_AL_elementData_4 : decode b_AL_elementData 4 = .ok (.iload_n 1, 1) := by decide +kernel
theorem d_AL_elementData_5 : decode b_AL_elementData 5 = .ok (.aaload, 1) := by decide +kernel
theorem d_AL_elementData_6 : decode b_AL_elementData 6 = .ok (.areturn, 1) := by decide +kernel
abbrev b_AL_get : ByteArray := prog_21_method_20_code
def y_AL_get : MethodName := ⟨R_AL, "get", "(I)Ljava/lang/Object;"⟩
def w_AL_get : List Cond := .code y_AL_get b_AL_get 2 (some (.object "java/lang/Object")) :: lwG
theorem d_AL_get_0 : decode b_AL_get 0 = .ok (.iload_n 1, 1) := by decide +kernel
theorem d_AL_get_1 : decode b_AL_get 1 = .ok (.aload_n 0, 1) := by decide +kernel
theorem d_AL_get_2 : decode b_AL_get 2 = .ok (.getfield 48, 3) := by decide +kernel
theorem d_AL_get_5 : decode b_AL_get 5 = .ok (.invokestatic 118, 3) := by decide +kernel
theorem d_AL_get_8 : decode b_AL_get 8 = .ok (.pop, 1) := by decide +kernel
theorem d_AL_get_9 : decode b_AL_get 9 = .ok (.aload_n 0, 1) := by decide +kernel
theorem d_AL_get_10 : decode b_AL_get 10 = .ok (.iload_n 1, 1) := by decide +kernel
theorem d_AL_get_11 : decode b_AL_get 11 = .ok (.invokevirtual 123, 3) := by decide +kernel
theorem d_AL_get_14 : decode b_AL_get 14 = .ok (.areturn, 1) := by decide +kernel
