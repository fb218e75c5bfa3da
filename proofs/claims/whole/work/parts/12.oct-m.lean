abbrev b_OCT_drop : ByteArray := prog_5_method_2_code
def y_OCT_drop : MethodName := ⟨R_OCT, "drop", "()V"⟩
def w_OCT_drop : List Cond := .code y_OCT_drop b_OCT_drop 1 none :: lwG
theorem d_OCT_drop_0 : decode b_OCT_drop 0 = .ok (.aload_n 0, 1) := by decide +kernel
theorem d_OCT_drop_1 : decode b_OCT_drop 1 = .ok (.iconst 0, 1) := by decide +kernel
theorem d_OCT_drop_2 : decode b_OCT_drop 2 = .ok (.putfield 15, 3) := by decide +kernel
theorem d_OCT_drop_5 : decode b_OCT_drop 5 = .ok (.return_, 1) := by decide +kernel
abbrev b_OCT_add : ByteArray := prog_5_method_4_code
def y_OCT_add : MethodName := ⟨R_OCT, "add", "(I)V"⟩
def w_OCT_add : List Cond := .code y_OCT_add b_OCT_add 2 none :: lwG
theorem d_OCT_add_0 : decode b_OCT_add 0 = .ok (.aload_n 0, 1) := by decide +kernel
theorem d_OCT_add_1 : decode b_OCT_add 1 = .ok (.getfield 15, 3) := by decide +kernel
theorem d_OCT_add_4 : decode b_OCT_add 4 = .ok (.ifCond .lt 36, 3) := by decide +kernel
theorem d_OCT_add_7 : decode b_OCT_add 7 = .ok (.aload_n 0, 1) := by decide +kernel
theorem d_OCT_add_8 : decode b_OCT_add 8 = .ok (.getfield 15, 3) := by decide +kernel
theorem d_OCT_add_11 : decode b_OCT_add 11 = .ok (.aload_n 0, 1) := by decide +kernel
theorem d_OCT_add_12 : decode b_OCT_add 12 = .ok (.getfield 11, 3) := by decide +kernel
theorem d_OCT_add_15 : decode b_OCT_add 15 = .ok (.arraylength, 1) := by decide +kernel
theorem d_OCT_add_16 : decode b_OCT_add 16 = .ok (.if_icmp .ge 24, 3) := by decide +kernel
theorem d_OCT_add_19 : decode b_OCT_add 19 = .ok (.aload_n 0, 1) := by decide +kernel
theorem d_OCT_add_20 : decode b_OCT_add 20 = .ok (.getfield 11, 3) := by decide +kernel
theorem d_OCT_add_23 : decode b_OCT_add 23 = .ok (.aload_n 0, 1) := by decide +kernel
theorem d_OCT_add_24 : decode b_OCT_add 24 = .ok (.getfield 15, 3) := by decide +kernel
theorem d_OCT_add_27 : decode b_OCT_add 27 = .ok (.iload_n 1, 1) := by decide +kernel
theorem d_OCT_add_28 : decode b_OCT_add 28 = .ok (.i2b, 1) := by decide +kernel
theorem d_OCT_add_29 : decode b_OCT_add 29 = .ok (.bastore, 1) := by decide +kernel
theorem d_OCT_add_30 : decode b_OCT_add 30 = .ok (.aload_n 0, 1) := by decide +kernel
theorem d_OCT_add_31 : decode b_OCT_add 31 = .ok (.dup, 1) := by decide +kernel
theorem d_OCT_add_32 : decode b_OCT_add 32 = .ok (.getfield 15, 3) := by decide +kernel
theorem d_OCT_add_35 : decode b_OCT_add 35 = .ok (.iconst 1, 1) := by decide +kernel
theorem d_OCT_add_36 : decode b_OCT_add 36 = .ok (.iadd, 1) := by decide +kernel
theorem d_OCT_add_37 : decode b_OCT_add 37 = .ok (.putfield 15, 3) := by decide +kernel
theorem d_OCT_add_40 : decode b_OCT_add 40 = .ok (.return_, 1) := by decide +kernel
abbrev b_OCT_begin : ByteArray := prog_5_method_3_code
def y_OCT_begin : MethodName := ⟨R_OCT, "begin", "(I)V"⟩
def w_OCT_begin : List Cond := .code y_OCT_begin b_OCT_begin 2 none :: lwG
theorem d_OCT_begin_0 : decode b_OCT_begin 0 = .ok (.aload_n 0, 1) := by decide +kernel
theorem d_OCT_begin_1 : decode b_OCT_begin 1 = .ok (.bipush 64, 2) := by decide +kernel
theorem d_OCT_begin_3 : decode b_OCT_begin 3 = .ok (.iload_n 1, 1) := by decide +kernel
theorem d_OCT_begin_4 : decode b_OCT_begin 4 = .ok (.iadd, 1) := by decide +kernel
theorem d_OCT_begin_5 : decode b_OCT_begin 5 = .ok (.invokevirtual 19, 3) := by decide +kernel
theorem d_OCT_begin_8 : decode b_OCT_begin 8 = .ok (.return_, 1) := by decide +kernel
abbrev b_OCT_addTwo : ByteArray := prog_5_method_5_code
def y_OCT_addTwo : MethodName := ⟨R_OCT, "addTwo", "(I)V"⟩
def w_OCT_addTwo : List Cond := .code y_OCT_addTwo b_OCT_addTwo 2 none :: lwG
theorem d_OCT_addTwo_0 : decode b_OCT_addTwo 0 = .ok (.aload_n 0, 1) := by decide +kernel
theorem d_OCT_addTwo_1 : decode b_OCT_addTwo 1 = .ok (.iload_n 1, 1) := by decide +kernel
theorem d_OCT_addTwo_2 : decode b_OCT_addTwo 2 = .ok (.bipush 8, 2) := by decide +kernel
theorem d_OCT_addTwo_4 : decode b_OCT_addTwo 4 = .ok (.ishr, 1) := by decide +kernel
theorem d_OCT_addTwo_5 : decode b_OCT_addTwo 5 = .ok (.invokevirtual 19, 3) := by decide +kernel
theorem d_OCT_addTwo_8 : decode b_OCT_addTwo 8 = .ok (.aload_n 0, 1) := by decide +kernel
theorem d_OCT_addTwo_9 : decode b_OCT_addTwo 9 = .ok (.iload_n 1, 1) := by decide +kernel
theorem d_OCT_addTwo_10 : decode b_OCT_addTwo 10 = .ok (.invokevirtual 19, 3) := by decide +kernel
theorem d_OCT_addTwo_13 : decode b_OCT_addTwo 13 = .ok (.return_, 1) := by decide +kernel
abbrev b_OCT_has : ByteArray := prog_5_method_6_code
def y_OCT_has : MethodName := ⟨R_OCT, "has", "(I)Z"⟩
def w_OCT_has : List Cond := .code y_OCT_has b_OCT_has 2 (some .boolean) :: lwG
theorem d_OCT_has_0 : decode b_OCT_has 0 = .ok (.iload_n 1, 1) := by decide +kernel
theorem d_OCT_has_1 : decode b_OCT_has 1 = .ok (.ifCond .lt 24, 3) := by decide +kernel
theorem d_OCT_has_4 : decode b_OCT_has 4 = .ok (.iload_n 1, 1) := by decide +kernel
theorem d_OCT_has_5 : decode b_OCT_has 5 = .ok (.aload_n 0, 1) := by decide +kernel
theorem d_OCT_has_6 : decode b_OCT_has 6 = .ok (.getfield 15, 3) := by decide +kernel
theorem d_OCT_has_9 : decode b_OCT_has 9 = .ok (.if_icmp .ge 16, 3) := by decide +kernel
theorem d_OCT_has_12 : decode b_OCT_has 12 = .ok (.iload_n 1, 1) := by decide +kernel
theorem d_OCT_has_13 : decode b_OCT_has 13 = .ok (.aload_n 0, 1) := by decide +kernel
theorem d_OCT_has_14 : decode b_OCT_has 14 = .ok (.getfield 11, 3) := by decide +kernel
theorem d_OCT_has_17 : decode b_OCT_has 17 = .ok (.arraylength, 1) := by decide +kernel
theorem d_OCT_has_18 : decode b_OCT_has 18 = .ok (.if_icmp .ge 7, 3) := by decide +kernel
theorem d_OCT_has_21 : decode b_OCT_has 21 = .ok (.iconst 1, 1) := by decide +kernel
theorem d_OCT_has_22 : decode b_OCT_has 22 = .ok (.goto 4, 3) := by decide +kernel
theorem d_OCT_has_25 : decode b_OCT_has 25 = .ok (.iconst 0, 1) := by decide +kernel
theorem d_OCT_has_26 : decode b_OCT_has 26 = .ok (.ireturn, 1) := by decide +kernel
abbrev b_OCT_total : ByteArray := prog_5_method_7_code
def y_OCT_total : MethodName := ⟨R_OCT, "total", "()I"⟩
def w_OCT_total : List Cond := .code y_OCT_total b_OCT_total 3 (some .int) :: lwG
theorem d_OCT_total_0 : decode b_OCT_total 0 = .ok (.iconst 0, 1) := by decide +kernel
theorem d_OCT_total_1 : decode b_OCT_total 1 = .ok (.istore_n 1, 1) := by decide +kernel
theorem d_OCT_total_2 : decode b_OCT_total 2 = .ok (.iconst 0, 1) := by decide +kernel
theorem d_OCT_total_3 : decode b_OCT_total 3 = .ok (.istore_n 2, 1) := by decide +kernel
theorem d_OCT_total_4 : decode b_OCT_total 4 = .ok (.iload_n 2, 1) := by decide +kernel
theorem d_OCT_total_5 : decode b_OCT_total 5 = .ok (.aload_n 0, 1) := by decide +kernel
theorem d_OCT_total_6 : decode b_OCT_total 6 = .ok (.getfield 15, 3) := by decide +kernel
theorem d_OCT_total_9 : decode b_OCT_total 9 = .ok (.if_icmp .ge 31, 3) := by decide +kernel
theorem d_OCT_total_12 : decode b_OCT_total 12 = .ok (.iload_n 2, 1) := by decide +kernel
theorem d_OCT_total_13 : decode b_OCT_total 13 = .ok (.aload_n 0, 1) := by decide +kernel
theorem d_OCT_total_14 : decode b_OCT_total 14 = .ok (.getfield 11, 3) := by decide +kernel
theorem d_OCT_total_17 : decode b_OCT_total 17 = .ok (.arraylength, 1) := by decide +kernel
theorem d_OCT_total_18 : decode b_OCT_total 18 = .ok (.if_icmp .ge 22, 3) := by decide +kernel
theorem d_OCT_total_21 : decode b_OCT_total 21 = .ok (.iload_n 1, 1) := by decide +kernel
theorem d_OCT_total_22 : decode b_OCT_total 22 = .ok (.aload_n 0, 1) := by decide +kernel
theorem d_OCT_total_23 : decode b_OCT_total 23 = .ok (.getfield 11, 3) := by decide +kernel
theorem d_OCT_total_26 : decode b_OCT_total 26 = .ok (.iload_n 2, 1) := by decide +kernel
theorem d_OCT_total_27 : decode b_OCT_total 27 = .ok (.baload, 1) := by decide +kernel
theorem d_OCT_total_28 : decode b_OCT_total 28 = .ok (.sipush 255, 3) := by decide +kernel
theorem d_OCT_total_31 : decode b_OCT_total 31 = .ok (.iand, 1) := by decide +kernel
theorem d_OCT_total_32 : decode b_OCT_total 32 = .ok (.iadd, 1) := by decide +kernel
theorem d_OCT_total_33 : decode b_OCT_total 33 = .ok (.istore_n 1, 1) := by decide +kernel
theorem d_OCT_total_34 : decode b_OCT_total 34 = .ok (.iinc 2 1, 3) := by decide +kernel
theorem d_OCT_total_37 : decode b_OCT_total 37 = .ok (.goto (-33), 3) := by decide +kernel
theorem d_OCT_total_40 : decode b_OCT_total 40 = .ok (.iload_n 1, 1) := by decide +kernel
theorem d_OCT_total_41 : decode b_OCT_total 41 = .ok (.ireturn, 1) := by decide +kernel
