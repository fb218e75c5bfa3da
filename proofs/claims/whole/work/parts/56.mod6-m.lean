abbrev b_MOD_at : ByteArray := prog_7_method_28_code
def y_MOD_at : MethodName := ⟨R_MOD, "at", "(I)B"⟩
def w_MOD_at : List Cond := .code y_MOD_at b_MOD_at 2 (some .byte) :: lwG
theorem d_MOD_at_0 : decode b_MOD_at 0 = .ok (.aload_n 0, 1) := by decide +kernel
theorem d_MOD_at_1 : decode b_MOD_at 1 = .ok (.iload_n 1, 1) := by decide +kernel
theorem d_MOD_at_2 : decode b_MOD_at 2 = .ok (.i2l, 1) := by decide +kernel
theorem d_MOD_at_3 : decode b_MOD_at 3 = .ok (.lconst 0, 1) := by decide +kernel
theorem d_MOD_at_4 : decode b_MOD_at 4 = .ok (.aload_n 0, 1) := by decide +kernel
theorem d_MOD_at_5 : decode b_MOD_at 5 = .ok (.getfield 132, 3) := by decide +kernel
theorem d_MOD_at_8 : decode b_MOD_at 8 = .ok (.i2l, 1) := by decide +kernel
theorem d_MOD_at_9 : decode b_MOD_at 9 = .ok (.lconst 1, 1) := by decide +kernel
theorem d_MOD_at_10 : decode b_MOD_at 10 = .ok (.lsub, 1) := by decide +kernel
theorem d_MOD_at_11 : decode b_MOD_at 11 = .ok (.invokestatic 68, 3) := by decide +kernel
theorem d_MOD_at_14 : decode b_MOD_at 14 = .ok (.ifCond .eq 7, 3) := by decide +kernel
theorem d_MOD_at_17 : decode b_MOD_at 17 = .ok (.iconst 0, 1) := by decide +kernel
theorem d_MOD_at_18 : decode b_MOD_at 18 = .ok (.goto 4, 3) := by decide +kernel
theorem d_MOD_at_21 : decode b_MOD_at 21 = .ok (.iconst 1, 1) := by decide +kernel
theorem d_MOD_at_22 : decode b_MOD_at 22 = .ok (.putfield 62, 3) := by decide +kernel
theorem d_MOD_at_25 : decode b_MOD_at 25 = .ok (.aload_n 0, 1) := by decide +kernel
theorem d_MOD_at_26 : decode b_MOD_at 26 = .ok (.getfield 62, 3) := by decide +kernel
theorem d_MOD_at_29 : decode b_MOD_at 29 = .ok (.ifCond .le 7, 3) := by decide +kernel
theorem d_MOD_at_32 : decode b_MOD_at 32 = .ok (.iconst 0, 1) := by decide +kernel
theorem d_MOD_at_33 : decode b_MOD_at 33 = .ok (.goto 10, 3) := by decide +kernel
theorem d_MOD_at_36 : decode b_MOD_at 36 = .ok (.aload_n 0, 1) := by decide +kernel
theorem d_MOD_at_37 : decode b_MOD_at 37 = .ok (.getfield 59, 3) := by decide +kernel
theorem d_MOD_at_40 : decode b_MOD_at 40 = .ok (.iload_n 1, 1) := by decide +kernel
theorem d_MOD_at_41 : decode b_MOD_at 41 = .ok (.iaload, 1) := by decide +kernel
theorem d_MOD_at_42 : decode b_MOD_at 42 = .ok (.i2b, 1) := by decide +kernel
theorem d_MOD_at_43 : decode b_MOD_at 43 = .ok (.ireturn, 1) := by decide +kernel
abbrev b_MOD_ratio : ByteArray := prog_7_method_13_code
def y_MOD_ratio : MethodName := ⟨R_MOD, "ratio", "(II)J"⟩
def w_MOD_ratio : List Cond := .code y_MOD_ratio b_MOD_ratio 7 (some .long) :: lwG
theorem d_MOD_ratio_0 : decode b_MOD_ratio 0 = .ok (.iload_n 1, 1) := by decide +kernel
theorem d_MOD_ratio_1 : decode b_MOD_ratio 1 = .ok (.i2l, 1) := by decide +kernel
theorem d_MOD_ratio_2 : decode b_MOD_ratio 2 = .ok (.lconst 1, 1) := by decide +kernel
theorem d_MOD_ratio_3 : decode b_MOD_ratio 3 = .ok (.aload_n 0, 1) := by decide +kernel
theorem d_MOD_ratio_4 : decode b_MOD_ratio 4 = .ok (.getfield 74, 3) := by decide +kernel
theorem d_MOD_ratio_7 : decode b_MOD_ratio 7 = .ok (.i2l, 1) := by decide +kernel
theorem d_MOD_ratio_8 : decode b_MOD_ratio 8 = .ok (.invokestatic 68, 3) := by decide +kernel
theorem d_MOD_ratio_11 : decode b_MOD_ratio 11 = .ok (.istore_n 3, 1) := by decide +kernel
theorem d_MOD_ratio_12 : decode b_MOD_ratio 12 = .ok (.aload_n 0, 1) := by decide +kernel
theorem d_MOD_ratio_13 : decode b_MOD_ratio 13 = .ok (.iload_n 3, 1) := by decide +kernel
theorem d_MOD_ratio_14 : decode b_MOD_ratio 14 = .ok (.ifCond .eq 18, 3) := by decide +kernel
theorem d_MOD_ratio_17 : decode b_MOD_ratio 17 = .ok (.aload_n 0, 1) := by decide +kernel
theorem d_MOD_ratio_18 : decode b_MOD_ratio 18 = .ok (.getfield 19, 3) := by decide +kernel
theorem d_MOD_ratio_21 : decode b_MOD_ratio 21 = .ok (.iload_n 1, 1) := by decide +kernel
theorem d_MOD_ratio_22 : decode b_MOD_ratio 22 = .ok (.iconst 1, 1) := by decide +kernel
theorem d_MOD_ratio_23 : decode b_MOD_ratio 23 = .ok (.isub, 1) := by decide +kernel
theorem d_MOD_ratio_24 : decode b_MOD_ratio 24 = .ok (.iaload, 1) := by decide +kernel
theorem d_MOD_ratio_25 : decode b_MOD_ratio 25 = .ok (.ifCond .ne 7, 3) := by decide +kernel
theorem d_MOD_ratio_28 : decode b_MOD_ratio 28 = .ok (.iconst 1, 1) := by decide +kernel
theorem d_MOD_ratio_29 : decode b_MOD_ratio 29 = .ok (.goto 4, 3) := by decide +kernel
theorem d_MOD_ratio_32 : decode b_MOD_ratio 32 = .ok (.iconst 0, 1) := by decide +kernel
theorem d_MOD_ratio_33 : decode b_MOD_ratio 33 = .ok (.putfield 62, 3) := by decide +kernel
theorem d_MOD_ratio_36 : decode b_MOD_ratio 36 = .ok (.iload_n 3, 1) := by decide +kernel
theorem d_MOD_ratio_37 : decode b_MOD_ratio 37 = .ok (.ifCond .eq 10, 3) := by decide +kernel
theorem d_MOD_ratio_40 : decode b_MOD_ratio 40 = .ok (.aload_n 0, 1) := by decide +kernel
theorem d_MOD_ratio_41 : decode b_MOD_ratio 41 = .ok (.getfield 62, 3) := by decide +kernel
theorem d_MOD_ratio_44 : decode b_MOD_ratio 44 = .ok (.ifCond .le 15, 3) := by decide +kernel
theorem d_MOD_ratio_47 : decode b_MOD_ratio 47 = .ok (.iload_n 3, 1) := by decide +kernel
theorem d_MOD_ratio_48 : decode b_MOD_ratio 48 = .ok (.ifCond .eq 7, 3) := by decide +kernel
theorem d_MOD_ratio_51 : decode b_MOD_ratio 51 = .ok (.lconst 0, 1) := by decide +kernel
theorem d_MOD_ratio_52 : decode b_MOD_ratio 52 = .ok (.goto 6, 3) := by decide +kernel
theorem d_MOD_ratio_55 : decode b_MOD_ratio 55 = .ok (.ldc2_w 120, 3) := by decide +kernel
theorem d_MOD_ratio_58 : decode b_MOD_ratio 58 = .ok (.lreturn, 1) := by decide +kernel
theorem d_MOD_ratio_59 : decode b_MOD_ratio 59 = .ok (.aload_n 0, 1) := by decide +kernel
theorem d_MOD_ratio_60 : decode b_MOD_ratio 60 = .ok (.getfield 16, 3) := by decide +kernel
theorem d_MOD_ratio_63 : decode b_MOD_ratio 63 = .ok (.iload_n 1, 1) := by decide +kernel
theorem d_MOD_ratio_64 : decode b_MOD_ratio 64 = .ok (.iconst 1, 1) := by decide +kernel
theorem d_MOD_ratio_65 : decode b_MOD_ratio 65 = .ok (.isub, 1) := by decide +kernel
theorem d_MOD_ratio_66 : decode b_MOD_ratio 66 = .ok (.iaload, 1) := by decide +kernel
theorem d_MOD_ratio_67 : decode b_MOD_ratio 67 = .ok (.istore 4, 2) := by decide +kernel
theorem d_MOD_ratio_69 : decode b_MOD_ratio 69 = .ok (.aload_n 0, 1) := by decide +kernel
theorem d_MOD_ratio_70 : decode b_MOD_ratio 70 = .ok (.getfield 19, 3) := by decide +kernel
theorem d_MOD_ratio_73 : decode b_MOD_ratio 73 = .ok (.iload_n 1, 1) := by decide +kernel
theorem d_MOD_ratio_74 : decode b_MOD_ratio 74 = .ok (.iconst 1, 1) := by decide +kernel
theorem d_MOD_ratio_75 : decode b_MOD_ratio 75 = .ok (.isub, 1) := by decide +kernel
theorem d_MOD_ratio_76 : decode b_MOD_ratio 76 = .ok (.iaload, 1) := by decide +kernel
theorem d_MOD_ratio_77 : decode b_MOD_ratio 77 = .ok (.istore 5, 2) := by decide +kernel
theorem d_MOD_ratio_79 : decode b_MOD_ratio 79 = .ok (.iload 5, 2) := by decide +kernel
theorem d_MOD_ratio_81 : decode b_MOD_ratio 81 = .ok (.istore 6, 2) := by decide +kernel
theorem d_MOD_ratio_83 : decode b_MOD_ratio 83 = .ok (.iload 4, 2) := by decide +kernel
theorem d_MOD_ratio_85 : decode b_MOD_ratio 85 = .ok (.iload 6, 2) := by decide +kernel
theorem d_MOD_ratio_87 : decode b_MOD_ratio 87 = .ok (.irem, 1) := by decide +kernel
theorem d_MOD_ratio_88 : decode b_MOD_ratio 88 = .ok (.ifCond .ne 11, 3) := by decide +kernel
theorem d_MOD_ratio_91 : decode b_MOD_ratio 91 = .ok (.iload 5, 2) := by decide +kernel
theorem d_MOD_ratio_93 : decode b_MOD_ratio 93 = .ok (.iload 6, 2) := by decide +kernel
theorem d_MOD_ratio_95 : decode b_MOD_ratio 95 = .ok (.irem, 1) := by decide +kernel
theorem d_MOD_ratio_96 : decode b_MOD_ratio 96 = .ok (.ifCond .eq 9, 3) := by decide +kernel
theorem d_MOD_ratio_99 : decode b_MOD_ratio 99 = .ok (.iinc 6 (-1), 3) := by decide +kernel
theorem d_MOD_ratio_102 : decode b_MOD_ratio 102 = .ok (.goto (-19), 3) := by decide +kernel
theorem d_MOD_ratio_105 : decode b_MOD_ratio 105 = .ok (.iload_n 2, 1) := by decide +kernel
theorem d_MOD_ratio_106 : decode b_MOD_ratio 106 = .ok (.ifCond .ne 12, 3) := by decide +kernel
theorem d_MOD_ratio_109 : decode b_MOD_ratio 109 = .ok (.iload 4, 2) := by decide +kernel
theorem d_MOD_ratio_111 : decode b_MOD_ratio 111 = .ok (.iload 6, 2) := by decide +kernel
theorem d_MOD_ratio_113 : decode b_MOD_ratio 113 = .ok (.idiv, 1) := by decide +kernel
theorem d_MOD_ratio_114 : decode b_MOD_ratio 114 = .ok (.i2l, 1) := by decide +kernel
theorem d_MOD_ratio_115 : decode b_MOD_ratio 115 = .ok (.goto 9, 3) := by decide +kernel
theorem d_MOD_ratio_118 : decode b_MOD_ratio 118 = .ok (.iload 5, 2) := by decide +kernel
theorem d_MOD_ratio_120 : decode b_MOD_ratio 120 = .ok (.iload 6, 2) := by decide +kernel
theorem d_MOD_ratio_122 : decode b_MOD_ratio 122 = .ok (.idiv, 1) := by decide +kernel
theorem d_MOD_ratio_123 : decode b_MOD_ratio 123 = .ok (.i2l, 1) := by decide +kernel
theorem d_MOD_ratio_124 : decode b_MOD_ratio 124 = .ok (.lreturn, 1) := by decide +kernel
