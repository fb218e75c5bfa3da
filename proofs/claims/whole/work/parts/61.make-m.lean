abbrev b_OCT_init : ByteArray := prog_5_method_1_code
def y_OCT_init : MethodName := ⟨R_OCT, "<init>", "()V"⟩
def w_OCT_init : List Cond := .code y_OCT_init b_OCT_init 1 none :: lwG
theorem d_OCT_init_0 : decode b_OCT_init 0 = .ok (.aload_n 0, 1) := by decide +kernel
theorem d_OCT_init_1 : decode b_OCT_init 1 = .ok (.invokespecial 3, 3) := by decide +kernel
theorem d_OCT_init_4 : decode b_OCT_init 4 = .ok (.aload_n 0, 1) := by decide +kernel
theorem d_OCT_init_5 : decode b_OCT_init 5 = .ok (.bipush 41, 2) := by decide +kernel
theorem d_OCT_init_7 : decode b_OCT_init 7 = .ok (.newarray .byte, 2) := by decide +kernel
theorem d_OCT_init_9 : decode b_OCT_init 9 = .ok (.putfield 11, 3) := by decide +kernel
theorem d_OCT_init_12 : decode b_OCT_init 12 = .ok (.aload_n 0, 1) := by decide +kernel
theorem d_OCT_init_13 : decode b_OCT_init 13 = .ok (.iconst 0, 1) := by decide +kernel
theorem d_OCT_init_14 : decode b_OCT_init 14 = .ok (.putfield 15, 3) := by decide +kernel
theorem d_OCT_init_17 : decode b_OCT_init 17 = .ok (.return_, 1) := by decide +kernel
abbrev b_MOD_init : ByteArray := prog_7_method_1_code
def y_MOD_init : MethodName := ⟨R_MOD, "<init>", "()V"⟩
def w_MOD_init : List Cond := .code y_MOD_init b_MOD_init 1 none :: lwG
theorem d_MOD_init_0 : decode b_MOD_init 0 = .ok (.aload_n 0, 1) := by decide +kernel
theorem d_MOD_init_1 : decode b_MOD_init 1 = .ok (.invokespecial 1, 3) := by decide +kernel
theorem d_MOD_init_4 : decode b_MOD_init 4 = .ok (.aload_n 0, 1) := by decide +kernel
theorem d_MOD_init_5 : decode b_MOD_init 5 = .ok (.bipush 16, 2) := by decide +kernel
theorem d_MOD_init_7 : decode b_MOD_init 7 = .ok (.newarray .int, 2) := by decide +kernel
theorem d_MOD_init_9 : decode b_MOD_init 9 = .ok (.putfield 7, 3) := by decide +kernel
theorem d_MOD_init_12 : decode b_MOD_init 12 = .ok (.aload_n 0, 1) := by decide +kernel
theorem d_MOD_init_13 : decode b_MOD_init 13 = .ok (.bipush 16, 2) := by decide +kernel
theorem d_MOD_init_15 : decode b_MOD_init 15 = .ok (.newarray .int, 2) := by decide +kernel
theorem d_MOD_init_17 : decode b_MOD_init 17 = .ok (.putfield 13, 3) := by decide +kernel
theorem d_MOD_init_20 : decode b_MOD_init 20 = .ok (.aload_n 0, 1) := by decide +kernel
theorem d_MOD_init_21 : decode b_MOD_init 21 = .ok (.bipush 16, 2) := by decide +kernel
theorem d_MOD_init_23 : decode b_MOD_init 23 = .ok (.newarray .int, 2) := by decide +kernel
theorem d_MOD_init_25 : decode b_MOD_init 25 = .ok (.putfield 16, 3) := by decide +kernel
theorem d_MOD_init_28 : decode b_MOD_init 28 = .ok (.aload_n 0, 1) := by decide +kernel
theorem d_MOD_init_29 : decode b_MOD_init 29 = .ok (.bipush 16, 2) := by decide +kernel
theorem d_MOD_init_31 : decode b_MOD_init 31 = .ok (.newarray .int, 2) := by decide +kernel
theorem d_MOD_init_33 : decode b_MOD_init 33 = .ok (.putfield 19, 3) := by decide +kernel
theorem d_MOD_init_36 : decode b_MOD_init 36 = .ok (.aload_n 0, 1) := by decide +kernel
theorem d_MOD_init_37 : decode b_MOD_init 37 = .ok (.bipush 16, 2) := by decide +kernel
theorem d_MOD_init_39 : decode b_MOD_init 39 = .ok (.newarray .int, 2) := by decide +kernel
theorem d_MOD_init_41 : decode b_MOD_init 41 = .ok (.putfield 22, 3) := by decide +kernel
theorem d_MOD_init_44 : decode b_MOD_init 44 = .ok (.aload_n 0, 1) := by decide +kernel
theorem d_MOD_init_45 : decode b_MOD_init 45 = .ok (.bipush 16, 2) := by decide +kernel
theorem d_MOD_init_47 : decode b_MOD_init 47 = .ok (.newarray .boolean, 2) := by decide +kernel
theorem d_MOD_init_49 : decode b_MOD_init 49 = .ok (.putfield 25, 3) := by decide +kernel
theorem d_MOD_init_52 : decode b_MOD_init 52 = .ok (.aload_n 0, 1) := by decide +kernel
theorem d_MOD_init_53 : decode b_MOD_init 53 = .ok (.bipush 20, 2) := by decide +kernel
theorem d_MOD_init_55 : decode b_MOD_init 55 = .ok (.newarray .int, 2) := by decide +kernel
theorem d_MOD_init_57 : decode b_MOD_init 57 = .ok (.putfield 29, 3) := by decide +kernel
theorem d_MOD_init_60 : decode b_MOD_init 60 = .ok (.aload_n 0, 1) := by decide +kernel
theorem d_MOD_init_61 : decode b_MOD_init 61 = .ok (.bipush 20, 2) := by decide +kernel
theorem d_MOD_init_63 : decode b_MOD_init 63 = .ok (.newarray .boolean, 2) := by decide +kernel
theorem d_MOD_init_65 : decode b_MOD_init 65 = .ok (.putfield 32, 3) := by decide +kernel
theorem d_MOD_init_68 : decode b_MOD_init 68 = .ok (.aload_n 0, 1) := by decide +kernel
theorem d_MOD_init_69 : decode b_MOD_init 69 = .ok (.bipush 20, 2) := by decide +kernel
theorem d_MOD_init_71 : decode b_MOD_init 71 = .ok (.newarray .boolean, 2) := by decide +kernel
theorem d_MOD_init_73 : decode b_MOD_init 73 = .ok (.putfield 35, 3) := by decide +kernel
theorem d_MOD_init_76 : decode b_MOD_init 76 = .ok (.aload_n 0, 1) := by decide +kernel
theorem d_MOD_init_77 : decode b_MOD_init 77 = .ok (.bipush 20, 2) := by decide +kernel
theorem d_MOD_init_79 : decode b_MOD_init 79 = .ok (.newarray .boolean, 2) := by decide +kernel
theorem d_MOD_init_81 : decode b_MOD_init 81 = .ok (.putfield 38, 3) := by decide +kernel
theorem d_MOD_init_84 : decode b_MOD_init 84 = .ok (.aload_n 0, 1) := by decide +kernel
theorem d_MOD_init_85 : decode b_MOD_init 85 = .ok (.bipush 20, 2) := by decide +kernel
theorem d_MOD_init_87 : decode b_MOD_init 87 = .ok (.newarray .boolean, 2) := by decide +kernel
theorem d_MOD_init_89 : decode b_MOD_init 89 = .ok (.putfield 41, 3) := by decide +kernel
theorem d_MOD_init_92 : decode b_MOD_init 92 = .ok (.aload_n 0, 1) := by decide +kernel
theorem d_MOD_init_93 : decode b_MOD_init 93 = .ok (.bipush 20, 2) := by decide +kernel
theorem d_MOD_init_95 : decode b_MOD_init 95 = .ok (.newarray .int, 2) := by decide +kernel
theorem d_MOD_init_97 : decode b_MOD_init 97 = .ok (.putfield 44, 3) := by decide +kernel
theorem d_MOD_init_100 : decode b_MOD_init 100 = .ok (.aload_n 0, 1) := by decide +kernel
theorem d_MOD_init_101 : decode b_MOD_init 101 = .ok (.bipush 20, 2) := by decide +kernel
theorem d_MOD_init_103 : decode b_MOD_init 103 = .ok (.newarray .int, 2) := by decide +kernel
theorem d_MOD_init_105 : decode b_MOD_init 105 = .ok (.putfield 47, 3) := by decide +kernel
theorem d_MOD_init_108 : decode b_MOD_init 108 = .ok (.aload_n 0, 1) := by decide +kernel
theorem d_MOD_init_109 : decode b_MOD_init 109 = .ok (.bipush 20, 2) := by decide +kernel
theorem d_MOD_init_111 : decode b_MOD_init 111 = .ok (.newarray .boolean, 2) := by decide +kernel
theorem d_MOD_init_113 : decode b_MOD_init 113 = .ok (.putfield 50, 3) := by decide +kernel
theorem d_MOD_init_116 : decode b_MOD_init 116 = .ok (.aload_n 0, 1) := by decide +kernel
theorem d_MOD_init_117 : decode b_MOD_init 117 = .ok (.bipush 20, 2) := by decide +kernel
theorem d_MOD_init_119 : decode b_MOD_init 119 = .ok (.newarray .int, 2) := by decide +kernel
theorem d_MOD_init_121 : decode b_MOD_init 121 = .ok (.putfield 53, 3) := by decide +kernel
theorem d_MOD_init_124 : decode b_MOD_init 124 = .ok (.aload_n 0, 1) := by decide +kernel
theorem d_MOD_init_125 : decode b_MOD_init 125 = .ok (.bipush 20, 2) := by decide +kernel
theorem d_MOD_init_127 : decode b_MOD_init 127 = .ok (.newarray .int, 2) := by decide +kernel
theorem d_MOD_init_129 : decode b_MOD_init 129 = .ok (.putfield 56, 3) := by decide +kernel
theorem d_MOD_init_132 : decode b_MOD_init 132 = .ok (.aload_n 0, 1) := by decide +kernel
theorem d_MOD_init_133 : decode b_MOD_init 133 = .ok (.bipush 64, 2) := by decide +kernel
theorem d_MOD_init_135 : decode b_MOD_init 135 = .ok (.newarray .int, 2) := by decide +kernel
theorem d_MOD_init_137 : decode b_MOD_init 137 = .ok (.putfield 59, 3) := by decide +kernel
theorem d_MOD_init_140 : decode b_MOD_init 140 = .ok (.return_, 1) := by decide +kernel
