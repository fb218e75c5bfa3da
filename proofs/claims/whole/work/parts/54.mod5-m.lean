abbrev b_MOD_answer : ByteArray := prog_7_method_27_code
def y_MOD_answer : MethodName := ⟨R_MOD, "answer", "(II)I"⟩
def w_MOD_answer : List Cond := .code y_MOD_answer b_MOD_answer 4 (some .int) :: lwG
theorem d_MOD_answer_0 : decode b_MOD_answer 0 = .ok (.aload_n 0, 1) := by decide +kernel
theorem d_MOD_answer_1 : decode b_MOD_answer 1 = .ok (.iconst 0, 1) := by decide +kernel
theorem d_MOD_answer_2 : decode b_MOD_answer 2 = .ok (.putfield 62, 3) := by decide +kernel
theorem d_MOD_answer_5 : decode b_MOD_answer 5 = .ok (.aload_n 0, 1) := by decide +kernel
theorem d_MOD_answer_6 : decode b_MOD_answer 6 = .ok (.iconst 0, 1) := by decide +kernel
theorem d_MOD_answer_7 : decode b_MOD_answer 7 = .ok (.putfield 132, 3) := by decide +kernel
theorem d_MOD_answer_10 : decode b_MOD_answer 10 = .ok (.iload_n 1, 1) := by decide +kernel
theorem d_MOD_answer_11 : decode b_MOD_answer 11 = .ok (.iconst 1, 1) := by decide +kernel
theorem d_MOD_answer_12 : decode b_MOD_answer 12 = .ok (.if_icmp .ne 15, 3) := by decide +kernel
theorem d_MOD_answer_15 : decode b_MOD_answer 15 = .ok (.iload_n 2, 1) := by decide +kernel
theorem d_MOD_answer_16 : decode b_MOD_answer 16 = .ok (.iconst 1, 1) := by decide +kernel
theorem d_MOD_answer_17 : decode b_MOD_answer 17 = .ok (.if_icmp .ne 10, 3) := by decide +kernel
theorem d_MOD_answer_20 : decode b_MOD_answer 20 = .ok (.aload_n 0, 1) := by decide +kernel
theorem d_MOD_answer_21 : decode b_MOD_answer 21 = .ok (.invokevirtual 142, 3) := by decide +kernel
theorem d_MOD_answer_24 : decode b_MOD_answer 24 = .ok (.goto 154, 3) := by decide +kernel
theorem d_MOD_answer_27 : decode b_MOD_answer 27 = .ok (.iload_n 1, 1) := by decide +kernel
theorem d_MOD_answer_28 : decode b_MOD_answer 28 = .ok (.iconst 1, 1) := by decide +kernel
theorem d_MOD_answer_29 : decode b_MOD_answer 29 = .ok (.if_icmp .ne 39, 3) := by decide +kernel
theorem d_MOD_answer_32 : decode b_MOD_answer 32 = .ok (.iload_n 2, 1) := by decide +kernel
theorem d_MOD_answer_33 : decode b_MOD_answer 33 = .ok (.bipush 33, 2) := by decide +kernel
theorem d_MOD_answer_35 : decode b_MOD_answer 35 = .ok (.if_icmp .ne 33, 3) := by decide +kernel
theorem d_MOD_answer_38 : decode b_MOD_answer 38 = .ok (.aload_n 0, 1) := by decide +kernel
theorem d_MOD_answer_39 : decode b_MOD_answer 39 = .ok (.bipush 65, 2) := by decide +kernel
theorem d_MOD_answer_41 : decode b_MOD_answer 41 = .ok (.invokevirtual 135, 3) := by decide +kernel
theorem d_MOD_answer_44 : decode b_MOD_answer 44 = .ok (.aload_n 0, 1) := by decide +kernel
theorem d_MOD_answer_45 : decode b_MOD_answer 45 = .ok (.bipush 33, 2) := by decide +kernel
theorem d_MOD_answer_47 : decode b_MOD_answer 47 = .ok (.invokevirtual 135, 3) := by decide +kernel
theorem d_MOD_answer_50 : decode b_MOD_answer 50 = .ok (.aload_n 0, 1) := by decide +kernel
theorem d_MOD_answer_51 : decode b_MOD_answer 51 = .ok (.aload_n 0, 1) := by decide +kernel
theorem d_MOD_answer_52 : decode b_MOD_answer 52 = .ok (.getfield 113, 3) := by decide +kernel
theorem d_MOD_answer_55 : decode b_MOD_answer 55 = .ok (.ldc2_w 145, 3) := by decide +kernel
theorem d_MOD_answer_58 : decode b_MOD_answer 58 = .ok (.ldiv, 1) := by decide +kernel
theorem d_MOD_answer_59 : decode b_MOD_answer 59 = .ok (.invokestatic 125, 3) := by decide +kernel
theorem d_MOD_answer_62 : decode b_MOD_answer 62 = .ok (.invokevirtual 139, 3) := by decide +kernel
theorem d_MOD_answer_65 : decode b_MOD_answer 65 = .ok (.goto 113, 3) := by decide +kernel
theorem d_MOD_answer_68 : decode b_MOD_answer 68 = .ok (.iload_n 1, 1) := by decide +kernel
theorem d_MOD_answer_69 : decode b_MOD_answer 69 = .ok (.iconst 2, 1) := by decide +kernel
theorem d_MOD_answer_70 : decode b_MOD_answer 70 = .ok (.if_icmp .ne 23, 3) := by decide +kernel
theorem d_MOD_answer_73 : decode b_MOD_answer 73 = .ok (.iload_n 2, 1) := by decide +kernel
theorem d_MOD_answer_74 : decode b_MOD_answer 74 = .ok (.i2l, 1) := by decide +kernel
theorem d_MOD_answer_75 : decode b_MOD_answer 75 = .ok (.lconst 0, 1) := by decide +kernel
theorem d_MOD_answer_76 : decode b_MOD_answer 76 = .ok (.ldc2_w 72, 3) := by decide +kernel
theorem d_MOD_answer_79 : decode b_MOD_answer 79 = .ok (.invokestatic 68, 3) := by decide +kernel
theorem d_MOD_answer_82 : decode b_MOD_answer 82 = .ok (.ifCond .eq 11, 3) := by decide +kernel
theorem d_MOD_answer_85 : decode b_MOD_answer 85 = .ok (.aload_n 0, 1) := by decide +kernel
theorem d_MOD_answer_86 : decode b_MOD_answer 86 = .ok (.iload_n 2, 1) := by decide +kernel
theorem d_MOD_answer_87 : decode b_MOD_answer 87 = .ok (.invokevirtual 147, 3) := by decide +kernel
theorem d_MOD_answer_90 : decode b_MOD_answer 90 = .ok (.goto 88, 3) := by decide +kernel
theorem d_MOD_answer_93 : decode b_MOD_answer 93 = .ok (.iload_n 1, 1) := by decide +kernel
theorem d_MOD_answer_94 : decode b_MOD_answer 94 = .ok (.iconst 3, 1) := by decide +kernel
theorem d_MOD_answer_95 : decode b_MOD_answer 95 = .ok (.if_icmp .eq 15, 3) := by decide +kernel
theorem d_MOD_answer_98 : decode b_MOD_answer 98 = .ok (.iload_n 1, 1) := by decide +kernel
theorem d_MOD_answer_99 : decode b_MOD_answer 99 = .ok (.bipush 7, 2) := by decide +kernel
theorem d_MOD_answer_101 : decode b_MOD_answer 101 = .ok (.if_icmp .eq 9, 3) := by decide +kernel
theorem d_MOD_answer_104 : decode b_MOD_answer 104 = .ok (.iload_n 1, 1) := by decide +kernel
theorem d_MOD_answer_105 : decode b_MOD_answer 105 = .ok (.bipush 10, 2) := by decide +kernel
theorem d_MOD_answer_107 : decode b_MOD_answer 107 = .ok (.if_icmp .ne 11, 3) := by decide +kernel
theorem d_MOD_answer_110 : decode b_MOD_answer 110 = .ok (.aload_n 0, 1) := by decide +kernel
theorem d_MOD_answer_111 : decode b_MOD_answer 111 = .ok (.iload_n 1, 1) := by decide +kernel
theorem d_MOD_answer_112 : decode b_MOD_answer 112 = .ok (.invokevirtual 150, 3) := by decide +kernel
theorem d_MOD_answer_115 : decode b_MOD_answer 115 = .ok (.goto 63, 3) := by decide +kernel
theorem d_MOD_answer_118 : decode b_MOD_answer 118 = .ok (.iload_n 1, 1) := by decide +kernel
theorem d_MOD_answer_119 : decode b_MOD_answer 119 = .ok (.bipush 9, 2) := by decide +kernel
theorem d_MOD_answer_121 : decode b_MOD_answer 121 = .ok (.if_icmp .ne 57, 3) := by decide +kernel
theorem d_MOD_answer_124 : decode b_MOD_answer 124 = .ok (.iload_n 2, 1) := by decide +kernel
theorem d_MOD_answer_125 : decode b_MOD_answer 125 = .ok (.bipush 8, 2) := by decide +kernel
theorem d_MOD_answer_127 : decode b_MOD_answer 127 = .ok (.if_icmp .ne 51, 3) := by decide +kernel
theorem d_MOD_answer_130 : decode b_MOD_answer 130 = .ok (.aload_n 0, 1) := by decide +kernel
theorem d_MOD_answer_131 : decode b_MOD_answer 131 = .ok (.bipush 73, 2) := by decide +kernel
theorem d_MOD_answer_133 : decode b_MOD_answer 133 = .ok (.invokevirtual 135, 3) := by decide +kernel
theorem d_MOD_answer_136 : decode b_MOD_answer 136 = .ok (.aload_n 0, 1) := by decide +kernel
theorem d_MOD_answer_137 : decode b_MOD_answer 137 = .ok (.bipush 8, 2) := by decide +kernel
theorem d_MOD_answer_139 : decode b_MOD_answer 139 = .ok (.invokevirtual 135, 3) := by decide +kernel
theorem d_MOD_answer_142 : decode b_MOD_answer 142 = .ok (.iconst 0, 1) := by decide +kernel
theorem d_MOD_answer_143 : decode b_MOD_answer 143 = .ok (.istore_n 3, 1) := by decide +kernel
theorem d_MOD_answer_144 : decode b_MOD_answer 144 = .ok (.iload_n 3, 1) := by decide +kernel
theorem d_MOD_answer_145 : decode b_MOD_answer 145 = .ok (.aload_n 0, 1) := by decide +kernel
theorem d_MOD_answer_146 : decode b_MOD_answer 146 = .ok (.getfield 74, 3) := by decide +kernel
theorem d_MOD_answer_149 : decode b_MOD_answer 149 = .ok (.if_icmp .ge 29, 3) := by decide +kernel
theorem d_MOD_answer_152 : decode b_MOD_answer 152 = .ok (.aload_n 0, 1) := by decide +kernel
theorem d_MOD_answer_153 : decode b_MOD_answer 153 = .ok (.aload_n 0, 1) := by decide +kernel
theorem d_MOD_answer_154 : decode b_MOD_answer 154 = .ok (.getfield 16, 3) := by decide +kernel
theorem d_MOD_answer_157 : decode b_MOD_answer 157 = .ok (.iload_n 3, 1) := by decide +kernel
theorem d_MOD_answer_158 : decode b_MOD_answer 158 = .ok (.iaload, 1) := by decide +kernel
theorem d_MOD_answer_159 : decode b_MOD_answer 159 = .ok (.invokevirtual 135, 3) := by decide +kernel
theorem d_MOD_answer_162 : decode b_MOD_answer 162 = .ok (.aload_n 0, 1) := by decide +kernel
theorem d_MOD_answer_163 : decode b_MOD_answer 163 = .ok (.aload_n 0, 1) := by decide +kernel
theorem d_MOD_answer_164 : decode b_MOD_answer 164 = .ok (.getfield 19, 3) := by decide +kernel
theorem d_MOD_answer_167 : decode b_MOD_answer 167 = .ok (.iload_n 3, 1) := by decide +kernel
theorem d_MOD_answer_168 : decode b_MOD_answer 168 = .ok (.iaload, 1) := by decide +kernel
theorem d_MOD_answer_169 : decode b_MOD_answer 169 = .ok (.invokevirtual 135, 3) := by decide +kernel
theorem d_MOD_answer_172 : decode b_MOD_answer 172 = .ok (.iinc 3 1, 3) := by decide +kernel
theorem d_MOD_answer_175 : decode b_MOD_answer 175 = .ok (.goto (-31), 3) := by decide +kernel
theorem d_MOD_answer_178 : decode b_MOD_answer 178 = .ok (.aload_n 0, 1) := by decide +kernel
theorem d_MOD_answer_179 : decode b_MOD_answer 179 = .ok (.getfield 132, 3) := by decide +kernel
theorem d_MOD_answer_182 : decode b_MOD_answer 182 = .ok (.ireturn, 1) := by decide +kernel
