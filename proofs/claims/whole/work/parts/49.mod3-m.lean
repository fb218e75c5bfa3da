abbrev b_MOD_cycle : ByteArray := prog_7_method_11_code
def y_MOD_cycle : MethodName := ⟨R_MOD, "cycle", "(II)I"⟩
def w_MOD_cycle : List Cond := .code y_MOD_cycle b_MOD_cycle 6 (some .int) :: lwG
theorem d_MOD_cycle_0 : decode b_MOD_cycle 0 = .ok (.aload_n 0, 1) := by decide +kernel
theorem d_MOD_cycle_1 : decode b_MOD_cycle 1 = .ok (.iconst 0, 1) := by decide +kernel
theorem d_MOD_cycle_2 : decode b_MOD_cycle 2 = .ok (.putfield 62, 3) := by decide +kernel
theorem d_MOD_cycle_5 : decode b_MOD_cycle 5 = .ok (.iload_n 1, 1) := by decide +kernel
theorem d_MOD_cycle_6 : decode b_MOD_cycle 6 = .ok (.i2l, 1) := by decide +kernel
theorem d_MOD_cycle_7 : decode b_MOD_cycle 7 = .ok (.lconst 0, 1) := by decide +kernel
theorem d_MOD_cycle_8 : decode b_MOD_cycle 8 = .ok (.ldc2_w 87, 3) := by decide +kernel
theorem d_MOD_cycle_11 : decode b_MOD_cycle 11 = .ok (.invokestatic 68, 3) := by decide +kernel
theorem d_MOD_cycle_14 : decode b_MOD_cycle 14 = .ok (.ifCond .eq 15, 3) := by decide +kernel
theorem d_MOD_cycle_17 : decode b_MOD_cycle 17 = .ok (.iload_n 2, 1) := by decide +kernel
theorem d_MOD_cycle_18 : decode b_MOD_cycle 18 = .ok (.i2l, 1) := by decide +kernel
theorem d_MOD_cycle_19 : decode b_MOD_cycle 19 = .ok (.lconst 0, 1) := by decide +kernel
theorem d_MOD_cycle_20 : decode b_MOD_cycle 20 = .ok (.ldc2_w 89, 3) := by decide +kernel
theorem d_MOD_cycle_23 : decode b_MOD_cycle 23 = .ok (.invokestatic 68, 3) := by decide +kernel
theorem d_MOD_cycle_26 : decode b_MOD_cycle 26 = .ok (.ifCond .ne 6, 3) := by decide +kernel
theorem d_MOD_cycle_29 : decode b_MOD_cycle 29 = .ok (.bipush (-2), 2) := by decide +kernel
theorem d_MOD_cycle_31 : decode b_MOD_cycle 31 = .ok (.ireturn, 1) := by decide +kernel
theorem d_MOD_cycle_32 : decode b_MOD_cycle 32 = .ok (.aload_n 0, 1) := by decide +kernel
theorem d_MOD_cycle_33 : decode b_MOD_cycle 33 = .ok (.dup, 1) := by decide +kernel
theorem d_MOD_cycle_34 : decode b_MOD_cycle 34 = .ok (.getfield 81, 3) := by decide +kernel
theorem d_MOD_cycle_37 : decode b_MOD_cycle 37 = .ok (.iconst 1, 1) := by decide +kernel
theorem d_MOD_cycle_38 : decode b_MOD_cycle 38 = .ok (.iadd, 1) := by decide +kernel
theorem d_MOD_cycle_39 : decode b_MOD_cycle 39 = .ok (.putfield 81, 3) := by decide +kernel
theorem d_MOD_cycle_42 : decode b_MOD_cycle 42 = .ok (.iconst 0, 1) := by decide +kernel
theorem d_MOD_cycle_43 : decode b_MOD_cycle 43 = .ok (.istore_n 3, 1) := by decide +kernel
theorem d_MOD_cycle_44 : decode b_MOD_cycle 44 = .ok (.iconst 0, 1) := by decide +kernel
theorem d_MOD_cycle_45 : decode b_MOD_cycle 45 = .ok (.istore 4, 2) := by decide +kernel
theorem d_MOD_cycle_47 : decode b_MOD_cycle 47 = .ok (.iload 4, 2) := by decide +kernel
theorem d_MOD_cycle_49 : decode b_MOD_cycle 49 = .ok (.aload_n 0, 1) := by decide +kernel
theorem d_MOD_cycle_50 : decode b_MOD_cycle 50 = .ok (.getfield 74, 3) := by decide +kernel
theorem d_MOD_cycle_53 : decode b_MOD_cycle 53 = .ok (.if_icmp .ge 74, 3) := by decide +kernel
theorem d_MOD_cycle_56 : decode b_MOD_cycle 56 = .ok (.iload_n 2, 1) := by decide +kernel
theorem d_MOD_cycle_57 : decode b_MOD_cycle 57 = .ok (.iload 4, 2) := by decide +kernel
theorem d_MOD_cycle_59 : decode b_MOD_cycle 59 = .ok (.ishr, 1) := by decide +kernel
theorem d_MOD_cycle_60 : decode b_MOD_cycle 60 = .ok (.iconst 1, 1) := by decide +kernel
theorem d_MOD_cycle_61 : decode b_MOD_cycle 61 = .ok (.iand, 1) := by decide +kernel
theorem d_MOD_cycle_62 : decode b_MOD_cycle 62 = .ok (.iconst 1, 1) := by decide +kernel
theorem d_MOD_cycle_63 : decode b_MOD_cycle 63 = .ok (.if_icmp .ne 7, 3) := by decide +kernel
theorem d_MOD_cycle_66 : decode b_MOD_cycle 66 = .ok (.iconst 1, 1) := by decide +kernel
theorem d_MOD_cycle_67 : decode b_MOD_cycle 67 = .ok (.goto 4, 3) := by decide +kernel
theorem d_MOD_cycle_70 : decode b_MOD_cycle 70 = .ok (.iconst 0, 1) := by decide +kernel
theorem d_MOD_cycle_71 : decode b_MOD_cycle 71 = .ok (.istore 5, 2) := by decide +kernel
theorem d_MOD_cycle_73 : decode b_MOD_cycle 73 = .ok (.aload_n 0, 1) := by decide +kernel
theorem d_MOD_cycle_74 : decode b_MOD_cycle 74 = .ok (.getfield 25, 3) := by decide +kernel
theorem d_MOD_cycle_77 : decode b_MOD_cycle 77 = .ok (.iload 4, 2) := by decide +kernel
theorem d_MOD_cycle_79 : decode b_MOD_cycle 79 = .ok (.aload_n 0, 1) := by decide +kernel
theorem d_MOD_cycle_80 : decode b_MOD_cycle 80 = .ok (.getfield 25, 3) := by decide +kernel
theorem d_MOD_cycle_83 : decode b_MOD_cycle 83 = .ok (.iload 4, 2) := by decide +kernel
theorem d_MOD_cycle_85 : decode b_MOD_cycle 85 = .ok (.baload, 1) := by decide +kernel
theorem d_MOD_cycle_86 : decode b_MOD_cycle 86 = .ok (.ifCond .ne 8, 3) := by decide +kernel
theorem d_MOD_cycle_89 : decode b_MOD_cycle 89 = .ok (.iload 5, 2) := by decide +kernel
theorem d_MOD_cycle_91 : decode b_MOD_cycle 91 = .ok (.ifCond .eq 7, 3) := by decide +kernel
theorem d_MOD_cycle_94 : decode b_MOD_cycle 94 = .ok (.iconst 1, 1) := by decide +kernel
theorem d_MOD_cycle_95 : decode b_MOD_cycle 95 = .ok (.goto 4, 3) := by decide +kernel
theorem d_MOD_cycle_98 : decode b_MOD_cycle 98 = .ok (.iconst 0, 1) := by decide +kernel
theorem d_MOD_cycle_99 : decode b_MOD_cycle 99 = .ok (.bastore, 1) := by decide +kernel
theorem d_MOD_cycle_100 : decode b_MOD_cycle 100 = .ok (.aload_n 0, 1) := by decide +kernel
theorem d_MOD_cycle_101 : decode b_MOD_cycle 101 = .ok (.iload 4, 2) := by decide +kernel
theorem d_MOD_cycle_103 : decode b_MOD_cycle 103 = .ok (.iload_n 1, 1) := by decide +kernel
theorem d_MOD_cycle_104 : decode b_MOD_cycle 104 = .ok (.invokevirtual 91, 3) := by decide +kernel
theorem d_MOD_cycle_107 : decode b_MOD_cycle 107 = .ok (.ifCond .eq 14, 3) := by decide +kernel
theorem d_MOD_cycle_110 : decode b_MOD_cycle 110 = .ok (.aload_n 0, 1) := by decide +kernel
theorem d_MOD_cycle_111 : decode b_MOD_cycle 111 = .ok (.iload 4, 2) := by decide +kernel
theorem d_MOD_cycle_113 : decode b_MOD_cycle 113 = .ok (.iload 5, 2) := by decide +kernel
theorem d_MOD_cycle_115 : decode b_MOD_cycle 115 = .ok (.invokevirtual 94, 3) := by decide +kernel
theorem d_MOD_cycle_118 : decode b_MOD_cycle 118 = .ok (.iinc 3 1, 3) := by decide +kernel
theorem d_MOD_cycle_121 : decode b_MOD_cycle 121 = .ok (.iinc 4 1, 3) := by decide +kernel
theorem d_MOD_cycle_124 : decode b_MOD_cycle 124 = .ok (.goto (-77), 3) := by decide +kernel
theorem d_MOD_cycle_127 : decode b_MOD_cycle 127 = .ok (.iconst 0, 1) := by decide +kernel
theorem d_MOD_cycle_128 : decode b_MOD_cycle 128 = .ok (.istore 4, 2) := by decide +kernel
theorem d_MOD_cycle_130 : decode b_MOD_cycle 130 = .ok (.iload 4, 2) := by decide +kernel
theorem d_MOD_cycle_132 : decode b_MOD_cycle 132 = .ok (.aload_n 0, 1) := by decide +kernel
theorem d_MOD_cycle_133 : decode b_MOD_cycle 133 = .ok (.getfield 84, 3) := by decide +kernel
theorem d_MOD_cycle_136 : decode b_MOD_cycle 136 = .ok (.if_icmp .ge 36, 3) := by decide +kernel
theorem d_MOD_cycle_139 : decode b_MOD_cycle 139 = .ok (.aload_n 0, 1) := by decide +kernel
theorem d_MOD_cycle_140 : decode b_MOD_cycle 140 = .ok (.getfield 32, 3) := by decide +kernel
theorem d_MOD_cycle_143 : decode b_MOD_cycle 143 = .ok (.iload 4, 2) := by decide +kernel
theorem d_MOD_cycle_145 : decode b_MOD_cycle 145 = .ok (.baload, 1) := by decide +kernel
theorem d_MOD_cycle_146 : decode b_MOD_cycle 146 = .ok (.ifCond .eq 13, 3) := by decide +kernel
theorem d_MOD_cycle_149 : decode b_MOD_cycle 149 = .ok (.aload_n 0, 1) := by decide +kernel
theorem d_MOD_cycle_150 : decode b_MOD_cycle 150 = .ok (.iload 4, 2) := by decide +kernel
theorem d_MOD_cycle_152 : decode b_MOD_cycle 152 = .ok (.iload_n 1, 1) := by decide +kernel
theorem d_MOD_cycle_153 : decode b_MOD_cycle 153 = .ok (.invokevirtual 98, 3) := by decide +kernel
theorem d_MOD_cycle_156 : decode b_MOD_cycle 156 = .ok (.goto 10, 3) := by decide +kernel
theorem d_MOD_cycle_159 : decode b_MOD_cycle 159 = .ok (.aload_n 0, 1) := by decide +kernel
theorem d_MOD_cycle_160 : decode b_MOD_cycle 160 = .ok (.iload 4, 2) := by decide +kernel
theorem d_MOD_cycle_162 : decode b_MOD_cycle 162 = .ok (.iload_n 1, 1) := by decide +kernel
theorem d_MOD_cycle_163 : decode b_MOD_cycle 163 = .ok (.invokevirtual 102, 3) := by decide +kernel
theorem d_MOD_cycle_166 : decode b_MOD_cycle 166 = .ok (.iinc 4 1, 3) := by decide +kernel
theorem d_MOD_cycle_169 : decode b_MOD_cycle 169 = .ok (.goto (-39), 3) := by decide +kernel
theorem d_MOD_cycle_172 : decode b_MOD_cycle 172 = .ok (.aload_n 0, 1) := by decide +kernel
theorem d_MOD_cycle_173 : decode b_MOD_cycle 173 = .ok (.invokevirtual 105, 3) := by decide +kernel
theorem d_MOD_cycle_176 : decode b_MOD_cycle 176 = .ok (.ifCond .le 7, 3) := by decide +kernel
theorem d_MOD_cycle_179 : decode b_MOD_cycle 179 = .ok (.iconst 1, 1) := by decide +kernel
theorem d_MOD_cycle_180 : decode b_MOD_cycle 180 = .ok (.goto 4, 3) := by decide +kernel
theorem d_MOD_cycle_183 : decode b_MOD_cycle 183 = .ok (.iconst 0, 1) := by decide +kernel
theorem d_MOD_cycle_184 : decode b_MOD_cycle 184 = .ok (.istore 4, 2) := by decide +kernel
theorem d_MOD_cycle_186 : decode b_MOD_cycle 186 = .ok (.iload 4, 2) := by decide +kernel
theorem d_MOD_cycle_188 : decode b_MOD_cycle 188 = .ok (.ifCond .eq 20, 3) := by decide +kernel
theorem d_MOD_cycle_191 : decode b_MOD_cycle 191 = .ok (.aload_n 0, 1) := by decide +kernel
theorem d_MOD_cycle_192 : decode b_MOD_cycle 192 = .ok (.getfield 109, 3) := by decide +kernel
theorem d_MOD_cycle_195 : decode b_MOD_cycle 195 = .ok (.ifCond .ne 13, 3) := by decide +kernel
theorem d_MOD_cycle_198 : decode b_MOD_cycle 198 = .ok (.aload_n 0, 1) := by decide +kernel
theorem d_MOD_cycle_199 : decode b_MOD_cycle 199 = .ok (.lconst 0, 1) := by decide +kernel
theorem d_MOD_cycle_200 : decode b_MOD_cycle 200 = .ok (.putfield 113, 3) := by decide +kernel
theorem d_MOD_cycle_203 : decode b_MOD_cycle 203 = .ok (.aload_n 0, 1) := by decide +kernel
theorem d_MOD_cycle_204 : decode b_MOD_cycle 204 = .ok (.lconst 0, 1) := by decide +kernel
theorem d_MOD_cycle_205 : decode b_MOD_cycle 205 = .ok (.putfield 117, 3) := by decide +kernel
theorem d_MOD_cycle_208 : decode b_MOD_cycle 208 = .ok (.aload_n 0, 1) := by decide +kernel
theorem d_MOD_cycle_209 : decode b_MOD_cycle 209 = .ok (.iload 4, 2) := by decide +kernel
theorem d_MOD_cycle_211 : decode b_MOD_cycle 211 = .ok (.putfield 109, 3) := by decide +kernel
theorem d_MOD_cycle_214 : decode b_MOD_cycle 214 = .ok (.iload_n 3, 1) := by decide +kernel
theorem d_MOD_cycle_215 : decode b_MOD_cycle 215 = .ok (.ireturn, 1) := by decide +kernel
