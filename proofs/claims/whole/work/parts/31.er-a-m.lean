abbrev b_ER_answer : ByteArray := prog_1_method_12_code
def y_ER_answer : MethodName := ⟨R_ER, "answer", "(II)I"⟩
def w_ER_answer : List Cond := .code y_ER_answer b_ER_answer 3 (some .int) :: lwG
theorem d_ER_answer_0 : decode b_ER_answer 0 = .ok (.aload_n 0, 1) := by decide +kernel
theorem d_ER_answer_1 : decode b_ER_answer 1 = .ok (.getfield 29, 3) := by decide +kernel
theorem d_ER_answer_4 : decode b_ER_answer 4 = .ok (.invokevirtual 152, 3) := by decide +kernel
theorem d_ER_answer_7 : decode b_ER_answer 7 = .ok (.iload_n 1, 1) := by decide +kernel
theorem d_ER_answer_8 : decode b_ER_answer 8 = .ok (.tableswitch 88 1 10 #[56, 64, 80, 88, 88, 88, 80, 88, 72, 80], 56) := by decide +kernel
theorem d_ER_answer_64 : decode b_ER_answer 64 = .ok (.aload_n 0, 1) := by decide +kernel
theorem d_ER_answer_65 : decode b_ER_answer 65 = .ok (.iload_n 2, 1) := by decide +kernel
theorem d_ER_answer_66 : decode b_ER_answer 66 = .ok (.invokevirtual 155, 3) := by decide +kernel
theorem d_ER_answer_69 : decode b_ER_answer 69 = .ok (.goto 27, 3) := by decide +kernel
theorem d_ER_answer_72 : decode b_ER_answer 72 = .ok (.aload_n 0, 1) := by decide +kernel
theorem d_ER_answer_73 : decode b_ER_answer 73 = .ok (.iload_n 2, 1) := by decide +kernel
theorem d_ER_answer_74 : decode b_ER_answer 74 = .ok (.invokevirtual 158, 3) := by decide +kernel
theorem d_ER_answer_77 : decode b_ER_answer 77 = .ok (.goto 19, 3) := by decide +kernel
theorem d_ER_answer_80 : decode b_ER_answer 80 = .ok (.aload_n 0, 1) := by decide +kernel
theorem d_ER_answer_81 : decode b_ER_answer 81 = .ok (.iload_n 2, 1) := by decide +kernel
theorem d_ER_answer_82 : decode b_ER_answer 82 = .ok (.invokevirtual 161, 3) := by decide +kernel
theorem d_ER_answer_85 : decode b_ER_answer 85 = .ok (.goto 11, 3) := by decide +kernel
theorem d_ER_answer_88 : decode b_ER_answer 88 = .ok (.aload_n 0, 1) := by decide +kernel
theorem d_ER_answer_89 : decode b_ER_answer 89 = .ok (.iload_n 1, 1) := by decide +kernel
theorem d_ER_answer_90 : decode b_ER_answer 90 = .ok (.invokevirtual 164, 3) := by decide +kernel
theorem d_ER_answer_93 : decode b_ER_answer 93 = .ok (.goto 3, 3) := by decide +kernel
theorem d_ER_answer_96 : decode b_ER_answer 96 = .ok (.aload_n 0, 1) := by decide +kernel
theorem d_ER_answer_97 : decode b_ER_answer 97 = .ok (.getfield 29, 3) := by decide +kernel
theorem d_ER_answer_100 : decode b_ER_answer 100 = .ok (.getfield 167, 3) := by decide +kernel
theorem d_ER_answer_103 : decode b_ER_answer 103 = .ok (.ireturn, 1) := by decide +kernel
