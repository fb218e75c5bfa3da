theorem rm_ok2 {a b mc ms : Nat} (h1 : a + mc ≤ 601024) (h2 : b + ms ≤ 7293034) : a + mc ≤ room_1.cells ∧ b + ms ≤ room_1.slots := ⟨h1, h2⟩
theorem wy_r : y_LAW_ratio.cls ≠ "java/lang/invoke/MethodHandle" ∧ y_LAW_ratio.cls ≠ "java/lang/invoke/VarHandle" ∧ Option.map (fun d => d.parameters.length) (parseMethodDescriptor y_LAW_ratio.desc) = some 4 := by decide +kernel
theorem wy_a : y_LAW_at.cls ≠ "java/lang/invoke/MethodHandle" ∧ y_LAW_at.cls ≠ "java/lang/invoke/VarHandle" ∧ Option.map (fun d => d.parameters.length) (parseMethodDescriptor y_LAW_at.desc) = some 3 := by decide +kernel
