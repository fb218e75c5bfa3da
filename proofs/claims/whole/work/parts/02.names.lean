def R_ER : String := "EmissionRows"
def R_MON : String := "EmissionRows$Monitor"
def R_COD : String := "EmissionRows$Code"
def R_LAMP : String := "EmissionRows$Lamp"
def R_OCT : String := "EmissionRows$Octets"
def R_MOD : String := "EmissionRowsModel"
def R_LAW : String := "EmissionRowsLaw"
def R_AL : String := "java/util/ArrayList"
def R_ABL : String := "java/util/AbstractList"
def R_ABC : String := "java/util/AbstractCollection"
def R_OBJS : String := "java/util/Objects"
def R_PRE : String := "jdk/internal/util/Preconditions"
def R_ASUP : String := "jdk/internal/util/ArraysSupport"
def R_ARRS : String := "java/util/Arrays"
def R_MATH : String := "java/lang/Math"
def R_SYS : String := "java/lang/System"
def R_OBJ : String := "java/lang/Object"
def R_THR : String := "java/lang/Throwable"
def R_EXC : String := "java/lang/Exception"
def R_RTE : String := "java/lang/RuntimeException"
def R_ARE : String := "java/lang/ArithmeticException"
def R_IOB : String := "java/lang/IndexOutOfBoundsException"
def R_STR : String := "java/lang/String"
def T_ER : u_T := fun k => match k with
  | 0 => ("EmissionRows", "monitors", "Ljava/util/ArrayList;", true)
  | 1 => ("EmissionRows", "codes", "Ljava/util/ArrayList;", true)
  | 2 => ("EmissionRows", "warning", "LEmissionRows$Lamp;", true)
  | 3 => ("EmissionRows", "told", "LEmissionRows$Octets;", true)
  | _ => ("EmissionRows", "cycles", "I", false)
def t_ER : Nat → FieldType := fun k => match k with
  | 0 => .object "java/util/ArrayList"
  | 1 => .object "java/util/ArrayList"
  | 2 => .object "EmissionRows$Lamp"
  | 3 => .object "EmissionRows$Octets"
  | _ => .int
theorem nok_ER : ∀ a, a < 5 → ∀ b, b < 5 → a ≠ b → (T_ER a).2.1 ≠ (T_ER b).2.1 := by decide +kernel
theorem tok_ER : ∀ k, k < 5 → parseFieldDescriptor (T_ER k).2.2.1 = some (t_ER k) := by decide +kernel
def T_AL : u_T := fun k => match k with
  | 0 => ("java/util/AbstractList", "modCount", "I", false)
  | 1 => ("java/util/ArrayList", "elementData", "[Ljava/lang/Object;", false)
  | _ => ("java/util/ArrayList", "size", "I", false)
def t_AL : Nat → FieldType := fun k => match k with
  | 0 => .int
  | 1 => .array (.object "java/lang/Object")
  | _ => .int
theorem nok_AL : ∀ a, a < 3 → ∀ b, b < 3 → a ≠ b → (T_AL a).2.1 ≠ (T_AL b).2.1 := by decide +kernel
theorem tok_AL : ∀ k, k < 3 → parseFieldDescriptor (T_AL k).2.2.1 = some (t_AL k) := by decide +kernel
def T_LAMP : u_T := fun k => match k with
  | 0 => ("EmissionRows$Lamp", "lit", "Z", false)
  | 1 => ("EmissionRows$Lamp", "metres", "J", false)
  | _ => ("EmissionRows$Lamp", "minutes", "J", false)
def t_LAMP : Nat → FieldType := fun k => match k with
  | 0 => .boolean
  | 1 => .long
  | _ => .long
theorem nok_LAMP : ∀ a, a < 3 → ∀ b, b < 3 → a ≠ b → (T_LAMP a).2.1 ≠ (T_LAMP b).2.1 := by decide +kernel
theorem tok_LAMP : ∀ k, k < 3 → parseFieldDescriptor (T_LAMP k).2.2.1 = some (t_LAMP k) := by decide +kernel
def T_OCT : u_T := fun k => match k with
  | 0 => ("EmissionRows$Octets", "octets", "[B", true)
  | _ => ("EmissionRows$Octets", "length", "I", false)
def t_OCT : Nat → FieldType := fun k => match k with
  | 0 => .array .byte
  | _ => .int
theorem nok_OCT : ∀ a, a < 2 → ∀ b, b < 2 → a ≠ b → (T_OCT a).2.1 ≠ (T_OCT b).2.1 := by decide +kernel
theorem tok_OCT : ∀ k, k < 2 → parseFieldDescriptor (T_OCT k).2.2.1 = some (t_OCT k) := by decide +kernel
def T_MON : u_T := fun k => match k with
  | 0 => ("EmissionRows$Monitor", "kind", "I", true)
  | 1 => ("EmissionRows$Monitor", "condition", "I", true)
  | 2 => ("EmissionRows$Monitor", "runs", "I", false)
  | 3 => ("EmissionRows$Monitor", "chances", "I", false)
  | 4 => ("EmissionRows$Monitor", "cyclesHeld", "I", false)
  | _ => ("EmissionRows$Monitor", "tested", "Z", false)
def t_MON : Nat → FieldType := fun k => match k with
  | 0 => .int
  | 1 => .int
  | 2 => .int
  | 3 => .int
  | 4 => .int
  | _ => .boolean
theorem nok_MON : ∀ a, a < 6 → ∀ b, b < 6 → a ≠ b → (T_MON a).2.1 ≠ (T_MON b).2.1 := by decide +kernel
theorem tok_MON : ∀ k, k < 6 → parseFieldDescriptor (T_MON k).2.2.1 = some (t_MON k) := by decide +kernel
def T_COD : u_T := fun k => match k with
  | 0 => ("EmissionRows$Code", "number", "I", true)
  | 1 => ("EmissionRows$Code", "on", "Z", false)
  | 2 => ("EmissionRows$Code", "pending", "Z", false)
  | 3 => ("EmissionRows$Code", "confirmed", "Z", false)
  | 4 => ("EmissionRows$Code", "lasting", "Z", false)
  | 5 => ("EmissionRows$Code", "offInARow", "I", false)
  | 6 => ("EmissionRows$Code", "offWithConditionZero", "I", false)
  | 7 => ("EmissionRows$Code", "frozenCycle", "I", false)
  | _ => ("EmissionRows$Code", "frozenConditions", "I", false)
def t_COD : Nat → FieldType := fun k => match k with
  | 0 => .int
  | 1 => .boolean
  | 2 => .boolean
  | 3 => .boolean
  | 4 => .boolean
  | 5 => .int
  | 6 => .int
  | 7 => .int
  | _ => .int
theorem nok_COD : ∀ a, a < 9 → ∀ b, b < 9 → a ≠ b → (T_COD a).2.1 ≠ (T_COD b).2.1 := by decide +kernel
theorem tok_COD : ∀ k, k < 9 → parseFieldDescriptor (T_COD k).2.2.1 = some (t_COD k) := by decide +kernel
def T_MOD : u_T := fun k => match k with
  | 0 => ("EmissionRowsModel", "code", "I", false)
  | 1 => ("EmissionRowsModel", "monitors", "I", false)
  | 2 => ("EmissionRowsModel", "kind", "[I", true)
  | 3 => ("EmissionRowsModel", "condition", "[I", true)
  | 4 => ("EmissionRowsModel", "runs", "[I", true)
  | 5 => ("EmissionRowsModel", "chances", "[I", true)
  | 6 => ("EmissionRowsModel", "held", "[I", true)
  | 7 => ("EmissionRowsModel", "ready", "[Z", true)
  | 8 => ("EmissionRowsModel", "codes", "I", false)
  | 9 => ("EmissionRowsModel", "number", "[I", true)
  | 10 => ("EmissionRowsModel", "on", "[Z", true)
  | 11 => ("EmissionRowsModel", "pending", "[Z", true)
  | 12 => ("EmissionRowsModel", "confirmed", "[Z", true)
  | 13 => ("EmissionRowsModel", "permanent", "[Z", true)
  | 14 => ("EmissionRowsModel", "off", "[I", true)
  | 15 => ("EmissionRowsModel", "passed", "[I", true)
  | 16 => ("EmissionRowsModel", "frozen", "[Z", true)
  | 17 => ("EmissionRowsModel", "frozenCycle", "[I", true)
  | 18 => ("EmissionRowsModel", "frozenConditions", "[I", true)
  | 19 => ("EmissionRowsModel", "cycles", "I", false)
  | 20 => ("EmissionRowsModel", "lit", "Z", false)
  | 21 => ("EmissionRowsModel", "metresLit", "J", false)
  | 22 => ("EmissionRowsModel", "minutesLit", "J", false)
  | 23 => ("EmissionRowsModel", "size", "I", false)
  | _ => ("EmissionRowsModel", "row", "[I", true)
def t_MOD : Nat → FieldType := fun k => match k with
  | 0 => .int
  | 1 => .int
  | 2 => .array .int
  | 3 => .array .int
  | 4 => .array .int
  | 5 => .array .int
  | 6 => .array .int
  | 7 => .array .boolean
  | 8 => .int
  | 9 => .array .int
  | 10 => .array .boolean
  | 11 => .array .boolean
  | 12 => .array .boolean
  | 13 => .array .boolean
  | 14 => .array .int
  | 15 => .array .int
  | 16 => .array .boolean
  | 17 => .array .int
  | 18 => .array .int
  | 19 => .int
  | 20 => .boolean
  | 21 => .long
  | 22 => .long
  | 23 => .int
  | _ => .array .int
theorem nok_MOD : ∀ a, a < 25 → ∀ b, b < 25 → a ≠ b → (T_MOD a).2.1 ≠ (T_MOD b).2.1 := by decide +kernel
theorem tok_MOD : ∀ k, k < 25 → parseFieldDescriptor (T_MOD k).2.2.1 = some (t_MOD k) := by decide +kernel
abbrev vwCl : List vw_C := [(R_ER, T_ER, 5), (R_AL, T_AL, 3), (R_LAMP, T_LAMP, 3), (R_OCT, T_OCT, 2), (R_MON, T_MON, 6), (R_COD, T_COD, 9), (R_MOD, T_MOD, 25)]
def lwG : List Cond := lw_tbl.filter goodWord
theorem in_ER : ∀ w ∈ u_ws R_ER T_ER 5, w ∈ lwG := by decide +kernel
theorem in_AL : ∀ w ∈ u_ws R_AL T_AL 3, w ∈ lwG := by decide +kernel
theorem in_LAMP : ∀ w ∈ u_ws R_LAMP T_LAMP 3, w ∈ lwG := by decide +kernel
theorem in_OCT : ∀ w ∈ u_ws R_OCT T_OCT 2, w ∈ lwG := by decide +kernel
theorem in_MON : ∀ w ∈ u_ws R_MON T_MON 6, w ∈ lwG := by decide +kernel
theorem in_COD : ∀ w ∈ u_ws R_COD T_COD 9, w ∈ lwG := by decide +kernel
theorem in_MOD : ∀ w ∈ u_ws R_MOD T_MOD 25, w ∈ lwG := by decide +kernel
theorem gi_all {a b : Cond} (h : b ∈ lwG) : GoodIn (a :: lwG) (b :: lwG) := by
  intro w hw
  rcases List.mem_cons.mp hw with rfl | h9
  · exact ⟨List.mem_cons_of_mem _ h, good_of_word (List.mem_filter.mp h).2⟩
  · exact ⟨List.mem_cons_of_mem _ h9, good_of_word (List.mem_filter.mp h9).2⟩
def nwL : List Cond := [.methodLinkNest "EmissionRows" 21 ⟨"EmissionRows$Lamp", "<init>", "()V"⟩ "EmissionRows", .fieldLinkNest "EmissionRows" 214 "EmissionRows$Lamp" "lit" "Z" "EmissionRows", .fieldLinkNest "EmissionRows" 220 "EmissionRows$Lamp" "metres" "J" "EmissionRows", .fieldLinkNest "EmissionRows" 134 "EmissionRows$Lamp" "minutes" "J" "EmissionRows", .methodLinkNest "EmissionRows" 28 ⟨"EmissionRows$Octets", "<init>", "()V"⟩ "EmissionRows", .fieldLinkNest "EmissionRows" 178 "EmissionRows$Octets" "octets" "[B" "EmissionRows", .fieldLinkNest "EmissionRows" 167 "EmissionRows$Octets" "length" "I" "EmissionRows", .methodLinkNest "EmissionRows" 47 ⟨"EmissionRows$Monitor", "<init>", "(II)V"⟩ "EmissionRows", .fieldLinkNest "EmissionRows" 202 "EmissionRows$Monitor" "kind" "I" "EmissionRows", .fieldLinkNest "EmissionRows" 77 "EmissionRows$Monitor" "runs" "I" "EmissionRows", .fieldLinkNest "EmissionRows" 80 "EmissionRows$Monitor" "chances" "I" "EmissionRows", .fieldLinkNest "EmissionRows" 122 "EmissionRows$Monitor" "tested" "Z" "EmissionRows", .methodLinkNest "EmissionRows" 189 ⟨"EmissionRows$Monitor", "endCycle", "(IZ)Z"⟩ "EmissionRows", .methodLinkNest "EmissionRows$Monitor" 39 ⟨"EmissionRows", "isBitSet", "(II)Z"⟩ "EmissionRows", .methodLinkNest "EmissionRows" 193 ⟨"EmissionRows$Code", "endCycleOn", "(II)V"⟩ "EmissionRows", .methodLinkNest "EmissionRows" 196 ⟨"EmissionRows$Code", "endCycleOff", "(I)V"⟩ "EmissionRows", .methodLinkNest "EmissionRows$Code" 40 ⟨"EmissionRows", "isBitSet", "(II)Z"⟩ "EmissionRows", .methodLinkNest "EmissionRows" 66 ⟨"EmissionRows$Lamp", "follow", "(Z)V"⟩ "EmissionRows", .methodLinkNest "EmissionRows" 110 ⟨"EmissionRows$Code", "<init>", "(IZ)V"⟩ "EmissionRows", .fieldLinkNest "EmissionRows" 116 "EmissionRows$Code" "number" "I" "EmissionRows", .fieldLinkNest "EmissionRows" 104 "EmissionRows$Code" "on" "Z" "EmissionRows", .fieldLinkNest "EmissionRows" 199 "EmissionRows$Code" "confirmed" "Z" "EmissionRows", .fieldLinkNest "EmissionRows" 113 "EmissionRows$Code" "lasting" "Z" "EmissionRows", .fieldLinkNest "EmissionRows" 146 "EmissionRows$Code" "frozenCycle" "I" "EmissionRows", .fieldLinkNest "EmissionRows" 149 "EmissionRows$Code" "frozenConditions" "I" "EmissionRows", .methodLinkNest "EmissionRows" 119 ⟨"EmissionRows$Code", "forgetFault", "()V"⟩ "EmissionRows", .methodLinkNest "EmissionRows" 125 ⟨"EmissionRows$Lamp", "reset", "()V"⟩ "EmissionRows", .methodLinkNest "EmissionRows" 130 ⟨"EmissionRows$Lamp", "goOn", "(JJ)Z"⟩ "EmissionRows", .methodLinkNest "EmissionRows" 205 ⟨"EmissionRows$Code", "hasFrozenRow", "()Z"⟩ "EmissionRows", .methodLinkNest "EmissionRows" 152 ⟨"EmissionRows$Octets", "drop", "()V"⟩ "EmissionRows", .methodLinkNest "EmissionRows" 209 ⟨"EmissionRows$Octets", "begin", "(I)V"⟩ "EmissionRows", .methodLinkNest "EmissionRows" 212 ⟨"EmissionRows$Octets", "add", "(I)V"⟩ "EmissionRows", .methodLinkNest "EmissionRows" 225 ⟨"EmissionRows$Octets", "addTwo", "(I)V"⟩ "EmissionRows", .methodLinkNest "EmissionRows" 228 ⟨"EmissionRows$Code", "isToldIn", "(I)Z"⟩ "EmissionRows", .methodLinkNest "EmissionRows" 182 ⟨"EmissionRows$Octets", "total", "()I"⟩ "EmissionRows", .castable "java/lang/ArithmeticException" "java/lang/ArithmeticException", .methodLinkNest "EmissionRows" 170 ⟨"EmissionRows$Octets", "has", "(I)Z"⟩ "EmissionRows", .castable "java/lang/IndexOutOfBoundsException" "java/lang/IndexOutOfBoundsException", .castable "EmissionRows$Monitor" "EmissionRows$Monitor", .castable "EmissionRows$Code" "EmissionRows$Code", .castable "EmissionRows" "java/lang/Object", .castable "EmissionRows$Lamp" "java/lang/Object", .castable "EmissionRows$Octets" "java/lang/Object", .castable "EmissionRowsModel" "java/lang/Object", .castable "EmissionRows$Monitor" "java/lang/Object", .castable "EmissionRows$Code" "java/lang/Object", .castable "java/lang/String" "java/lang/Object"]
def gT (G : va_G × (Nat → ClassId)) : List (ClassId × FieldType) := [(G.2 0, .object "java/lang/Object"), (G.2 1, .byte), (G.2 2, .int), (G.2 3, .boolean), (G.2 4, .long)]
theorem nw_101 : (.methodLinkNest "EmissionRows" 21 ⟨"EmissionRows$Lamp", "<init>", "()V"⟩ "EmissionRows" : Cond) ∈ nwL := List.mem_of_getElem? (i := 0) rfl
theorem nw_106 : (.fieldLinkNest "EmissionRows" 214 "EmissionRows$Lamp" "lit" "Z" "EmissionRows" : Cond) ∈ nwL := List.mem_of_getElem? (i := 1) rfl
theorem nw_108 : (.fieldLinkNest "EmissionRows" 220 "EmissionRows$Lamp" "metres" "J" "EmissionRows" : Cond) ∈ nwL := List.mem_of_getElem? (i := 2) rfl
theorem nw_110 : (.fieldLinkNest "EmissionRows" 134 "EmissionRows$Lamp" "minutes" "J" "EmissionRows" : Cond) ∈ nwL := List.mem_of_getElem? (i := 3) rfl
theorem nw_120 : (.methodLinkNest "EmissionRows" 28 ⟨"EmissionRows$Octets", "<init>", "()V"⟩ "EmissionRows" : Cond) ∈ nwL := List.mem_of_getElem? (i := 4) rfl
theorem nw_125 : (.fieldLinkNest "EmissionRows" 178 "EmissionRows$Octets" "octets" "[B" "EmissionRows" : Cond) ∈ nwL := List.mem_of_getElem? (i := 5) rfl
theorem nw_127 : (.fieldLinkNest "EmissionRows" 167 "EmissionRows$Octets" "length" "I" "EmissionRows" : Cond) ∈ nwL := List.mem_of_getElem? (i := 6) rfl
theorem nw_163 : (.methodLinkNest "EmissionRows" 47 ⟨"EmissionRows$Monitor", "<init>", "(II)V"⟩ "EmissionRows" : Cond) ∈ nwL := List.mem_of_getElem? (i := 7) rfl
theorem nw_168 : (.fieldLinkNest "EmissionRows" 202 "EmissionRows$Monitor" "kind" "I" "EmissionRows" : Cond) ∈ nwL := List.mem_of_getElem? (i := 8) rfl
theorem nw_171 : (.fieldLinkNest "EmissionRows" 77 "EmissionRows$Monitor" "runs" "I" "EmissionRows" : Cond) ∈ nwL := List.mem_of_getElem? (i := 9) rfl
theorem nw_173 : (.fieldLinkNest "EmissionRows" 80 "EmissionRows$Monitor" "chances" "I" "EmissionRows" : Cond) ∈ nwL := List.mem_of_getElem? (i := 10) rfl
theorem nw_176 : (.fieldLinkNest "EmissionRows" 122 "EmissionRows$Monitor" "tested" "Z" "EmissionRows" : Cond) ∈ nwL := List.mem_of_getElem? (i := 11) rfl
theorem nw_272 : (.methodLinkNest "EmissionRows" 189 ⟨"EmissionRows$Monitor", "endCycle", "(IZ)Z"⟩ "EmissionRows" : Cond) ∈ nwL := List.mem_of_getElem? (i := 12) rfl
theorem nw_280 : (.methodLinkNest "EmissionRows$Monitor" 39 ⟨"EmissionRows", "isBitSet", "(II)Z"⟩ "EmissionRows" : Cond) ∈ nwL := List.mem_of_getElem? (i := 13) rfl
theorem nw_290 : (.methodLinkNest "EmissionRows" 193 ⟨"EmissionRows$Code", "endCycleOn", "(II)V"⟩ "EmissionRows" : Cond) ∈ nwL := List.mem_of_getElem? (i := 14) rfl
theorem nw_295 : (.methodLinkNest "EmissionRows" 196 ⟨"EmissionRows$Code", "endCycleOff", "(I)V"⟩ "EmissionRows" : Cond) ∈ nwL := List.mem_of_getElem? (i := 15) rfl
theorem nw_299 : (.methodLinkNest "EmissionRows$Code" 40 ⟨"EmissionRows", "isBitSet", "(II)Z"⟩ "EmissionRows" : Cond) ∈ nwL := List.mem_of_getElem? (i := 16) rfl
theorem nw_308 : (.methodLinkNest "EmissionRows" 66 ⟨"EmissionRows$Lamp", "follow", "(Z)V"⟩ "EmissionRows" : Cond) ∈ nwL := List.mem_of_getElem? (i := 17) rfl
theorem nw_340 : (.methodLinkNest "EmissionRows" 110 ⟨"EmissionRows$Code", "<init>", "(IZ)V"⟩ "EmissionRows" : Cond) ∈ nwL := List.mem_of_getElem? (i := 18) rfl
theorem nw_345 : (.fieldLinkNest "EmissionRows" 116 "EmissionRows$Code" "number" "I" "EmissionRows" : Cond) ∈ nwL := List.mem_of_getElem? (i := 19) rfl
theorem nw_347 : (.fieldLinkNest "EmissionRows" 104 "EmissionRows$Code" "on" "Z" "EmissionRows" : Cond) ∈ nwL := List.mem_of_getElem? (i := 20) rfl
theorem nw_350 : (.fieldLinkNest "EmissionRows" 199 "EmissionRows$Code" "confirmed" "Z" "EmissionRows" : Cond) ∈ nwL := List.mem_of_getElem? (i := 21) rfl
theorem nw_352 : (.fieldLinkNest "EmissionRows" 113 "EmissionRows$Code" "lasting" "Z" "EmissionRows" : Cond) ∈ nwL := List.mem_of_getElem? (i := 22) rfl
theorem nw_356 : (.fieldLinkNest "EmissionRows" 146 "EmissionRows$Code" "frozenCycle" "I" "EmissionRows" : Cond) ∈ nwL := List.mem_of_getElem? (i := 23) rfl
theorem nw_358 : (.fieldLinkNest "EmissionRows" 149 "EmissionRows$Code" "frozenConditions" "I" "EmissionRows" : Cond) ∈ nwL := List.mem_of_getElem? (i := 24) rfl
theorem nw_386 : (.methodLinkNest "EmissionRows" 119 ⟨"EmissionRows$Code", "forgetFault", "()V"⟩ "EmissionRows" : Cond) ∈ nwL := List.mem_of_getElem? (i := 25) rfl
theorem nw_387 : (.methodLinkNest "EmissionRows" 125 ⟨"EmissionRows$Lamp", "reset", "()V"⟩ "EmissionRows" : Cond) ∈ nwL := List.mem_of_getElem? (i := 26) rfl
theorem nw_393 : (.methodLinkNest "EmissionRows" 130 ⟨"EmissionRows$Lamp", "goOn", "(JJ)Z"⟩ "EmissionRows" : Cond) ∈ nwL := List.mem_of_getElem? (i := 27) rfl
theorem nw_412 : (.methodLinkNest "EmissionRows" 205 ⟨"EmissionRows$Code", "hasFrozenRow", "()Z"⟩ "EmissionRows" : Cond) ∈ nwL := List.mem_of_getElem? (i := 28) rfl
theorem nw_420 : (.methodLinkNest "EmissionRows" 152 ⟨"EmissionRows$Octets", "drop", "()V"⟩ "EmissionRows" : Cond) ∈ nwL := List.mem_of_getElem? (i := 29) rfl
theorem nw_428 : (.methodLinkNest "EmissionRows" 209 ⟨"EmissionRows$Octets", "begin", "(I)V"⟩ "EmissionRows" : Cond) ∈ nwL := List.mem_of_getElem? (i := 30) rfl
theorem nw_436 : (.methodLinkNest "EmissionRows" 212 ⟨"EmissionRows$Octets", "add", "(I)V"⟩ "EmissionRows" : Cond) ∈ nwL := List.mem_of_getElem? (i := 31) rfl
theorem nw_442 : (.methodLinkNest "EmissionRows" 225 ⟨"EmissionRows$Octets", "addTwo", "(I)V"⟩ "EmissionRows" : Cond) ∈ nwL := List.mem_of_getElem? (i := 32) rfl
theorem nw_458 : (.methodLinkNest "EmissionRows" 228 ⟨"EmissionRows$Code", "isToldIn", "(I)Z"⟩ "EmissionRows" : Cond) ∈ nwL := List.mem_of_getElem? (i := 33) rfl
theorem nw_466 : (.methodLinkNest "EmissionRows" 182 ⟨"EmissionRows$Octets", "total", "()I"⟩ "EmissionRows" : Cond) ∈ nwL := List.mem_of_getElem? (i := 34) rfl
theorem nw_481 : (.castable "java/lang/ArithmeticException" "java/lang/ArithmeticException" : Cond) ∈ nwL := List.mem_of_getElem? (i := 35) rfl
theorem nw_556 : (.methodLinkNest "EmissionRows" 170 ⟨"EmissionRows$Octets", "has", "(I)Z"⟩ "EmissionRows" : Cond) ∈ nwL := List.mem_of_getElem? (i := 36) rfl
theorem nw_562 : (.castable "java/lang/IndexOutOfBoundsException" "java/lang/IndexOutOfBoundsException" : Cond) ∈ nwL := List.mem_of_getElem? (i := 37) rfl
theorem nw_780 : (.castable "EmissionRows$Monitor" "EmissionRows$Monitor" : Cond) ∈ nwL := List.mem_of_getElem? (i := 38) rfl
theorem nw_781 : (.castable "EmissionRows$Code" "EmissionRows$Code" : Cond) ∈ nwL := List.mem_of_getElem? (i := 39) rfl
theorem nw_785 : (.castable "EmissionRows" "java/lang/Object" : Cond) ∈ nwL := List.mem_of_getElem? (i := 40) rfl
theorem nw_786 : (.castable "EmissionRows$Lamp" "java/lang/Object" : Cond) ∈ nwL := List.mem_of_getElem? (i := 41) rfl
theorem nw_787 : (.castable "EmissionRows$Octets" "java/lang/Object" : Cond) ∈ nwL := List.mem_of_getElem? (i := 42) rfl
theorem nw_788 : (.castable "EmissionRowsModel" "java/lang/Object" : Cond) ∈ nwL := List.mem_of_getElem? (i := 43) rfl
theorem nw_789 : (.castable "EmissionRows$Monitor" "java/lang/Object" : Cond) ∈ nwL := List.mem_of_getElem? (i := 44) rfl
theorem nw_790 : (.castable "EmissionRows$Code" "java/lang/Object" : Cond) ∈ nwL := List.mem_of_getElem? (i := 45) rfl
theorem nw_791 : (.castable "java/lang/String" "java/lang/Object" : Cond) ∈ nwL := List.mem_of_getElem? (i := 46) rfl
