section
-- ===== PART A: goes FIRST, ahead of the names: the tables' words, and 'selects' of the private methods out of them =====
/-- a private method of a class that the tables say can be made, by its rows of tables_1 -/
def lw_okq (q : MethodName × Nat) : Prop := (q.1.cls ≠ "java/lang/invoke/MethodHandle" ∧ q.1.cls ≠ "java/lang/invoke/VarHandle") ∧ Cond.instantiable q.1.cls q.2 ∈ tables_1 ∧ Cond.privateMethod q.1 ∈ tables_1 ∧ Cond.instanceMethod q.1 ∈ tables_1
theorem lw_p0 : lw_okq (⟨"java/util/ArrayList", "add", "(Ljava/lang/Object;[Ljava/lang/Object;I)V"⟩, 3) := ⟨⟨by decide +kernel, by decide +kernel⟩, List.mem_of_getElem? (i := 30) (by decide +kernel), List.mem_of_getElem? (i := 151) (by decide +kernel), List.mem_of_getElem? (i := 152) (by decide +kernel)⟩
theorem lw_p1 : lw_okq (⟨"java/util/ArrayList", "grow", "()[Ljava/lang/Object;"⟩, 3) := ⟨⟨by decide +kernel, by decide +kernel⟩, List.mem_of_getElem? (i := 30) (by decide +kernel), List.mem_of_getElem? (i := 155) (by decide +kernel), List.mem_of_getElem? (i := 156) (by decide +kernel)⟩
theorem lw_p2 : lw_okq (⟨"java/util/ArrayList", "grow", "(I)[Ljava/lang/Object;"⟩, 3) := ⟨⟨by decide +kernel, by decide +kernel⟩, List.mem_of_getElem? (i := 30) (by decide +kernel), List.mem_of_getElem? (i := 159) (by decide +kernel), List.mem_of_getElem? (i := 160) (by decide +kernel)⟩
theorem lw_p3 : lw_okq (⟨"EmissionRows", "passMonitors", "(II)I"⟩, 5) := ⟨⟨by decide +kernel, by decide +kernel⟩, List.mem_of_getElem? (i := 22) (by decide +kernel), List.mem_of_getElem? (i := 208) (by decide +kernel), List.mem_of_getElem? (i := 209) (by decide +kernel)⟩
theorem lw_p4 : lw_okq (⟨"EmissionRows$Monitor", "endCycle", "(IZ)Z"⟩, 6) := ⟨⟨by decide +kernel, by decide +kernel⟩, List.mem_of_getElem? (i := 118) (by decide +kernel), List.mem_of_getElem? (i := 229) (by decide +kernel), List.mem_of_getElem? (i := 230) (by decide +kernel)⟩
theorem lw_p5 : lw_okq (⟨"EmissionRows$Monitor", "hasChance", "(I)Z"⟩, 6) := ⟨⟨by decide +kernel, by decide +kernel⟩, List.mem_of_getElem? (i := 118) (by decide +kernel), List.mem_of_getElem? (i := 233) (by decide +kernel), List.mem_of_getElem? (i := 234) (by decide +kernel)⟩
theorem lw_p6 : lw_okq (⟨"EmissionRows$Monitor", "countChance", "(Z)V"⟩, 6) := ⟨⟨by decide +kernel, by decide +kernel⟩, List.mem_of_getElem? (i := 118) (by decide +kernel), List.mem_of_getElem? (i := 238) (by decide +kernel), List.mem_of_getElem? (i := 239) (by decide +kernel)⟩
theorem lw_p7 : lw_okq (⟨"EmissionRows", "passCodes", "(I)V"⟩, 5) := ⟨⟨by decide +kernel, by decide +kernel⟩, List.mem_of_getElem? (i := 22) (by decide +kernel), List.mem_of_getElem? (i := 242) (by decide +kernel), List.mem_of_getElem? (i := 243) (by decide +kernel)⟩
theorem lw_p8 : lw_okq (⟨"EmissionRows$Code", "endCycleOn", "(II)V"⟩, 9) := ⟨⟨by decide +kernel, by decide +kernel⟩, List.mem_of_getElem? (i := 249) (by decide +kernel), List.mem_of_getElem? (i := 247) (by decide +kernel), List.mem_of_getElem? (i := 248) (by decide +kernel)⟩
theorem lw_p9 : lw_okq (⟨"EmissionRows$Code", "endCycleOff", "(I)V"⟩, 9) := ⟨⟨by decide +kernel, by decide +kernel⟩, List.mem_of_getElem? (i := 249) (by decide +kernel), List.mem_of_getElem? (i := 252) (by decide +kernel), List.mem_of_getElem? (i := 253) (by decide +kernel)⟩
theorem lw_p10 : lw_okq (⟨"EmissionRows$Code", "forgetFault", "()V"⟩, 9) := ⟨⟨by decide +kernel, by decide +kernel⟩, List.mem_of_getElem? (i := 249) (by decide +kernel), List.mem_of_getElem? (i := 257) (by decide +kernel), List.mem_of_getElem? (i := 258) (by decide +kernel)⟩
theorem lw_p11 : lw_okq (⟨"EmissionRows", "howManyConfirmed", "()I"⟩, 5) := ⟨⟨by decide +kernel, by decide +kernel⟩, List.mem_of_getElem? (i := 22) (by decide +kernel), List.mem_of_getElem? (i := 261) (by decide +kernel), List.mem_of_getElem? (i := 262) (by decide +kernel)⟩
theorem lw_p12 : lw_okq (⟨"EmissionRows$Lamp", "follow", "(Z)V"⟩, 3) := ⟨⟨by decide +kernel, by decide +kernel⟩, List.mem_of_getElem? (i := 56) (by decide +kernel), List.mem_of_getElem? (i := 265) (by decide +kernel), List.mem_of_getElem? (i := 266) (by decide +kernel)⟩
theorem lw_p13 : lw_okq (⟨"EmissionRows$Lamp", "reset", "()V"⟩, 3) := ⟨⟨by decide +kernel, by decide +kernel⟩, List.mem_of_getElem? (i := 56) (by decide +kernel), List.mem_of_getElem? (i := 269) (by decide +kernel), List.mem_of_getElem? (i := 270) (by decide +kernel)⟩
theorem lw_p14 : lw_okq (⟨"EmissionRows", "isMonitor", "(I)Z"⟩, 5) := ⟨⟨by decide +kernel, by decide +kernel⟩, List.mem_of_getElem? (i := 22) (by decide +kernel), List.mem_of_getElem? (i := 277) (by decide +kernel), List.mem_of_getElem? (i := 278) (by decide +kernel)⟩
theorem lw_p15 : lw_okq (⟨"EmissionRows", "readinessOf", "(I)I"⟩, 5) := ⟨⟨by decide +kernel, by decide +kernel⟩, List.mem_of_getElem? (i := 22) (by decide +kernel), List.mem_of_getElem? (i := 285) (by decide +kernel), List.mem_of_getElem? (i := 286) (by decide +kernel)⟩
def lw_privs_1 : List (MethodName × Nat) := [(⟨"java/util/ArrayList", "add", "(Ljava/lang/Object;[Ljava/lang/Object;I)V"⟩, 3), (⟨"java/util/ArrayList", "grow", "()[Ljava/lang/Object;"⟩, 3), (⟨"java/util/ArrayList", "grow", "(I)[Ljava/lang/Object;"⟩, 3), (⟨"EmissionRows", "passMonitors", "(II)I"⟩, 5), (⟨"EmissionRows$Monitor", "endCycle", "(IZ)Z"⟩, 6), (⟨"EmissionRows$Monitor", "hasChance", "(I)Z"⟩, 6), (⟨"EmissionRows$Monitor", "countChance", "(Z)V"⟩, 6), (⟨"EmissionRows", "passCodes", "(I)V"⟩, 5), (⟨"EmissionRows$Code", "endCycleOn", "(II)V"⟩, 9), (⟨"EmissionRows$Code", "endCycleOff", "(I)V"⟩, 9), (⟨"EmissionRows$Code", "forgetFault", "()V"⟩, 9), (⟨"EmissionRows", "howManyConfirmed", "()I"⟩, 5), (⟨"EmissionRows$Lamp", "follow", "(Z)V"⟩, 3), (⟨"EmissionRows$Lamp", "reset", "()V"⟩, 3), (⟨"EmissionRows", "isMonitor", "(I)Z"⟩, 5), (⟨"EmissionRows", "readinessOf", "(I)I"⟩, 5)]
theorem lw_r1 : ∀ q ∈ lw_privs_1, lw_okq q := List.forall_mem_cons.mpr ⟨lw_p0, List.forall_mem_cons.mpr ⟨lw_p1, List.forall_mem_cons.mpr ⟨lw_p2, List.forall_mem_cons.mpr ⟨lw_p3, List.forall_mem_cons.mpr ⟨lw_p4, List.forall_mem_cons.mpr ⟨lw_p5, List.forall_mem_cons.mpr ⟨lw_p6, List.forall_mem_cons.mpr ⟨lw_p7, List.forall_mem_cons.mpr ⟨lw_p8, List.forall_mem_cons.mpr ⟨lw_p9, List.forall_mem_cons.mpr ⟨lw_p10, List.forall_mem_cons.mpr ⟨lw_p11, List.forall_mem_cons.mpr ⟨lw_p12, List.forall_mem_cons.mpr ⟨lw_p13, List.forall_mem_cons.mpr ⟨lw_p14, List.forall_mem_cons.mpr ⟨lw_p15, fun _ h => absurd h List.not_mem_nil⟩⟩⟩⟩⟩⟩⟩⟩⟩⟩⟩⟩⟩⟩⟩⟩
theorem lw_p16 : lw_okq (⟨"EmissionRows", "knownCode", "(I)LEmissionRows$Code;"⟩, 5) := ⟨⟨by decide +kernel, by decide +kernel⟩, List.mem_of_getElem? (i := 22) (by decide +kernel), List.mem_of_getElem? (i := 293) (by decide +kernel), List.mem_of_getElem? (i := 294) (by decide +kernel)⟩
theorem lw_p17 : lw_okq (⟨"EmissionRows$Lamp", "goOn", "(JJ)Z"⟩, 3) := ⟨⟨by decide +kernel, by decide +kernel⟩, List.mem_of_getElem? (i := 56) (by decide +kernel), List.mem_of_getElem? (i := 350) (by decide +kernel), List.mem_of_getElem? (i := 351) (by decide +kernel)⟩
theorem lw_p18 : lw_okq (⟨"EmissionRows", "firstFrozen", "()LEmissionRows$Code;"⟩, 5) := ⟨⟨by decide +kernel, by decide +kernel⟩, List.mem_of_getElem? (i := 22) (by decide +kernel), List.mem_of_getElem? (i := 365) (by decide +kernel), List.mem_of_getElem? (i := 366) (by decide +kernel)⟩
theorem lw_p19 : lw_okq (⟨"EmissionRows$Code", "hasFrozenRow", "()Z"⟩, 9) := ⟨⟨by decide +kernel, by decide +kernel⟩, List.mem_of_getElem? (i := 249) (by decide +kernel), List.mem_of_getElem? (i := 369) (by decide +kernel), List.mem_of_getElem? (i := 370) (by decide +kernel)⟩
theorem lw_p20 : lw_okq (⟨"EmissionRows$Octets", "drop", "()V"⟩, 2) := ⟨⟨by decide +kernel, by decide +kernel⟩, List.mem_of_getElem? (i := 75) (by decide +kernel), List.mem_of_getElem? (i := 377) (by decide +kernel), List.mem_of_getElem? (i := 378) (by decide +kernel)⟩
theorem lw_p21 : lw_okq (⟨"EmissionRows", "tellNow", "(I)V"⟩, 5) := ⟨⟨by decide +kernel, by decide +kernel⟩, List.mem_of_getElem? (i := 22) (by decide +kernel), List.mem_of_getElem? (i := 381) (by decide +kernel), List.mem_of_getElem? (i := 382) (by decide +kernel)⟩
theorem lw_p22 : lw_okq (⟨"EmissionRows$Octets", "begin", "(I)V"⟩, 2) := ⟨⟨by decide +kernel, by decide +kernel⟩, List.mem_of_getElem? (i := 75) (by decide +kernel), List.mem_of_getElem? (i := 385) (by decide +kernel), List.mem_of_getElem? (i := 386) (by decide +kernel)⟩
theorem lw_p23 : lw_okq (⟨"EmissionRows$Octets", "add", "(I)V"⟩, 2) := ⟨⟨by decide +kernel, by decide +kernel⟩, List.mem_of_getElem? (i := 75) (by decide +kernel), List.mem_of_getElem? (i := 389) (by decide +kernel), List.mem_of_getElem? (i := 390) (by decide +kernel)⟩
theorem lw_p24 : lw_okq (⟨"EmissionRows", "kindsNotReady", "()I"⟩, 5) := ⟨⟨by decide +kernel, by decide +kernel⟩, List.mem_of_getElem? (i := 22) (by decide +kernel), List.mem_of_getElem? (i := 394) (by decide +kernel), List.mem_of_getElem? (i := 395) (by decide +kernel)⟩
theorem lw_p25 : lw_okq (⟨"EmissionRows$Octets", "addTwo", "(I)V"⟩, 2) := ⟨⟨by decide +kernel, by decide +kernel⟩, List.mem_of_getElem? (i := 75) (by decide +kernel), List.mem_of_getElem? (i := 399) (by decide +kernel), List.mem_of_getElem? (i := 400) (by decide +kernel)⟩
theorem lw_p26 : lw_okq (⟨"EmissionRows", "tellFrozen", "(I)V"⟩, 5) := ⟨⟨by decide +kernel, by decide +kernel⟩, List.mem_of_getElem? (i := 22) (by decide +kernel), List.mem_of_getElem? (i := 403) (by decide +kernel), List.mem_of_getElem? (i := 404) (by decide +kernel)⟩
theorem lw_p27 : lw_okq (⟨"EmissionRows", "tellCounts", "(I)V"⟩, 5) := ⟨⟨by decide +kernel, by decide +kernel⟩, List.mem_of_getElem? (i := 22) (by decide +kernel), List.mem_of_getElem? (i := 407) (by decide +kernel), List.mem_of_getElem? (i := 408) (by decide +kernel)⟩
theorem lw_p28 : lw_okq (⟨"EmissionRows", "tellCodes", "(I)V"⟩, 5) := ⟨⟨by decide +kernel, by decide +kernel⟩, List.mem_of_getElem? (i := 22) (by decide +kernel), List.mem_of_getElem? (i := 411) (by decide +kernel), List.mem_of_getElem? (i := 412) (by decide +kernel)⟩
theorem lw_p29 : lw_okq (⟨"EmissionRows$Code", "isToldIn", "(I)Z"⟩, 9) := ⟨⟨by decide +kernel, by decide +kernel⟩, List.mem_of_getElem? (i := 249) (by decide +kernel), List.mem_of_getElem? (i := 415) (by decide +kernel), List.mem_of_getElem? (i := 416) (by decide +kernel)⟩
theorem lw_p30 : lw_okq (⟨"EmissionRows$Octets", "total", "()I"⟩, 2) := ⟨⟨by decide +kernel, by decide +kernel⟩, List.mem_of_getElem? (i := 75) (by decide +kernel), List.mem_of_getElem? (i := 423) (by decide +kernel), List.mem_of_getElem? (i := 424) (by decide +kernel)⟩
theorem lw_p31 : lw_okq (⟨"java/lang/Throwable", "fillInStackTrace", "(I)Ljava/lang/Throwable;"⟩, 6) := ⟨⟨by decide +kernel, by decide +kernel⟩, List.mem_of_getElem? (i := 473) (by decide +kernel), List.mem_of_getElem? (i := 471) (by decide +kernel), List.mem_of_getElem? (i := 472) (by decide +kernel)⟩
def lw_privs_2 : List (MethodName × Nat) := [(⟨"EmissionRows", "knownCode", "(I)LEmissionRows$Code;"⟩, 5), (⟨"EmissionRows$Lamp", "goOn", "(JJ)Z"⟩, 3), (⟨"EmissionRows", "firstFrozen", "()LEmissionRows$Code;"⟩, 5), (⟨"EmissionRows$Code", "hasFrozenRow", "()Z"⟩, 9), (⟨"EmissionRows$Octets", "drop", "()V"⟩, 2), (⟨"EmissionRows", "tellNow", "(I)V"⟩, 5), (⟨"EmissionRows$Octets", "begin", "(I)V"⟩, 2), (⟨"EmissionRows$Octets", "add", "(I)V"⟩, 2), (⟨"EmissionRows", "kindsNotReady", "()I"⟩, 5), (⟨"EmissionRows$Octets", "addTwo", "(I)V"⟩, 2), (⟨"EmissionRows", "tellFrozen", "(I)V"⟩, 5), (⟨"EmissionRows", "tellCounts", "(I)V"⟩, 5), (⟨"EmissionRows", "tellCodes", "(I)V"⟩, 5), (⟨"EmissionRows$Code", "isToldIn", "(I)Z"⟩, 9), (⟨"EmissionRows$Octets", "total", "()I"⟩, 2), (⟨"java/lang/Throwable", "fillInStackTrace", "(I)Ljava/lang/Throwable;"⟩, 6)]
theorem lw_r2 : ∀ q ∈ lw_privs_2, lw_okq q := List.forall_mem_cons.mpr ⟨lw_p16, List.forall_mem_cons.mpr ⟨lw_p17, List.forall_mem_cons.mpr ⟨lw_p18, List.forall_mem_cons.mpr ⟨lw_p19, List.forall_mem_cons.mpr ⟨lw_p20, List.forall_mem_cons.mpr ⟨lw_p21, List.forall_mem_cons.mpr ⟨lw_p22, List.forall_mem_cons.mpr ⟨lw_p23, List.forall_mem_cons.mpr ⟨lw_p24, List.forall_mem_cons.mpr ⟨lw_p25, List.forall_mem_cons.mpr ⟨lw_p26, List.forall_mem_cons.mpr ⟨lw_p27, List.forall_mem_cons.mpr ⟨lw_p28, List.forall_mem_cons.mpr ⟨lw_p29, List.forall_mem_cons.mpr ⟨lw_p30, List.forall_mem_cons.mpr ⟨lw_p31, fun _ h => absurd h List.not_mem_nil⟩⟩⟩⟩⟩⟩⟩⟩⟩⟩⟩⟩⟩⟩⟩⟩
theorem lw_p32 : lw_okq (⟨"EmissionRows$Octets", "has", "(I)Z"⟩, 2) := ⟨⟨by decide +kernel, by decide +kernel⟩, List.mem_of_getElem? (i := 75) (by decide +kernel), List.mem_of_getElem? (i := 513) (by decide +kernel), List.mem_of_getElem? (i := 514) (by decide +kernel)⟩
theorem lw_p33 : lw_okq (⟨"EmissionRowsModel", "hasChance", "(II)Z"⟩, 25) := ⟨⟨by decide +kernel, by decide +kernel⟩, List.mem_of_getElem? (i := 533) (by decide +kernel), List.mem_of_getElem? (i := 636) (by decide +kernel), List.mem_of_getElem? (i := 637) (by decide +kernel)⟩
theorem lw_p34 : lw_okq (⟨"EmissionRowsModel", "count", "(IZ)V"⟩, 25) := ⟨⟨by decide +kernel, by decide +kernel⟩, List.mem_of_getElem? (i := 533) (by decide +kernel), List.mem_of_getElem? (i := 643) (by decide +kernel), List.mem_of_getElem? (i := 644) (by decide +kernel)⟩
theorem lw_p35 : lw_okq (⟨"EmissionRowsModel", "endOn", "(II)V"⟩, 25) := ⟨⟨by decide +kernel, by decide +kernel⟩, List.mem_of_getElem? (i := 533) (by decide +kernel), List.mem_of_getElem? (i := 647) (by decide +kernel), List.mem_of_getElem? (i := 648) (by decide +kernel)⟩
theorem lw_p36 : lw_okq (⟨"EmissionRowsModel", "endOff", "(II)V"⟩, 25) := ⟨⟨by decide +kernel, by decide +kernel⟩, List.mem_of_getElem? (i := 533) (by decide +kernel), List.mem_of_getElem? (i := 651) (by decide +kernel), List.mem_of_getElem? (i := 652) (by decide +kernel)⟩
theorem lw_p37 : lw_okq (⟨"EmissionRowsModel", "confirmedCodes", "()I"⟩, 25) := ⟨⟨by decide +kernel, by decide +kernel⟩, List.mem_of_getElem? (i := 533) (by decide +kernel), List.mem_of_getElem? (i := 655) (by decide +kernel), List.mem_of_getElem? (i := 656) (by decide +kernel)⟩
theorem lw_p38 : lw_okq (⟨"EmissionRowsModel", "firstFrozen", "()I"⟩, 25) := ⟨⟨by decide +kernel, by decide +kernel⟩, List.mem_of_getElem? (i := 533) (by decide +kernel), List.mem_of_getElem? (i := 697) (by decide +kernel), List.mem_of_getElem? (i := 698) (by decide +kernel)⟩
theorem lw_p39 : lw_okq (⟨"EmissionRowsModel", "tellState", "()V"⟩, 25) := ⟨⟨by decide +kernel, by decide +kernel⟩, List.mem_of_getElem? (i := 533) (by decide +kernel), List.mem_of_getElem? (i := 705) (by decide +kernel), List.mem_of_getElem? (i := 706) (by decide +kernel)⟩
theorem lw_p40 : lw_okq (⟨"EmissionRowsModel", "put", "(I)V"⟩, 25) := ⟨⟨by decide +kernel, by decide +kernel⟩, List.mem_of_getElem? (i := 533) (by decide +kernel), List.mem_of_getElem? (i := 709) (by decide +kernel), List.mem_of_getElem? (i := 710) (by decide +kernel)⟩
theorem lw_p41 : lw_okq (⟨"EmissionRowsModel", "putTwo", "(I)V"⟩, 25) := ⟨⟨by decide +kernel, by decide +kernel⟩, List.mem_of_getElem? (i := 533) (by decide +kernel), List.mem_of_getElem? (i := 714) (by decide +kernel), List.mem_of_getElem? (i := 715) (by decide +kernel)⟩
theorem lw_p42 : lw_okq (⟨"EmissionRowsModel", "tellFrozen", "(I)V"⟩, 25) := ⟨⟨by decide +kernel, by decide +kernel⟩, List.mem_of_getElem? (i := 533) (by decide +kernel), List.mem_of_getElem? (i := 718) (by decide +kernel), List.mem_of_getElem? (i := 719) (by decide +kernel)⟩
theorem lw_p43 : lw_okq (⟨"EmissionRowsModel", "tellCodes", "(I)V"⟩, 25) := ⟨⟨by decide +kernel, by decide +kernel⟩, List.mem_of_getElem? (i := 533) (by decide +kernel), List.mem_of_getElem? (i := 722) (by decide +kernel), List.mem_of_getElem? (i := 723) (by decide +kernel)⟩
def lw_privs_3 : List (MethodName × Nat) := [(⟨"EmissionRows$Octets", "has", "(I)Z"⟩, 2), (⟨"EmissionRowsModel", "hasChance", "(II)Z"⟩, 25), (⟨"EmissionRowsModel", "count", "(IZ)V"⟩, 25), (⟨"EmissionRowsModel", "endOn", "(II)V"⟩, 25), (⟨"EmissionRowsModel", "endOff", "(II)V"⟩, 25), (⟨"EmissionRowsModel", "confirmedCodes", "()I"⟩, 25), (⟨"EmissionRowsModel", "firstFrozen", "()I"⟩, 25), (⟨"EmissionRowsModel", "tellState", "()V"⟩, 25), (⟨"EmissionRowsModel", "put", "(I)V"⟩, 25), (⟨"EmissionRowsModel", "putTwo", "(I)V"⟩, 25), (⟨"EmissionRowsModel", "tellFrozen", "(I)V"⟩, 25), (⟨"EmissionRowsModel", "tellCodes", "(I)V"⟩, 25)]
theorem lw_r3 : ∀ q ∈ lw_privs_3, lw_okq q := List.forall_mem_cons.mpr ⟨lw_p32, List.forall_mem_cons.mpr ⟨lw_p33, List.forall_mem_cons.mpr ⟨lw_p34, List.forall_mem_cons.mpr ⟨lw_p35, List.forall_mem_cons.mpr ⟨lw_p36, List.forall_mem_cons.mpr ⟨lw_p37, List.forall_mem_cons.mpr ⟨lw_p38, List.forall_mem_cons.mpr ⟨lw_p39, List.forall_mem_cons.mpr ⟨lw_p40, List.forall_mem_cons.mpr ⟨lw_p41, List.forall_mem_cons.mpr ⟨lw_p42, List.forall_mem_cons.mpr ⟨lw_p43, fun _ h => absurd h List.not_mem_nil⟩⟩⟩⟩⟩⟩⟩⟩⟩⟩⟩⟩
def lw_privs : List (MethodName × Nat) := lw_privs_1 ++ (lw_privs_2 ++ (lw_privs_3))
def lw_tbl : List Cond := k2_sels lw_privs ++ tables_1
theorem lw_privs_ok : ∀ q ∈ lw_privs, lw_okq q := by
  show ∀ q ∈ lw_privs_1 ++ (lw_privs_2 ++ (lw_privs_3)), lw_okq q
  exact List.forall_mem_append.mpr ⟨lw_r1, List.forall_mem_append.mpr ⟨lw_r2, lw_r3⟩⟩
end
section
def R_ER : String := "EmissionRows"
def R_MON : String := "EmissionRows$Monitor"
def R_COD : String := "EmissionRows$Code"
def R_LAMP : String := "EmissionRows$Lamp"
def R_OCT : String := "EmissionRows$Octets"
def R_MOD : String := "EmissionRowsModel"
def R_LAW : String := "EmissionRowsLaw"
def R_AL : String := "java/util/ArrayList"
def R_ABL : String := "java/util/AbstractList"
def R_ABC : String := "java/util/AbstractCollection"
def R_OBJS : String := "java/util/Objects"
def R_PRE : String := "jdk/internal/util/Preconditions"
def R_ASUP : String := "jdk/internal/util/ArraysSupport"
def R_ARRS : String := "java/util/Arrays"
def R_MATH : String := "java/lang/Math"
def R_SYS : String := "java/lang/System"
def R_OBJ : String := "java/lang/Object"
def R_THR : String := "java/lang/Throwable"
def R_EXC : String := "java/lang/Exception"
def R_RTE : String := "java/lang/RuntimeException"
def R_ARE : String := "java/lang/ArithmeticException"
def R_IOB : String := "java/lang/IndexOutOfBoundsException"
def R_STR : String := "java/lang/String"
def T_ER : u_T := fun k => match k with
  | 0 => ("EmissionRows", "monitors", "Ljava/util/ArrayList;", true)
  | 1 => ("EmissionRows", "codes", "Ljava/util/ArrayList;", true)
  | 2 => ("EmissionRows", "warning", "LEmissionRows$Lamp;", true)
  | 3 => ("EmissionRows", "told", "LEmissionRows$Octets;", true)
  | _ => ("EmissionRows", "cycles", "I", false)
def t_ER : Nat → FieldType := fun k => match k with
  | 0 => .object "java/util/ArrayList"
  | 1 => .object "java/util/ArrayList"
  | 2 => .object "EmissionRows$Lamp"
  | 3 => .object "EmissionRows$Octets"
  | _ => .int
theorem nok_ER : ∀ a, a < 5 → ∀ b, b < 5 → a ≠ b → (T_ER a).2.1 ≠ (T_ER b).2.1 := by decide +kernel
theorem tok_ER : ∀ k, k < 5 → parseFieldDescriptor (T_ER k).2.2.1 = some (t_ER k) := by decide +kernel
def T_AL : u_T := fun k => match k with
  | 0 => ("java/util/AbstractList", "modCount", "I", false)
  | 1 => ("java/util/ArrayList", "elementData", "[Ljava/lang/Object;", false)
  | _ => ("java/util/ArrayList", "size", "I", false)
def t_AL : Nat → FieldType := fun k => match k with
  | 0 => .int
  | 1 => .array (.object "java/lang/Object")
  | _ => .int
theorem nok_AL : ∀ a, a < 3 → ∀ b, b < 3 → a ≠ b → (T_AL a).2.1 ≠ (T_AL b).2.1 := by decide +kernel
theorem tok_AL : ∀ k, k < 3 → parseFieldDescriptor (T_AL k).2.2.1 = some (t_AL k) := by decide +kernel
def T_LAMP : u_T := fun k => match k with
  | 0 => ("EmissionRows$Lamp", "lit", "Z", false)
  | 1 => ("EmissionRows$Lamp", "metres", "J", false)
  | _ => ("EmissionRows$Lamp", "minutes", "J", false)
def t_LAMP : Nat → FieldType := fun k => match k with
  | 0 => .boolean
  | 1 => .long
  | _ => .long
theorem nok_LAMP : ∀ a, a < 3 → ∀ b, b < 3 → a ≠ b → (T_LAMP a).2.1 ≠ (T_LAMP b).2.1 := by decide +kernel
theorem tok_LAMP : ∀ k, k < 3 → parseFieldDescriptor (T_LAMP k).2.2.1 = some (t_LAMP k) := by decide +kernel
def T_OCT : u_T := fun k => match k with
  | 0 => ("EmissionRows$Octets", "octets", "[B", true)
  | _ => ("EmissionRows$Octets", "length", "I", false)
def t_OCT : Nat → FieldType := fun k => match k with
  | 0 => .array .byte
  | _ => .int
theorem nok_OCT : ∀ a, a < 2 → ∀ b, b < 2 → a ≠ b → (T_OCT a).2.1 ≠ (T_OCT b).2.1 := by decide +kernel
theorem tok_OCT : ∀ k, k < 2 → parseFieldDescriptor (T_OCT k).2.2.1 = some (t_OCT k) := by decide +kernel
def T_MON : u_T := fun k => match k with
  | 0 => ("EmissionRows$Monitor", "kind", "I", true)
  | 1 => ("EmissionRows$Monitor", "condition", "I", true)
  | 2 => ("EmissionRows$Monitor", "runs", "I", false)
  | 3 => ("EmissionRows$Monitor", "chances", "I", false)
  | 4 => ("EmissionRows$Monitor", "cyclesHeld", "I", false)
  | _ => ("EmissionRows$Monitor", "tested", "Z", false)
def t_MON : Nat → FieldType := fun k => match k with
  | 0 => .int
  | 1 => .int
  | 2 => .int
  | 3 => .int
  | 4 => .int
  | _ => .boolean
theorem nok_MON : ∀ a, a < 6 → ∀ b, b < 6 → a ≠ b → (T_MON a).2.1 ≠ (T_MON b).2.1 := by decide +kernel
theorem tok_MON : ∀ k, k < 6 → parseFieldDescriptor (T_MON k).2.2.1 = some (t_MON k) := by decide +kernel
def T_COD : u_T := fun k => match k with
  | 0 => ("EmissionRows$Code", "number", "I", true)
  | 1 => ("EmissionRows$Code", "on", "Z", false)
  | 2 => ("EmissionRows$Code", "pending", "Z", false)
  | 3 => ("EmissionRows$Code", "confirmed", "Z", false)
  | 4 => ("EmissionRows$Code", "lasting", "Z", false)
  | 5 => ("EmissionRows$Code", "offInARow", "I", false)
  | 6 => ("EmissionRows$Code", "offWithConditionZero", "I", false)
  | 7 => ("EmissionRows$Code", "frozenCycle", "I", false)
  | _ => ("EmissionRows$Code", "frozenConditions", "I", false)
def t_COD : Nat → FieldType := fun k => match k with
  | 0 => .int
  | 1 => .boolean
  | 2 => .boolean
  | 3 => .boolean
  | 4 => .boolean
  | 5 => .int
  | 6 => .int
  | 7 => .int
  | _ => .int
theorem nok_COD : ∀ a, a < 9 → ∀ b, b < 9 → a ≠ b → (T_COD a).2.1 ≠ (T_COD b).2.1 := by decide +kernel
theorem tok_COD : ∀ k, k < 9 → parseFieldDescriptor (T_COD k).2.2.1 = some (t_COD k) := by decide +kernel
def T_MOD : u_T := fun k => match k with
  | 0 => ("EmissionRowsModel", "code", "I", false)
  | 1 => ("EmissionRowsModel", "monitors", "I", false)
  | 2 => ("EmissionRowsModel", "kind", "[I", true)
  | 3 => ("EmissionRowsModel", "condition", "[I", true)
  | 4 => ("EmissionRowsModel", "runs", "[I", true)
  | 5 => ("EmissionRowsModel", "chances", "[I", true)
  | 6 => ("EmissionRowsModel", "held", "[I", true)
  | 7 => ("EmissionRowsModel", "ready", "[Z", true)
  | 8 => ("EmissionRowsModel", "codes", "I", false)
  | 9 => ("EmissionRowsModel", "number", "[I", true)
  | 10 => ("EmissionRowsModel", "on", "[Z", true)
  | 11 => ("EmissionRowsModel", "pending", "[Z", true)
  | 12 => ("EmissionRowsModel", "confirmed", "[Z", true)
  | 13 => ("EmissionRowsModel", "permanent", "[Z", true)
  | 14 => ("EmissionRowsModel", "off", "[I", true)
  | 15 => ("EmissionRowsModel", "passed", "[I", true)
  | 16 => ("EmissionRowsModel", "frozen", "[Z", true)
  | 17 => ("EmissionRowsModel", "frozenCycle", "[I", true)
  | 18 => ("EmissionRowsModel", "frozenConditions", "[I", true)
  | 19 => ("EmissionRowsModel", "cycles", "I", false)
  | 20 => ("EmissionRowsModel", "lit", "Z", false)
  | 21 => ("EmissionRowsModel", "metresLit", "J", false)
  | 22 => ("EmissionRowsModel", "minutesLit", "J", false)
  | 23 => ("EmissionRowsModel", "size", "I", false)
  | _ => ("EmissionRowsModel", "row", "[I", true)
def t_MOD : Nat → FieldType := fun k => match k with
  | 0 => .int
  | 1 => .int
  | 2 => .array .int
  | 3 => .array .int
  | 4 => .array .int
  | 5 => .array .int
  | 6 => .array .int
  | 7 => .array .boolean
  | 8 => .int
  | 9 => .array .int
  | 10 => .array .boolean
  | 11 => .array .boolean
  | 12 => .array .boolean
  | 13 => .array .boolean
  | 14 => .array .int
  | 15 => .array .int
  | 16 => .array .boolean
  | 17 => .array .int
  | 18 => .array .int
  | 19 => .int
  | 20 => .boolean
  | 21 => .long
  | 22 => .long
  | 23 => .int
  | _ => .array .int
theorem nok_MOD : ∀ a, a < 25 → ∀ b, b < 25 → a ≠ b → (T_MOD a).2.1 ≠ (T_MOD b).2.1 := by decide +kernel
theorem tok_MOD : ∀ k, k < 25 → parseFieldDescriptor (T_MOD k).2.2.1 = some (t_MOD k) := by decide +kernel
abbrev vwCl : List vw_C := [(R_ER, T_ER, 5), (R_AL, T_AL, 3), (R_LAMP, T_LAMP, 3), (R_OCT, T_OCT, 2), (R_MON, T_MON, 6), (R_COD, T_COD, 9), (R_MOD, T_MOD, 25)]
def lwG : List Cond := lw_tbl.filter goodWord
theorem in_ER : ∀ w ∈ u_ws R_ER T_ER 5, w ∈ lwG := by decide +kernel
theorem in_AL : ∀ w ∈ u_ws R_AL T_AL 3, w ∈ lwG := by decide +kernel
theorem in_LAMP : ∀ w ∈ u_ws R_LAMP T_LAMP 3, w ∈ lwG := by decide +kernel
theorem in_OCT : ∀ w ∈ u_ws R_OCT T_OCT 2, w ∈ lwG := by decide +kernel
theorem in_MON : ∀ w ∈ u_ws R_MON T_MON 6, w ∈ lwG := by decide +kernel
theorem in_COD : ∀ w ∈ u_ws R_COD T_COD 9, w ∈ lwG := by decide +kernel
theorem in_MOD : ∀ w ∈ u_ws R_MOD T_MOD 25, w ∈ lwG := by decide +kernel
theorem gi_all {a b : Cond} (h : b ∈ lwG) : GoodIn (a :: lwG) (b :: lwG) := by
  intro w hw
  rcases List.mem_cons.mp hw with rfl | h9
  · exact ⟨List.mem_cons_of_mem _ h, good_of_word (List.mem_filter.mp h).2⟩
  · exact ⟨List.mem_cons_of_mem _ h9, good_of_word (List.mem_filter.mp h9).2⟩
def nwL : List Cond := [.methodLinkNest "EmissionRows" 21 ⟨"EmissionRows$Lamp", "<init>", "()V"⟩ "EmissionRows", .fieldLinkNest "EmissionRows" 214 "EmissionRows$Lamp" "lit" "Z" "EmissionRows", .fieldLinkNest "EmissionRows" 220 "EmissionRows$Lamp" "metres" "J" "EmissionRows", .fieldLinkNest "EmissionRows" 134 "EmissionRows$Lamp" "minutes" "J" "EmissionRows", .methodLinkNest "EmissionRows" 28 ⟨"EmissionRows$Octets", "<init>", "()V"⟩ "EmissionRows", .fieldLinkNest "EmissionRows" 178 "EmissionRows$Octets" "octets" "[B" "EmissionRows", .fieldLinkNest "EmissionRows" 167 "EmissionRows$Octets" "length" "I" "EmissionRows", .methodLinkNest "EmissionRows" 47 ⟨"EmissionRows$Monitor", "<init>", "(II)V"⟩ "EmissionRows", .fieldLinkNest "EmissionRows" 202 "EmissionRows$Monitor" "kind" "I" "EmissionRows", .fieldLinkNest "EmissionRows" 77 "EmissionRows$Monitor" "runs" "I" "EmissionRows", .fieldLinkNest "EmissionRows" 80 "EmissionRows$Monitor" "chances" "I" "EmissionRows", .fieldLinkNest "EmissionRows" 122 "EmissionRows$Monitor" "tested" "Z" "EmissionRows", .methodLinkNest "EmissionRows" 189 ⟨"EmissionRows$Monitor", "endCycle", "(IZ)Z"⟩ "EmissionRows", .methodLinkNest "EmissionRows$Monitor" 39 ⟨"EmissionRows", "isBitSet", "(II)Z"⟩ "EmissionRows", .methodLinkNest "EmissionRows" 193 ⟨"EmissionRows$Code", "endCycleOn", "(II)V"⟩ "EmissionRows", .methodLinkNest "EmissionRows" 196 ⟨"EmissionRows$Code", "endCycleOff", "(I)V"⟩ "EmissionRows", .methodLinkNest "EmissionRows$Code" 40 ⟨"EmissionRows", "isBitSet", "(II)Z"⟩ "EmissionRows", .methodLinkNest "EmissionRows" 66 ⟨"EmissionRows$Lamp", "follow", "(Z)V"⟩ "EmissionRows", .methodLinkNest "EmissionRows" 110 ⟨"EmissionRows$Code", "<init>", "(IZ)V"⟩ "EmissionRows", .fieldLinkNest "EmissionRows" 116 "EmissionRows$Code" "number" "I" "EmissionRows", .fieldLinkNest "EmissionRows" 104 "EmissionRows$Code" "on" "Z" "EmissionRows", .fieldLinkNest "EmissionRows" 199 "EmissionRows$Code" "confirmed" "Z" "EmissionRows", .fieldLinkNest "EmissionRows" 113 "EmissionRows$Code" "lasting" "Z" "EmissionRows", .fieldLinkNest "EmissionRows" 146 "EmissionRows$Code" "frozenCycle" "I" "EmissionRows", .fieldLinkNest "EmissionRows" 149 "EmissionRows$Code" "frozenConditions" "I" "EmissionRows", .methodLinkNest "EmissionRows" 119 ⟨"EmissionRows$Code", "forgetFault", "()V"⟩ "EmissionRows", .methodLinkNest "EmissionRows" 125 ⟨"EmissionRows$Lamp", "reset", "()V"⟩ "EmissionRows", .methodLinkNest "EmissionRows" 130 ⟨"EmissionRows$Lamp", "goOn", "(JJ)Z"⟩ "EmissionRows", .methodLinkNest "EmissionRows" 205 ⟨"EmissionRows$Code", "hasFrozenRow", "()Z"⟩ "EmissionRows", .methodLinkNest "EmissionRows" 152 ⟨"EmissionRows$Octets", "drop", "()V"⟩ "EmissionRows", .methodLinkNest "EmissionRows" 209 ⟨"EmissionRows$Octets", "begin", "(I)V"⟩ "EmissionRows", .methodLinkNest "EmissionRows" 212 ⟨"EmissionRows$Octets", "add", "(I)V"⟩ "EmissionRows", .methodLinkNest "EmissionRows" 225 ⟨"EmissionRows$Octets", "addTwo", "(I)V"⟩ "EmissionRows", .methodLinkNest "EmissionRows" 228 ⟨"EmissionRows$Code", "isToldIn", "(I)Z"⟩ "EmissionRows", .methodLinkNest "EmissionRows" 182 ⟨"EmissionRows$Octets", "total", "()I"⟩ "EmissionRows", .castable "java/lang/ArithmeticException" "java/lang/ArithmeticException", .methodLinkNest "EmissionRows" 170 ⟨"EmissionRows$Octets", "has", "(I)Z"⟩ "EmissionRows", .castable "java/lang/IndexOutOfBoundsException" "java/lang/IndexOutOfBoundsException", .castable "EmissionRows$Monitor" "EmissionRows$Monitor", .castable "EmissionRows$Code" "EmissionRows$Code", .castable "EmissionRows" "java/lang/Object", .castable "EmissionRows$Lamp" "java/lang/Object", .castable "EmissionRows$Octets" "java/lang/Object", .castable "EmissionRowsModel" "java/lang/Object", .castable "EmissionRows$Monitor" "java/lang/Object", .castable "EmissionRows$Code" "java/lang/Object", .castable "java/lang/String" "java/lang/Object"]
def gT (G : va_G × (Nat → ClassId)) : List (ClassId × FieldType) := [(G.2 0, .object "java/lang/Object"), (G.2 1, .byte), (G.2 2, .int), (G.2 3, .boolean), (G.2 4, .long)]
theorem nw_101 : (.methodLinkNest "EmissionRows" 21 ⟨"EmissionRows$Lamp", "<init>", "()V"⟩ "EmissionRows" : Cond) ∈ nwL := List.mem_of_getElem? (i := 0) rfl
theorem nw_106 : (.fieldLinkNest "EmissionRows" 214 "EmissionRows$Lamp" "lit" "Z" "EmissionRows" : Cond) ∈ nwL := List.mem_of_getElem? (i := 1) rfl
theorem nw_108 : (.fieldLinkNest "EmissionRows" 220 "EmissionRows$Lamp" "metres" "J" "EmissionRows" : Cond) ∈ nwL := List.mem_of_getElem? (i := 2) rfl
theorem nw_110 : (.fieldLinkNest "EmissionRows" 134 "EmissionRows$Lamp" "minutes" "J" "EmissionRows" : Cond) ∈ nwL := List.mem_of_getElem? (i := 3) rfl
theorem nw_120 : (.methodLinkNest "EmissionRows" 28 ⟨"EmissionRows$Octets", "<init>", "()V"⟩ "EmissionRows" : Cond) ∈ nwL := List.mem_of_getElem? (i := 4) rfl
theorem nw_125 : (.fieldLinkNest "EmissionRows" 178 "EmissionRows$Octets" "octets" "[B" "EmissionRows" : Cond) ∈ nwL := List.mem_of_getElem? (i := 5) rfl
theorem nw_127 : (.fieldLinkNest "EmissionRows" 167 "EmissionRows$Octets" "length" "I" "EmissionRows" : Cond) ∈ nwL := List.mem_of_getElem? (i := 6) rfl
theorem nw_163 : (.methodLinkNest "EmissionRows" 47 ⟨"EmissionRows$Monitor", "<init>", "(II)V"⟩ "EmissionRows" : Cond) ∈ nwL := List.mem_of_getElem? (i := 7) rfl
theorem nw_168 : (.fieldLinkNest "EmissionRows" 202 "EmissionRows$Monitor" "kind" "I" "EmissionRows" : Cond) ∈ nwL := List.mem_of_getElem? (i := 8) rfl
theorem nw_171 : (.fieldLinkNest "EmissionRows" 77 "EmissionRows$Monitor" "runs" "I" "EmissionRows" : Cond) ∈ nwL := List.mem_of_getElem? (i := 9) rfl
theorem nw_173 : (.fieldLinkNest "EmissionRows" 80 "EmissionRows$Monitor" "chances" "I" "EmissionRows" : Cond) ∈ nwL := List.mem_of_getElem? (i := 10) rfl
theorem nw_176 : (.fieldLinkNest "EmissionRows" 122 "EmissionRows$Monitor" "tested" "Z" "EmissionRows" : Cond) ∈ nwL := List.mem_of_getElem? (i := 11) rfl
theorem nw_272 : (.methodLinkNest "EmissionRows" 189 ⟨"EmissionRows$Monitor", "endCycle", "(IZ)Z"⟩ "EmissionRows" : Cond) ∈ nwL := List.mem_of_getElem? (i := 12) rfl
theorem nw_280 : (.methodLinkNest "EmissionRows$Monitor" 39 ⟨"EmissionRows", "isBitSet", "(II)Z"⟩ "EmissionRows" : Cond) ∈ nwL := List.mem_of_getElem? (i := 13) rfl
theorem nw_290 : (.methodLinkNest "EmissionRows" 193 ⟨"EmissionRows$Code", "endCycleOn", "(II)V"⟩ "EmissionRows" : Cond) ∈ nwL := List.mem_of_getElem? (i := 14) rfl
theorem nw_295 : (.methodLinkNest "EmissionRows" 196 ⟨"EmissionRows$Code", "endCycleOff", "(I)V"⟩ "EmissionRows" : Cond) ∈ nwL := List.mem_of_getElem? (i := 15) rfl
theorem nw_299 : (.methodLinkNest "EmissionRows$Code" 40 ⟨"EmissionRows", "isBitSet", "(II)Z"⟩ "EmissionRows" : Cond) ∈ nwL := List.mem_of_getElem? (i := 16) rfl
theorem nw_308 : (.methodLinkNest "EmissionRows" 66 ⟨"EmissionRows$Lamp", "follow", "(Z)V"⟩ "EmissionRows" : Cond) ∈ nwL := List.mem_of_getElem? (i := 17) rfl
theorem nw_340 : (.methodLinkNest "EmissionRows" 110 ⟨"EmissionRows$Code", "<init>", "(IZ)V"⟩ "EmissionRows" : Cond) ∈ nwL := List.mem_of_getElem? (i := 18) rfl
theorem nw_345 : (.fieldLinkNest "EmissionRows" 116 "EmissionRows$Code" "number" "I" "EmissionRows" : Cond) ∈ nwL := List.mem_of_getElem? (i := 19) rfl
theorem nw_347 : (.fieldLinkNest "EmissionRows" 104 "EmissionRows$Code" "on" "Z" "EmissionRows" : Cond) ∈ nwL := List.mem_of_getElem? (i := 20) rfl
theorem nw_350 : (.fieldLinkNest "EmissionRows" 199 "EmissionRows$Code" "confirmed" "Z" "EmissionRows" : Cond) ∈ nwL := List.mem_of_getElem? (i := 21) rfl
theorem nw_352 : (.fieldLinkNest "EmissionRows" 113 "EmissionRows$Code" "lasting" "Z" "EmissionRows" : Cond) ∈ nwL := List.mem_of_getElem? (i := 22) rfl
theorem nw_356 : (.fieldLinkNest "EmissionRows" 146 "EmissionRows$Code" "frozenCycle" "I" "EmissionRows" : Cond) ∈ nwL := List.mem_of_getElem? (i := 23) rfl
theorem nw_358 : (.fieldLinkNest "EmissionRows" 149 "EmissionRows$Code" "frozenConditions" "I" "EmissionRows" : Cond) ∈ nwL := List.mem_of_getElem? (i := 24) rfl
theorem nw_386 : (.methodLinkNest "EmissionRows" 119 ⟨"EmissionRows$Code", "forgetFault", "()V"⟩ "EmissionRows" : Cond) ∈ nwL := List.mem_of_getElem? (i := 25) rfl
theorem nw_387 : (.methodLinkNest "EmissionRows" 125 ⟨"EmissionRows$Lamp", "reset", "()V"⟩ "EmissionRows" : Cond) ∈ nwL := List.mem_of_getElem? (i := 26) rfl
theorem nw_393 : (.methodLinkNest "EmissionRows" 130 ⟨"EmissionRows$Lamp", "goOn", "(JJ)Z"⟩ "EmissionRows" : Cond) ∈ nwL := List.mem_of_getElem? (i := 27) rfl
theorem nw_412 : (.methodLinkNest "EmissionRows" 205 ⟨"EmissionRows$Code", "hasFrozenRow", "()Z"⟩ "EmissionRows" : Cond) ∈ nwL := List.mem_of_getElem? (i := 28) rfl
theorem nw_420 : (.methodLinkNest "EmissionRows" 152 ⟨"EmissionRows$Octets", "drop", "()V"⟩ "EmissionRows" : Cond) ∈ nwL := List.mem_of_getElem? (i := 29) rfl
theorem nw_428 : (.methodLinkNest "EmissionRows" 209 ⟨"EmissionRows$Octets", "begin", "(I)V"⟩ "EmissionRows" : Cond) ∈ nwL := List.mem_of_getElem? (i := 30) rfl
theorem nw_436 : (.methodLinkNest "EmissionRows" 212 ⟨"EmissionRows$Octets", "add", "(I)V"⟩ "EmissionRows" : Cond) ∈ nwL := List.mem_of_getElem? (i := 31) rfl
theorem nw_442 : (.methodLinkNest "EmissionRows" 225 ⟨"EmissionRows$Octets", "addTwo", "(I)V"⟩ "EmissionRows" : Cond) ∈ nwL := List.mem_of_getElem? (i := 32) rfl
theorem nw_458 : (.methodLinkNest "EmissionRows" 228 ⟨"EmissionRows$Code", "isToldIn", "(I)Z"⟩ "EmissionRows" : Cond) ∈ nwL := List.mem_of_getElem? (i := 33) rfl
theorem nw_466 : (.methodLinkNest "EmissionRows" 182 ⟨"EmissionRows$Octets", "total", "()I"⟩ "EmissionRows" : Cond) ∈ nwL := List.mem_of_getElem? (i := 34) rfl
theorem nw_481 : (.castable "java/lang/ArithmeticException" "java/lang/ArithmeticException" : Cond) ∈ nwL := List.mem_of_getElem? (i := 35) rfl
theorem nw_556 : (.methodLinkNest "EmissionRows" 170 ⟨"EmissionRows$Octets", "has", "(I)Z"⟩ "EmissionRows" : Cond) ∈ nwL := List.mem_of_getElem? (i := 36) rfl
theorem nw_562 : (.castable "java/lang/IndexOutOfBoundsException" "java/lang/IndexOutOfBoundsException" : Cond) ∈ nwL := List.mem_of_getElem? (i := 37) rfl
theorem nw_780 : (.castable "EmissionRows$Monitor" "EmissionRows$Monitor" : Cond) ∈ nwL := List.mem_of_getElem? (i := 38) rfl
theorem nw_781 : (.castable "EmissionRows$Code" "EmissionRows$Code" : Cond) ∈ nwL := List.mem_of_getElem? (i := 39) rfl
theorem nw_785 : (.castable "EmissionRows" "java/lang/Object" : Cond) ∈ nwL := List.mem_of_getElem? (i := 40) rfl
theorem nw_786 : (.castable "EmissionRows$Lamp" "java/lang/Object" : Cond) ∈ nwL := List.mem_of_getElem? (i := 41) rfl
theorem nw_787 : (.castable "EmissionRows$Octets" "java/lang/Object" : Cond) ∈ nwL := List.mem_of_getElem? (i := 42) rfl
theorem nw_788 : (.castable "EmissionRowsModel" "java/lang/Object" : Cond) ∈ nwL := List.mem_of_getElem? (i := 43) rfl
theorem nw_789 : (.castable "EmissionRows$Monitor" "java/lang/Object" : Cond) ∈ nwL := List.mem_of_getElem? (i := 44) rfl
theorem nw_790 : (.castable "EmissionRows$Code" "java/lang/Object" : Cond) ∈ nwL := List.mem_of_getElem? (i := 45) rfl
theorem nw_791 : (.castable "java/lang/String" "java/lang/Object" : Cond) ∈ nwL := List.mem_of_getElem? (i := 46) rfl
end
section
theorem wd_44 : (.initialized "EmissionRowsLaw" : Cond) ∈ lwG := List.mem_filter.mpr ⟨List.mem_of_getElem? (i := 44) (by decide +kernel), by decide +kernel⟩
theorem wd_45 : (.initialized "EmissionRows" : Cond) ∈ lwG := List.mem_filter.mpr ⟨List.mem_of_getElem? (i := 45) (by decide +kernel), by decide +kernel⟩
theorem wd_46 : (.initialized "java/util/AbstractCollection" : Cond) ∈ lwG := List.mem_filter.mpr ⟨List.mem_of_getElem? (i := 46) (by decide +kernel), by decide +kernel⟩
theorem wd_47 : (.initialized "java/util/AbstractList" : Cond) ∈ lwG := List.mem_filter.mpr ⟨List.mem_of_getElem? (i := 47) (by decide +kernel), by decide +kernel⟩
theorem wd_48 : (.initialized "java/util/ArrayList" : Cond) ∈ lwG := List.mem_filter.mpr ⟨List.mem_of_getElem? (i := 48) (by decide +kernel), by decide +kernel⟩
theorem wd_49 : (.initialized "EmissionRows$Lamp" : Cond) ∈ lwG := List.mem_filter.mpr ⟨List.mem_of_getElem? (i := 49) (by decide +kernel), by decide +kernel⟩
theorem wd_50 : (.initialized "EmissionRows$Octets" : Cond) ∈ lwG := List.mem_filter.mpr ⟨List.mem_of_getElem? (i := 50) (by decide +kernel), by decide +kernel⟩
theorem wd_51 : (.initialized "EmissionRowsModel" : Cond) ∈ lwG := List.mem_filter.mpr ⟨List.mem_of_getElem? (i := 51) (by decide +kernel), by decide +kernel⟩
theorem wd_52 : (.initialized "EmissionRows$Monitor" : Cond) ∈ lwG := List.mem_filter.mpr ⟨List.mem_of_getElem? (i := 52) (by decide +kernel), by decide +kernel⟩
theorem wd_53 : (.initialized "jdk/internal/util/ArraysSupport" : Cond) ∈ lwG := List.mem_filter.mpr ⟨List.mem_of_getElem? (i := 53) (by decide +kernel), by decide +kernel⟩
theorem wd_54 : (.initialized "java/lang/Math" : Cond) ∈ lwG := List.mem_filter.mpr ⟨List.mem_of_getElem? (i := 54) (by decide +kernel), by decide +kernel⟩
theorem wd_55 : (.initialized "java/util/Arrays" : Cond) ∈ lwG := List.mem_filter.mpr ⟨List.mem_of_getElem? (i := 55) (by decide +kernel), by decide +kernel⟩
theorem wd_56 : (.initialized "java/lang/System" : Cond) ∈ lwG := List.mem_filter.mpr ⟨List.mem_of_getElem? (i := 56) (by decide +kernel), by decide +kernel⟩
theorem wd_57 : (.initialized "java/util/Objects" : Cond) ∈ lwG := List.mem_filter.mpr ⟨List.mem_of_getElem? (i := 57) (by decide +kernel), by decide +kernel⟩
theorem wd_58 : (.initialized "jdk/internal/util/Preconditions" : Cond) ∈ lwG := List.mem_filter.mpr ⟨List.mem_of_getElem? (i := 58) (by decide +kernel), by decide +kernel⟩
theorem wd_59 : (.initialized "java/lang/Throwable" : Cond) ∈ lwG := List.mem_filter.mpr ⟨List.mem_of_getElem? (i := 59) (by decide +kernel), by decide +kernel⟩
theorem wd_60 : (.initialized "java/lang/Exception" : Cond) ∈ lwG := List.mem_filter.mpr ⟨List.mem_of_getElem? (i := 60) (by decide +kernel), by decide +kernel⟩
theorem wd_61 : (.initialized "java/lang/RuntimeException" : Cond) ∈ lwG := List.mem_filter.mpr ⟨List.mem_of_getElem? (i := 61) (by decide +kernel), by decide +kernel⟩
theorem wd_62 : (.initialized "java/lang/ArithmeticException" : Cond) ∈ lwG := List.mem_filter.mpr ⟨List.mem_of_getElem? (i := 62) (by decide +kernel), by decide +kernel⟩
theorem wd_63 : (.initialized "EmissionRows$Code" : Cond) ∈ lwG := List.mem_filter.mpr ⟨List.mem_of_getElem? (i := 63) (by decide +kernel), by decide +kernel⟩
theorem wd_64 : (.initialized "java/lang/IndexOutOfBoundsException" : Cond) ∈ lwG := List.mem_filter.mpr ⟨List.mem_of_getElem? (i := 64) (by decide +kernel), by decide +kernel⟩
theorem wd_65 : (.classLink "EmissionRowsLaw" 8 "EmissionRows" : Cond) ∈ lwG := List.mem_filter.mpr ⟨List.mem_of_getElem? (i := 65) (by decide +kernel), by decide +kernel⟩
theorem wd_66 : (.instantiable "EmissionRows" 5 : Cond) ∈ lwG := List.mem_filter.mpr ⟨List.mem_of_getElem? (i := 66) (by decide +kernel), by decide +kernel⟩
theorem wd_67 : (.methodLink "EmissionRowsLaw" 21 ⟨"EmissionRows", "<init>", "()V"⟩ : Cond) ∈ lwG := List.mem_filter.mpr ⟨List.mem_of_getElem? (i := 67) (by decide +kernel), by decide +kernel⟩
theorem wd_68 : (.instanceMethod ⟨"EmissionRows", "<init>", "()V"⟩ : Cond) ∈ lwG := List.mem_filter.mpr ⟨List.mem_of_getElem? (i := 68) (by decide +kernel), by decide +kernel⟩
theorem wd_69 : (.code ⟨"EmissionRows", "<init>", "()V"⟩ prog_1_method_1_code 1 (Option.none : Option Jvm.ClassFile.FieldType) : Cond) ∈ lwG := List.mem_filter.mpr ⟨List.mem_of_getElem? (i := 69) (by decide +kernel), by decide +kernel⟩
theorem wd_70 : (.methodLink "EmissionRows" 1 ⟨"java/lang/Object", "<init>", "()V"⟩ : Cond) ∈ lwG := List.mem_filter.mpr ⟨List.mem_of_getElem? (i := 70) (by decide +kernel), by decide +kernel⟩
theorem wd_71 : (.instanceMethod ⟨"java/lang/Object", "<init>", "()V"⟩ : Cond) ∈ lwG := List.mem_filter.mpr ⟨List.mem_of_getElem? (i := 71) (by decide +kernel), by decide +kernel⟩
theorem wd_72 : (.code ⟨"java/lang/Object", "<init>", "()V"⟩ object_method_1_code 1 (Option.none : Option Jvm.ClassFile.FieldType) : Cond) ∈ lwG := List.mem_filter.mpr ⟨List.mem_of_getElem? (i := 72) (by decide +kernel), by decide +kernel⟩
theorem wd_73 : (.classLink "EmissionRows" 7 "java/util/ArrayList" : Cond) ∈ lwG := List.mem_filter.mpr ⟨List.mem_of_getElem? (i := 73) (by decide +kernel), by decide +kernel⟩
theorem wd_74 : (.instantiable "java/util/ArrayList" 3 : Cond) ∈ lwG := List.mem_filter.mpr ⟨List.mem_of_getElem? (i := 74) (by decide +kernel), by decide +kernel⟩
theorem wd_75 : (.methodLink "EmissionRows" 9 ⟨"java/util/ArrayList", "<init>", "()V"⟩ : Cond) ∈ lwG := List.mem_filter.mpr ⟨List.mem_of_getElem? (i := 75) (by decide +kernel), by decide +kernel⟩
theorem wd_76 : (.instanceMethod ⟨"java/util/ArrayList", "<init>", "()V"⟩ : Cond) ∈ lwG := List.mem_filter.mpr ⟨List.mem_of_getElem? (i := 76) (by decide +kernel), by decide +kernel⟩
theorem wd_77 : (.code ⟨"java/util/ArrayList", "<init>", "()V"⟩ prog_21_method_2_code 1 (Option.none : Option Jvm.ClassFile.FieldType) : Cond) ∈ lwG := List.mem_filter.mpr ⟨List.mem_of_getElem? (i := 77) (by decide +kernel), by decide +kernel⟩
theorem wd_78 : (.methodLink "java/util/ArrayList" 1 ⟨"java/util/AbstractList", "<init>", "()V"⟩ : Cond) ∈ lwG := List.mem_filter.mpr ⟨List.mem_of_getElem? (i := 78) (by decide +kernel), by decide +kernel⟩
theorem wd_79 : (.instanceMethod ⟨"java/util/AbstractList", "<init>", "()V"⟩ : Cond) ∈ lwG := List.mem_filter.mpr ⟨List.mem_of_getElem? (i := 79) (by decide +kernel), by decide +kernel⟩
theorem wd_80 : (.code ⟨"java/util/AbstractList", "<init>", "()V"⟩ prog_20_method_1_code 1 (Option.none : Option Jvm.ClassFile.FieldType) : Cond) ∈ lwG := List.mem_filter.mpr ⟨List.mem_of_getElem? (i := 80) (by decide +kernel), by decide +kernel⟩
theorem wd_81 : (.methodLink "java/util/AbstractList" 1 ⟨"java/util/AbstractCollection", "<init>", "()V"⟩ : Cond) ∈ lwG := List.mem_filter.mpr ⟨List.mem_of_getElem? (i := 81) (by decide +kernel), by decide +kernel⟩
theorem wd_82 : (.instanceMethod ⟨"java/util/AbstractCollection", "<init>", "()V"⟩ : Cond) ∈ lwG := List.mem_filter.mpr ⟨List.mem_of_getElem? (i := 82) (by decide +kernel), by decide +kernel⟩
theorem wd_83 : (.code ⟨"java/util/AbstractCollection", "<init>", "()V"⟩ prog_19_method_1_code 1 (Option.none : Option Jvm.ClassFile.FieldType) : Cond) ∈ lwG := List.mem_filter.mpr ⟨List.mem_of_getElem? (i := 83) (by decide +kernel), by decide +kernel⟩
theorem wd_84 : (.methodLink "java/util/AbstractCollection" 1 ⟨"java/lang/Object", "<init>", "()V"⟩ : Cond) ∈ lwG := List.mem_filter.mpr ⟨List.mem_of_getElem? (i := 84) (by decide +kernel), by decide +kernel⟩
theorem wd_85 : (.fieldLink "java/util/ArrayList" 39 "java/util/ArrayList" "DEFAULTCAPACITY_EMPTY_ELEMENTDATA" "[Ljava/lang/Object;" : Cond) ∈ lwG := List.mem_filter.mpr ⟨List.mem_of_getElem? (i := 85) (by decide +kernel), by decide +kernel⟩
theorem wd_87 : (.fieldLink "java/util/ArrayList" 9 "java/util/ArrayList" "elementData" "[Ljava/lang/Object;" : Cond) ∈ lwG := List.mem_filter.mpr ⟨List.mem_of_getElem? (i := 87) (by decide +kernel), by decide +kernel⟩
theorem wd_88 : (.fieldLink "java/util/ArrayList" 48 "java/util/ArrayList" "size" "I" : Cond) ∈ lwG := List.mem_filter.mpr ⟨List.mem_of_getElem? (i := 88) (by decide +kernel), by decide +kernel⟩
theorem wd_89 : (.fieldLink "java/util/AbstractList" 7 "java/util/AbstractList" "modCount" "I" : Cond) ∈ lwG := List.mem_filter.mpr ⟨List.mem_of_getElem? (i := 89) (by decide +kernel), by decide +kernel⟩
theorem wd_90 : (.fieldLink "java/util/ArrayList" 63 "java/util/ArrayList" "modCount" "I" : Cond) ∈ lwG := List.mem_filter.mpr ⟨List.mem_of_getElem? (i := 90) (by decide +kernel), by decide +kernel⟩
theorem wd_91 : (.sameField "java/util/ArrayList" "java/util/AbstractList" "modCount" "I" : Cond) ∈ lwG := List.mem_filter.mpr ⟨List.mem_of_getElem? (i := 91) (by decide +kernel), by decide +kernel⟩
theorem wd_99 : (.classLink "EmissionRows" 19 "EmissionRows$Lamp" : Cond) ∈ lwG := List.mem_filter.mpr ⟨List.mem_of_getElem? (i := 99) (by decide +kernel), by decide +kernel⟩
theorem wd_100 : (.instantiable "EmissionRows$Lamp" 3 : Cond) ∈ lwG := List.mem_filter.mpr ⟨List.mem_of_getElem? (i := 100) (by decide +kernel), by decide +kernel⟩
theorem wd_102 : (.instanceMethod ⟨"EmissionRows$Lamp", "<init>", "()V"⟩ : Cond) ∈ lwG := List.mem_filter.mpr ⟨List.mem_of_getElem? (i := 102) (by decide +kernel), by decide +kernel⟩
theorem wd_103 : (.code ⟨"EmissionRows$Lamp", "<init>", "()V"⟩ prog_3_method_1_code 1 (Option.none : Option Jvm.ClassFile.FieldType) : Cond) ∈ lwG := List.mem_filter.mpr ⟨List.mem_of_getElem? (i := 103) (by decide +kernel), by decide +kernel⟩
theorem wd_104 : (.methodLink "EmissionRows$Lamp" 1 ⟨"java/lang/Object", "<init>", "()V"⟩ : Cond) ∈ lwG := List.mem_filter.mpr ⟨List.mem_of_getElem? (i := 104) (by decide +kernel), by decide +kernel⟩
theorem wd_105 : (.fieldLink "EmissionRows$Lamp" 7 "EmissionRows$Lamp" "lit" "Z" : Cond) ∈ lwG := List.mem_filter.mpr ⟨List.mem_of_getElem? (i := 105) (by decide +kernel), by decide +kernel⟩
theorem wd_107 : (.fieldLink "EmissionRows$Lamp" 13 "EmissionRows$Lamp" "metres" "J" : Cond) ∈ lwG := List.mem_filter.mpr ⟨List.mem_of_getElem? (i := 107) (by decide +kernel), by decide +kernel⟩
theorem wd_109 : (.fieldLink "EmissionRows$Lamp" 17 "EmissionRows$Lamp" "minutes" "J" : Cond) ∈ lwG := List.mem_filter.mpr ⟨List.mem_of_getElem? (i := 109) (by decide +kernel), by decide +kernel⟩
theorem wd_118 : (.classLink "EmissionRows" 26 "EmissionRows$Octets" : Cond) ∈ lwG := List.mem_filter.mpr ⟨List.mem_of_getElem? (i := 118) (by decide +kernel), by decide +kernel⟩
theorem wd_119 : (.instantiable "EmissionRows$Octets" 2 : Cond) ∈ lwG := List.mem_filter.mpr ⟨List.mem_of_getElem? (i := 119) (by decide +kernel), by decide +kernel⟩
theorem wd_121 : (.instanceMethod ⟨"EmissionRows$Octets", "<init>", "()V"⟩ : Cond) ∈ lwG := List.mem_filter.mpr ⟨List.mem_of_getElem? (i := 121) (by decide +kernel), by decide +kernel⟩
theorem wd_122 : (.code ⟨"EmissionRows$Octets", "<init>", "()V"⟩ prog_5_method_1_code 1 (Option.none : Option Jvm.ClassFile.FieldType) : Cond) ∈ lwG := List.mem_filter.mpr ⟨List.mem_of_getElem? (i := 122) (by decide +kernel), by decide +kernel⟩
theorem wd_123 : (.methodLink "EmissionRows$Octets" 3 ⟨"java/lang/Object", "<init>", "()V"⟩ : Cond) ∈ lwG := List.mem_filter.mpr ⟨List.mem_of_getElem? (i := 123) (by decide +kernel), by decide +kernel⟩
theorem wd_124 : (.fieldLink "EmissionRows$Octets" 11 "EmissionRows$Octets" "octets" "[B" : Cond) ∈ lwG := List.mem_filter.mpr ⟨List.mem_of_getElem? (i := 124) (by decide +kernel), by decide +kernel⟩
theorem wd_126 : (.fieldLink "EmissionRows$Octets" 15 "EmissionRows$Octets" "length" "I" : Cond) ∈ lwG := List.mem_filter.mpr ⟨List.mem_of_getElem? (i := 126) (by decide +kernel), by decide +kernel⟩
theorem wd_133 : (.arrayClass .byte : Cond) ∈ lwG := List.mem_filter.mpr ⟨List.mem_of_getElem? (i := 133) (by decide +kernel), by decide +kernel⟩
theorem wd_134 : (.fieldLink "EmissionRows" 10 "EmissionRows" "monitors" "Ljava/util/ArrayList;" : Cond) ∈ lwG := List.mem_filter.mpr ⟨List.mem_of_getElem? (i := 134) (by decide +kernel), by decide +kernel⟩
theorem wd_135 : (.fieldLink "EmissionRows" 16 "EmissionRows" "codes" "Ljava/util/ArrayList;" : Cond) ∈ lwG := List.mem_filter.mpr ⟨List.mem_of_getElem? (i := 135) (by decide +kernel), by decide +kernel⟩
theorem wd_136 : (.fieldLink "EmissionRows" 22 "EmissionRows" "warning" "LEmissionRows$Lamp;" : Cond) ∈ lwG := List.mem_filter.mpr ⟨List.mem_of_getElem? (i := 136) (by decide +kernel), by decide +kernel⟩
theorem wd_137 : (.fieldLink "EmissionRows" 29 "EmissionRows" "told" "LEmissionRows$Octets;" : Cond) ∈ lwG := List.mem_filter.mpr ⟨List.mem_of_getElem? (i := 137) (by decide +kernel), by decide +kernel⟩
theorem wd_138 : (.fieldLink "EmissionRows" 33 "EmissionRows" "cycles" "I" : Cond) ∈ lwG := List.mem_filter.mpr ⟨List.mem_of_getElem? (i := 138) (by decide +kernel), by decide +kernel⟩
theorem wd_150 : (.methodLink "EmissionRowsLaw" 25 ⟨"EmissionRows", "monitor", "(II)I"⟩ : Cond) ∈ lwG := List.mem_filter.mpr ⟨List.mem_of_getElem? (i := 150) (by decide +kernel), by decide +kernel⟩
theorem wd_151 : (.instanceMethod ⟨"EmissionRows", "monitor", "(II)I"⟩ : Cond) ∈ lwG := List.mem_filter.mpr ⟨List.mem_of_getElem? (i := 151) (by decide +kernel), by decide +kernel⟩
theorem wd_152 : (.selects "EmissionRows" ⟨"EmissionRows", "monitor", "(II)I"⟩ ⟨"EmissionRows", "monitor", "(II)I"⟩ : Cond) ∈ lwG := List.mem_filter.mpr ⟨List.mem_of_getElem? (i := 152) (by decide +kernel), by decide +kernel⟩
theorem wd_153 : (.code ⟨"EmissionRows", "monitor", "(II)I"⟩ prog_1_method_2_code 3 (Option.some .int) : Cond) ∈ lwG := List.mem_filter.mpr ⟨List.mem_of_getElem? (i := 153) (by decide +kernel), by decide +kernel⟩
theorem wd_154 : (.methodLink "EmissionRows" 37 ⟨"EmissionRows", "isKind", "(I)Z"⟩ : Cond) ∈ lwG := List.mem_filter.mpr ⟨List.mem_of_getElem? (i := 154) (by decide +kernel), by decide +kernel⟩
theorem wd_155 : (.static ⟨"EmissionRows", "isKind", "(I)Z"⟩ : Cond) ∈ lwG := List.mem_filter.mpr ⟨List.mem_of_getElem? (i := 155) (by decide +kernel), by decide +kernel⟩
theorem wd_156 : (.code ⟨"EmissionRows", "isKind", "(I)Z"⟩ prog_1_method_15_code 1 (Option.some .boolean) : Cond) ∈ lwG := List.mem_filter.mpr ⟨List.mem_of_getElem? (i := 156) (by decide +kernel), by decide +kernel⟩
theorem wd_157 : (.methodLink "EmissionRows" 41 ⟨"java/util/ArrayList", "size", "()I"⟩ : Cond) ∈ lwG := List.mem_filter.mpr ⟨List.mem_of_getElem? (i := 157) (by decide +kernel), by decide +kernel⟩
theorem wd_158 : (.instanceMethod ⟨"java/util/ArrayList", "size", "()I"⟩ : Cond) ∈ lwG := List.mem_filter.mpr ⟨List.mem_of_getElem? (i := 158) (by decide +kernel), by decide +kernel⟩
theorem wd_159 : (.selects "java/util/ArrayList" ⟨"java/util/ArrayList", "size", "()I"⟩ ⟨"java/util/ArrayList", "size", "()I"⟩ : Cond) ∈ lwG := List.mem_filter.mpr ⟨List.mem_of_getElem? (i := 159) (by decide +kernel), by decide +kernel⟩
theorem wd_160 : (.code ⟨"java/util/ArrayList", "size", "()I"⟩ prog_21_method_8_code 1 (Option.some .int) : Cond) ∈ lwG := List.mem_filter.mpr ⟨List.mem_of_getElem? (i := 160) (by decide +kernel), by decide +kernel⟩
theorem wd_161 : (.classLink "EmissionRows" 45 "EmissionRows$Monitor" : Cond) ∈ lwG := List.mem_filter.mpr ⟨List.mem_of_getElem? (i := 161) (by decide +kernel), by decide +kernel⟩
theorem wd_162 : (.instantiable "EmissionRows$Monitor" 6 : Cond) ∈ lwG := List.mem_filter.mpr ⟨List.mem_of_getElem? (i := 162) (by decide +kernel), by decide +kernel⟩
theorem wd_164 : (.instanceMethod ⟨"EmissionRows$Monitor", "<init>", "(II)V"⟩ : Cond) ∈ lwG := List.mem_filter.mpr ⟨List.mem_of_getElem? (i := 164) (by decide +kernel), by decide +kernel⟩
theorem wd_165 : (.code ⟨"EmissionRows$Monitor", "<init>", "(II)V"⟩ prog_4_method_1_code 3 (Option.none : Option Jvm.ClassFile.FieldType) : Cond) ∈ lwG := List.mem_filter.mpr ⟨List.mem_of_getElem? (i := 165) (by decide +kernel), by decide +kernel⟩
theorem wd_166 : (.methodLink "EmissionRows$Monitor" 3 ⟨"java/lang/Object", "<init>", "()V"⟩ : Cond) ∈ lwG := List.mem_filter.mpr ⟨List.mem_of_getElem? (i := 166) (by decide +kernel), by decide +kernel⟩
theorem wd_167 : (.fieldLink "EmissionRows$Monitor" 25 "EmissionRows$Monitor" "kind" "I" : Cond) ∈ lwG := List.mem_filter.mpr ⟨List.mem_of_getElem? (i := 167) (by decide +kernel), by decide +kernel⟩
theorem wd_169 : (.fieldLink "EmissionRows$Monitor" 28 "EmissionRows$Monitor" "condition" "I" : Cond) ∈ lwG := List.mem_filter.mpr ⟨List.mem_of_getElem? (i := 169) (by decide +kernel), by decide +kernel⟩
theorem wd_170 : (.fieldLink "EmissionRows$Monitor" 9 "EmissionRows$Monitor" "runs" "I" : Cond) ∈ lwG := List.mem_filter.mpr ⟨List.mem_of_getElem? (i := 170) (by decide +kernel), by decide +kernel⟩
theorem wd_172 : (.fieldLink "EmissionRows$Monitor" 15 "EmissionRows$Monitor" "chances" "I" : Cond) ∈ lwG := List.mem_filter.mpr ⟨List.mem_of_getElem? (i := 172) (by decide +kernel), by decide +kernel⟩
theorem wd_174 : (.fieldLink "EmissionRows$Monitor" 18 "EmissionRows$Monitor" "cyclesHeld" "I" : Cond) ∈ lwG := List.mem_filter.mpr ⟨List.mem_of_getElem? (i := 174) (by decide +kernel), by decide +kernel⟩
theorem wd_175 : (.fieldLink "EmissionRows$Monitor" 21 "EmissionRows$Monitor" "tested" "Z" : Cond) ∈ lwG := List.mem_filter.mpr ⟨List.mem_of_getElem? (i := 175) (by decide +kernel), by decide +kernel⟩
theorem wd_190 : (.methodLink "EmissionRows" 50 ⟨"java/util/ArrayList", "add", "(Ljava/lang/Object;)Z"⟩ : Cond) ∈ lwG := List.mem_filter.mpr ⟨List.mem_of_getElem? (i := 190) (by decide +kernel), by decide +kernel⟩
theorem wd_191 : (.instanceMethod ⟨"java/util/ArrayList", "add", "(Ljava/lang/Object;)Z"⟩ : Cond) ∈ lwG := List.mem_filter.mpr ⟨List.mem_of_getElem? (i := 191) (by decide +kernel), by decide +kernel⟩
theorem wd_192 : (.selects "java/util/ArrayList" ⟨"java/util/ArrayList", "add", "(Ljava/lang/Object;)Z"⟩ ⟨"java/util/ArrayList", "add", "(Ljava/lang/Object;)Z"⟩ : Cond) ∈ lwG := List.mem_filter.mpr ⟨List.mem_of_getElem? (i := 192) (by decide +kernel), by decide +kernel⟩
theorem wd_193 : (.code ⟨"java/util/ArrayList", "add", "(Ljava/lang/Object;)Z"⟩ prog_21_method_25_code 2 (Option.some .boolean) : Cond) ∈ lwG := List.mem_filter.mpr ⟨List.mem_of_getElem? (i := 193) (by decide +kernel), by decide +kernel⟩
theorem wd_194 : (.methodLink "java/util/ArrayList" 131 ⟨"java/util/ArrayList", "add", "(Ljava/lang/Object;[Ljava/lang/Object;I)V"⟩ : Cond) ∈ lwG := List.mem_filter.mpr ⟨List.mem_of_getElem? (i := 194) (by decide +kernel), by decide +kernel⟩
theorem wd_196 : (.instanceMethod ⟨"java/util/ArrayList", "add", "(Ljava/lang/Object;[Ljava/lang/Object;I)V"⟩ : Cond) ∈ lwG := List.mem_filter.mpr ⟨List.mem_of_getElem? (i := 196) (by decide +kernel), by decide +kernel⟩
theorem wd_197 : (.code ⟨"java/util/ArrayList", "add", "(Ljava/lang/Object;[Ljava/lang/Object;I)V"⟩ prog_21_method_24_code 4 (Option.none : Option Jvm.ClassFile.FieldType) : Cond) ∈ lwG := List.mem_filter.mpr ⟨List.mem_of_getElem? (i := 197) (by decide +kernel), by decide +kernel⟩
theorem wd_198 : (.methodLink "java/util/ArrayList" 129 ⟨"java/util/ArrayList", "grow", "()[Ljava/lang/Object;"⟩ : Cond) ∈ lwG := List.mem_filter.mpr ⟨List.mem_of_getElem? (i := 198) (by decide +kernel), by decide +kernel⟩
theorem wd_200 : (.instanceMethod ⟨"java/util/ArrayList", "grow", "()[Ljava/lang/Object;"⟩ : Cond) ∈ lwG := List.mem_filter.mpr ⟨List.mem_of_getElem? (i := 200) (by decide +kernel), by decide +kernel⟩
theorem wd_201 : (.code ⟨"java/util/ArrayList", "grow", "()[Ljava/lang/Object;"⟩ prog_21_method_7_code 1 (Option.some (.array (.object "java/lang/Object"))) : Cond) ∈ lwG := List.mem_filter.mpr ⟨List.mem_of_getElem? (i := 201) (by decide +kernel), by decide +kernel⟩
theorem wd_202 : (.methodLink "java/util/ArrayList" 69 ⟨"java/util/ArrayList", "grow", "(I)[Ljava/lang/Object;"⟩ : Cond) ∈ lwG := List.mem_filter.mpr ⟨List.mem_of_getElem? (i := 202) (by decide +kernel), by decide +kernel⟩
theorem wd_204 : (.instanceMethod ⟨"java/util/ArrayList", "grow", "(I)[Ljava/lang/Object;"⟩ : Cond) ∈ lwG := List.mem_filter.mpr ⟨List.mem_of_getElem? (i := 204) (by decide +kernel), by decide +kernel⟩
theorem wd_205 : (.code ⟨"java/util/ArrayList", "grow", "(I)[Ljava/lang/Object;"⟩ prog_21_method_6_code 4 (Option.some (.array (.object "java/lang/Object"))) : Cond) ∈ lwG := List.mem_filter.mpr ⟨List.mem_of_getElem? (i := 205) (by decide +kernel), by decide +kernel⟩
theorem wd_206 : (.methodLink "java/util/ArrayList" 73 ⟨"jdk/internal/util/ArraysSupport", "newLength", "(III)I"⟩ : Cond) ∈ lwG := List.mem_filter.mpr ⟨List.mem_of_getElem? (i := 206) (by decide +kernel), by decide +kernel⟩
theorem wd_207 : (.static ⟨"jdk/internal/util/ArraysSupport", "newLength", "(III)I"⟩ : Cond) ∈ lwG := List.mem_filter.mpr ⟨List.mem_of_getElem? (i := 207) (by decide +kernel), by decide +kernel⟩
theorem wd_208 : (.code ⟨"jdk/internal/util/ArraysSupport", "newLength", "(III)I"⟩ prog_28_method_27_code 4 (Option.some .int) : Cond) ∈ lwG := List.mem_filter.mpr ⟨List.mem_of_getElem? (i := 208) (by decide +kernel), by decide +kernel⟩
theorem wd_209 : (.methodLink "jdk/internal/util/ArraysSupport" 194 ⟨"java/lang/Math", "max", "(II)I"⟩ : Cond) ∈ lwG := List.mem_filter.mpr ⟨List.mem_of_getElem? (i := 209) (by decide +kernel), by decide +kernel⟩
theorem wd_210 : (.static ⟨"java/lang/Math", "max", "(II)I"⟩ : Cond) ∈ lwG := List.mem_filter.mpr ⟨List.mem_of_getElem? (i := 210) (by decide +kernel), by decide +kernel⟩
theorem wd_211 : (.code ⟨"java/lang/Math", "max", "(II)I"⟩ prog_14_method_65_code 2 (Option.some .int) : Cond) ∈ lwG := List.mem_filter.mpr ⟨List.mem_of_getElem? (i := 211) (by decide +kernel), by decide +kernel⟩
theorem wd_212 : (.constant "jdk/internal/util/ArraysSupport" 200 2147483639 : Cond) ∈ lwG := List.mem_filter.mpr ⟨List.mem_of_getElem? (i := 212) (by decide +kernel), by decide +kernel⟩
theorem wd_213 : (.methodLink "jdk/internal/util/ArraysSupport" 201 ⟨"jdk/internal/util/ArraysSupport", "hugeLength", "(II)I"⟩ : Cond) ∈ lwG := List.mem_filter.mpr ⟨List.mem_of_getElem? (i := 213) (by decide +kernel), by decide +kernel⟩
theorem wd_214 : (.static ⟨"jdk/internal/util/ArraysSupport", "hugeLength", "(II)I"⟩ : Cond) ∈ lwG := List.mem_filter.mpr ⟨List.mem_of_getElem? (i := 214) (by decide +kernel), by decide +kernel⟩
theorem wd_215 : (.code ⟨"jdk/internal/util/ArraysSupport", "hugeLength", "(II)I"⟩ prog_28_method_28_code 3 (Option.some .int) : Cond) ∈ lwG := List.mem_filter.mpr ⟨List.mem_of_getElem? (i := 215) (by decide +kernel), by decide +kernel⟩
theorem wd_216 : (.methodLink "java/util/ArrayList" 66 ⟨"java/util/Arrays", "copyOf", "([Ljava/lang/Object;I)[Ljava/lang/Object;"⟩ : Cond) ∈ lwG := List.mem_filter.mpr ⟨List.mem_of_getElem? (i := 216) (by decide +kernel), by decide +kernel⟩
theorem wd_217 : (.static ⟨"java/util/Arrays", "copyOf", "([Ljava/lang/Object;I)[Ljava/lang/Object;"⟩ : Cond) ∈ lwG := List.mem_filter.mpr ⟨List.mem_of_getElem? (i := 217) (by decide +kernel), by decide +kernel⟩
theorem wd_218 : (.code ⟨"java/util/Arrays", "copyOf", "([Ljava/lang/Object;I)[Ljava/lang/Object;"⟩ prog_22_method_119_code 2 (Option.some (.array (.object "java/lang/Object"))) : Cond) ∈ lwG := List.mem_filter.mpr ⟨List.mem_of_getElem? (i := 218) (by decide +kernel), by decide +kernel⟩
theorem wd_219 : (.methodLink "java/util/Arrays" 86 ⟨"java/lang/Object", "getClass", "()Ljava/lang/Class;"⟩ : Cond) ∈ lwG := List.mem_filter.mpr ⟨List.mem_of_getElem? (i := 219) (by decide +kernel), by decide +kernel⟩
theorem wd_220 : (.instanceMethod ⟨"java/lang/Object", "getClass", "()Ljava/lang/Class;"⟩ : Cond) ∈ lwG := List.mem_filter.mpr ⟨List.mem_of_getElem? (i := 220) (by decide +kernel), by decide +kernel⟩
theorem wd_222 : (.selects "EmissionRows" ⟨"java/lang/Object", "getClass", "()Ljava/lang/Class;"⟩ ⟨"java/lang/Object", "getClass", "()Ljava/lang/Class;"⟩ : Cond) ∈ lwG := List.mem_filter.mpr ⟨List.mem_of_getElem? (i := 222) (by decide +kernel), by decide +kernel⟩
theorem wd_223 : (.selects "EmissionRows$Code" ⟨"java/lang/Object", "getClass", "()Ljava/lang/Class;"⟩ ⟨"java/lang/Object", "getClass", "()Ljava/lang/Class;"⟩ : Cond) ∈ lwG := List.mem_filter.mpr ⟨List.mem_of_getElem? (i := 223) (by decide +kernel), by decide +kernel⟩
theorem wd_224 : (.selects "EmissionRows$Lamp" ⟨"java/lang/Object", "getClass", "()Ljava/lang/Class;"⟩ ⟨"java/lang/Object", "getClass", "()Ljava/lang/Class;"⟩ : Cond) ∈ lwG := List.mem_filter.mpr ⟨List.mem_of_getElem? (i := 224) (by decide +kernel), by decide +kernel⟩
theorem wd_225 : (.selects "EmissionRows$Monitor" ⟨"java/lang/Object", "getClass", "()Ljava/lang/Class;"⟩ ⟨"java/lang/Object", "getClass", "()Ljava/lang/Class;"⟩ : Cond) ∈ lwG := List.mem_filter.mpr ⟨List.mem_of_getElem? (i := 225) (by decide +kernel), by decide +kernel⟩
theorem wd_226 : (.selects "EmissionRows$Octets" ⟨"java/lang/Object", "getClass", "()Ljava/lang/Class;"⟩ ⟨"java/lang/Object", "getClass", "()Ljava/lang/Class;"⟩ : Cond) ∈ lwG := List.mem_filter.mpr ⟨List.mem_of_getElem? (i := 226) (by decide +kernel), by decide +kernel⟩
theorem wd_227 : (.selects "EmissionRowsModel" ⟨"java/lang/Object", "getClass", "()Ljava/lang/Class;"⟩ ⟨"java/lang/Object", "getClass", "()Ljava/lang/Class;"⟩ : Cond) ∈ lwG := List.mem_filter.mpr ⟨List.mem_of_getElem? (i := 227) (by decide +kernel), by decide +kernel⟩
theorem wd_228 : (.selects "java/lang/ArithmeticException" ⟨"java/lang/Object", "getClass", "()Ljava/lang/Class;"⟩ ⟨"java/lang/Object", "getClass", "()Ljava/lang/Class;"⟩ : Cond) ∈ lwG := List.mem_filter.mpr ⟨List.mem_of_getElem? (i := 228) (by decide +kernel), by decide +kernel⟩
theorem wd_229 : (.selects "java/lang/IndexOutOfBoundsException" ⟨"java/lang/Object", "getClass", "()Ljava/lang/Class;"⟩ ⟨"java/lang/Object", "getClass", "()Ljava/lang/Class;"⟩ : Cond) ∈ lwG := List.mem_filter.mpr ⟨List.mem_of_getElem? (i := 229) (by decide +kernel), by decide +kernel⟩
theorem wd_230 : (.selects "java/util/ArrayList" ⟨"java/lang/Object", "getClass", "()Ljava/lang/Class;"⟩ ⟨"java/lang/Object", "getClass", "()Ljava/lang/Class;"⟩ : Cond) ∈ lwG := List.mem_filter.mpr ⟨List.mem_of_getElem? (i := 230) (by decide +kernel), by decide +kernel⟩
theorem wd_231 : (.native ⟨"java/lang/Object", "getClass", "()Ljava/lang/Class;"⟩ : Cond) ∈ lwG := List.mem_filter.mpr ⟨List.mem_of_getElem? (i := 231) (by decide +kernel), by decide +kernel⟩
theorem wd_232 : (.methodLink "java/util/Arrays" 300 ⟨"java/util/Arrays", "copyOf", "([Ljava/lang/Object;ILjava/lang/Class;)[Ljava/lang/Object;"⟩ : Cond) ∈ lwG := List.mem_filter.mpr ⟨List.mem_of_getElem? (i := 232) (by decide +kernel), by decide +kernel⟩
theorem wd_233 : (.static ⟨"java/util/Arrays", "copyOf", "([Ljava/lang/Object;ILjava/lang/Class;)[Ljava/lang/Object;"⟩ : Cond) ∈ lwG := List.mem_filter.mpr ⟨List.mem_of_getElem? (i := 233) (by decide +kernel), by decide +kernel⟩
theorem wd_234 : (.code ⟨"java/util/Arrays", "copyOf", "([Ljava/lang/Object;ILjava/lang/Class;)[Ljava/lang/Object;"⟩ prog_22_method_120_code 4 (Option.some (.array (.object "java/lang/Object"))) : Cond) ∈ lwG := List.mem_filter.mpr ⟨List.mem_of_getElem? (i := 234) (by decide +kernel), by decide +kernel⟩
theorem wd_235 : (.classLink "java/util/Arrays" 110 "[Ljava/lang/Object;" : Cond) ∈ lwG := List.mem_filter.mpr ⟨List.mem_of_getElem? (i := 235) (by decide +kernel), by decide +kernel⟩
theorem wd_237 : (.classLink "java/util/Arrays" 2 "java/lang/Object" : Cond) ∈ lwG := List.mem_filter.mpr ⟨List.mem_of_getElem? (i := 237) (by decide +kernel), by decide +kernel⟩
theorem wd_238 : (.methodLink "java/util/Arrays" 304 ⟨"java/lang/Math", "min", "(II)I"⟩ : Cond) ∈ lwG := List.mem_filter.mpr ⟨List.mem_of_getElem? (i := 238) (by decide +kernel), by decide +kernel⟩
theorem wd_239 : (.static ⟨"java/lang/Math", "min", "(II)I"⟩ : Cond) ∈ lwG := List.mem_filter.mpr ⟨List.mem_of_getElem? (i := 239) (by decide +kernel), by decide +kernel⟩
theorem wd_240 : (.code ⟨"java/lang/Math", "min", "(II)I"⟩ prog_14_method_69_code 2 (Option.some .int) : Cond) ∈ lwG := List.mem_filter.mpr ⟨List.mem_of_getElem? (i := 240) (by decide +kernel), by decide +kernel⟩
theorem wd_241 : (.methodLink "java/util/Arrays" 150 ⟨"java/lang/System", "arraycopy", "(Ljava/lang/Object;ILjava/lang/Object;II)V"⟩ : Cond) ∈ lwG := List.mem_filter.mpr ⟨List.mem_of_getElem? (i := 241) (by decide +kernel), by decide +kernel⟩
theorem wd_242 : (.static ⟨"java/lang/System", "arraycopy", "(Ljava/lang/Object;ILjava/lang/Object;II)V"⟩ : Cond) ∈ lwG := List.mem_filter.mpr ⟨List.mem_of_getElem? (i := 242) (by decide +kernel), by decide +kernel⟩
theorem wd_243 : (.native ⟨"java/lang/System", "arraycopy", "(Ljava/lang/Object;ILjava/lang/Object;II)V"⟩ : Cond) ∈ lwG := List.mem_filter.mpr ⟨List.mem_of_getElem? (i := 243) (by decide +kernel), by decide +kernel⟩
theorem wd_244 : (.methodLink "java/util/ArrayList" 79 ⟨"java/lang/Math", "max", "(II)I"⟩ : Cond) ∈ lwG := List.mem_filter.mpr ⟨List.mem_of_getElem? (i := 244) (by decide +kernel), by decide +kernel⟩
theorem wd_245 : (.classLink "java/util/ArrayList" 7 "java/lang/Object" : Cond) ∈ lwG := List.mem_filter.mpr ⟨List.mem_of_getElem? (i := 245) (by decide +kernel), by decide +kernel⟩
theorem wd_246 : (.methodLink "EmissionRowsLaw" 30 ⟨"EmissionRows", "cycle", "(II)I"⟩ : Cond) ∈ lwG := List.mem_filter.mpr ⟨List.mem_of_getElem? (i := 246) (by decide +kernel), by decide +kernel⟩
theorem wd_247 : (.instanceMethod ⟨"EmissionRows", "cycle", "(II)I"⟩ : Cond) ∈ lwG := List.mem_filter.mpr ⟨List.mem_of_getElem? (i := 247) (by decide +kernel), by decide +kernel⟩
theorem wd_248 : (.selects "EmissionRows" ⟨"EmissionRows", "cycle", "(II)I"⟩ ⟨"EmissionRows", "cycle", "(II)I"⟩ : Cond) ∈ lwG := List.mem_filter.mpr ⟨List.mem_of_getElem? (i := 248) (by decide +kernel), by decide +kernel⟩
theorem wd_249 : (.code ⟨"EmissionRows", "cycle", "(II)I"⟩ prog_1_method_3_code 4 (Option.some .int) : Cond) ∈ lwG := List.mem_filter.mpr ⟨List.mem_of_getElem? (i := 249) (by decide +kernel), by decide +kernel⟩
theorem wd_250 : (.constant "EmissionRows" 54 65535 : Cond) ∈ lwG := List.mem_filter.mpr ⟨List.mem_of_getElem? (i := 250) (by decide +kernel), by decide +kernel⟩
theorem wd_251 : (.methodLink "EmissionRows" 55 ⟨"EmissionRows", "passMonitors", "(II)I"⟩ : Cond) ∈ lwG := List.mem_filter.mpr ⟨List.mem_of_getElem? (i := 251) (by decide +kernel), by decide +kernel⟩
theorem wd_253 : (.instanceMethod ⟨"EmissionRows", "passMonitors", "(II)I"⟩ : Cond) ∈ lwG := List.mem_filter.mpr ⟨List.mem_of_getElem? (i := 253) (by decide +kernel), by decide +kernel⟩
theorem wd_254 : (.code ⟨"EmissionRows", "passMonitors", "(II)I"⟩ prog_1_method_17_code 5 (Option.some .int) : Cond) ∈ lwG := List.mem_filter.mpr ⟨List.mem_of_getElem? (i := 254) (by decide +kernel), by decide +kernel⟩
theorem wd_255 : (.methodLink "EmissionRows" 73 ⟨"java/util/ArrayList", "get", "(I)Ljava/lang/Object;"⟩ : Cond) ∈ lwG := List.mem_filter.mpr ⟨List.mem_of_getElem? (i := 255) (by decide +kernel), by decide +kernel⟩
theorem wd_256 : (.instanceMethod ⟨"java/util/ArrayList", "get", "(I)Ljava/lang/Object;"⟩ : Cond) ∈ lwG := List.mem_filter.mpr ⟨List.mem_of_getElem? (i := 256) (by decide +kernel), by decide +kernel⟩
theorem wd_257 : (.selects "java/util/ArrayList" ⟨"java/util/ArrayList", "get", "(I)Ljava/lang/Object;"⟩ ⟨"java/util/ArrayList", "get", "(I)Ljava/lang/Object;"⟩ : Cond) ∈ lwG := List.mem_filter.mpr ⟨List.mem_of_getElem? (i := 257) (by decide +kernel), by decide +kernel⟩
theorem wd_258 : (.code ⟨"java/util/ArrayList", "get", "(I)Ljava/lang/Object;"⟩ prog_21_method_20_code 2 (Option.some (.object "java/lang/Object")) : Cond) ∈ lwG := List.mem_filter.mpr ⟨List.mem_of_getElem? (i := 258) (by decide +kernel), by decide +kernel⟩
theorem wd_259 : (.methodLink "java/util/ArrayList" 118 ⟨"java/util/Objects", "checkIndex", "(II)I"⟩ : Cond) ∈ lwG := List.mem_filter.mpr ⟨List.mem_of_getElem? (i := 259) (by decide +kernel), by decide +kernel⟩
theorem wd_260 : (.static ⟨"java/util/Objects", "checkIndex", "(II)I"⟩ : Cond) ∈ lwG := List.mem_filter.mpr ⟨List.mem_of_getElem? (i := 260) (by decide +kernel), by decide +kernel⟩
theorem wd_261 : (.code ⟨"java/util/Objects", "checkIndex", "(II)I"⟩ prog_25_method_17_code 2 (Option.some .int) : Cond) ∈ lwG := List.mem_filter.mpr ⟨List.mem_of_getElem? (i := 261) (by decide +kernel), by decide +kernel⟩
theorem wd_262 : (.methodLink "java/util/Objects" 105 ⟨"jdk/internal/util/Preconditions", "checkIndex", "(IILjava/util/function/BiFunction;)I"⟩ : Cond) ∈ lwG := List.mem_filter.mpr ⟨List.mem_of_getElem? (i := 262) (by decide +kernel), by decide +kernel⟩
theorem wd_263 : (.static ⟨"jdk/internal/util/Preconditions", "checkIndex", "(IILjava/util/function/BiFunction;)I"⟩ : Cond) ∈ lwG := List.mem_filter.mpr ⟨List.mem_of_getElem? (i := 263) (by decide +kernel), by decide +kernel⟩
theorem wd_264 : (.code ⟨"jdk/internal/util/Preconditions", "checkIndex", "(IILjava/util/function/BiFunction;)I"⟩ prog_29_method_11_code 3 (Option.some .int) : Cond) ∈ lwG := List.mem_filter.mpr ⟨List.mem_of_getElem? (i := 264) (by decide +kernel), by decide +kernel⟩
theorem wd_265 : (.methodLink "java/util/ArrayList" 123 ⟨"java/util/ArrayList", "elementData", "(I)Ljava/lang/Object;"⟩ : Cond) ∈ lwG := List.mem_filter.mpr ⟨List.mem_of_getElem? (i := 265) (by decide +kernel), by decide +kernel⟩
theorem wd_266 : (.instanceMethod ⟨"java/util/ArrayList", "elementData", "(I)Ljava/lang/Object;"⟩ : Cond) ∈ lwG := List.mem_filter.mpr ⟨List.mem_of_getElem? (i := 266) (by decide +kernel), by decide +kernel⟩
theorem wd_267 : (.selects "java/util/ArrayList" ⟨"java/util/ArrayList", "elementData", "(I)Ljava/lang/Object;"⟩ ⟨"java/util/ArrayList", "elementData", "(I)Ljava/lang/Object;"⟩ : Cond) ∈ lwG := List.mem_filter.mpr ⟨List.mem_of_getElem? (i := 267) (by decide +kernel), by decide +kernel⟩
theorem wd_268 : (.code ⟨"java/util/ArrayList", "elementData", "(I)Ljava/lang/Object;"⟩ prog_21_method_18_code 2 (Option.some (.object "java/lang/Object")) : Cond) ∈ lwG := List.mem_filter.mpr ⟨List.mem_of_getElem? (i := 268) (by decide +kernel), by decide +kernel⟩
theorem wd_269 : (.methodLink "EmissionRows" 185 ⟨"EmissionRows", "isBitSet", "(II)Z"⟩ : Cond) ∈ lwG := List.mem_filter.mpr ⟨List.mem_of_getElem? (i := 269) (by decide +kernel), by decide +kernel⟩
theorem wd_270 : (.static ⟨"EmissionRows", "isBitSet", "(II)Z"⟩ : Cond) ∈ lwG := List.mem_filter.mpr ⟨List.mem_of_getElem? (i := 270) (by decide +kernel), by decide +kernel⟩
theorem wd_271 : (.code ⟨"EmissionRows", "isBitSet", "(II)Z"⟩ prog_1_method_28_code 2 (Option.some .boolean) : Cond) ∈ lwG := List.mem_filter.mpr ⟨List.mem_of_getElem? (i := 271) (by decide +kernel), by decide +kernel⟩
theorem wd_274 : (.instanceMethod ⟨"EmissionRows$Monitor", "endCycle", "(IZ)Z"⟩ : Cond) ∈ lwG := List.mem_filter.mpr ⟨List.mem_of_getElem? (i := 274) (by decide +kernel), by decide +kernel⟩
theorem wd_275 : (.code ⟨"EmissionRows$Monitor", "endCycle", "(IZ)Z"⟩ prog_4_method_2_code 4 (Option.some .boolean) : Cond) ∈ lwG := List.mem_filter.mpr ⟨List.mem_of_getElem? (i := 275) (by decide +kernel), by decide +kernel⟩
theorem wd_276 : (.methodLink "EmissionRows$Monitor" 31 ⟨"EmissionRows$Monitor", "hasChance", "(I)Z"⟩ : Cond) ∈ lwG := List.mem_filter.mpr ⟨List.mem_of_getElem? (i := 276) (by decide +kernel), by decide +kernel⟩
theorem wd_278 : (.instanceMethod ⟨"EmissionRows$Monitor", "hasChance", "(I)Z"⟩ : Cond) ∈ lwG := List.mem_filter.mpr ⟨List.mem_of_getElem? (i := 278) (by decide +kernel), by decide +kernel⟩
theorem wd_279 : (.code ⟨"EmissionRows$Monitor", "hasChance", "(I)Z"⟩ prog_4_method_3_code 3 (Option.some .boolean) : Cond) ∈ lwG := List.mem_filter.mpr ⟨List.mem_of_getElem? (i := 279) (by decide +kernel), by decide +kernel⟩
theorem wd_281 : (.methodLink "EmissionRows$Monitor" 35 ⟨"EmissionRows$Monitor", "countChance", "(Z)V"⟩ : Cond) ∈ lwG := List.mem_filter.mpr ⟨List.mem_of_getElem? (i := 281) (by decide +kernel), by decide +kernel⟩
theorem wd_283 : (.instanceMethod ⟨"EmissionRows$Monitor", "countChance", "(Z)V"⟩ : Cond) ∈ lwG := List.mem_filter.mpr ⟨List.mem_of_getElem? (i := 283) (by decide +kernel), by decide +kernel⟩
theorem wd_284 : (.code ⟨"EmissionRows$Monitor", "countChance", "(Z)V"⟩ prog_4_method_4_code 2 (Option.none : Option Jvm.ClassFile.FieldType) : Cond) ∈ lwG := List.mem_filter.mpr ⟨List.mem_of_getElem? (i := 284) (by decide +kernel), by decide +kernel⟩
theorem wd_285 : (.methodLink "EmissionRows" 59 ⟨"EmissionRows", "passCodes", "(I)V"⟩ : Cond) ∈ lwG := List.mem_filter.mpr ⟨List.mem_of_getElem? (i := 285) (by decide +kernel), by decide +kernel⟩
theorem wd_287 : (.instanceMethod ⟨"EmissionRows", "passCodes", "(I)V"⟩ : Cond) ∈ lwG := List.mem_filter.mpr ⟨List.mem_of_getElem? (i := 287) (by decide +kernel), by decide +kernel⟩
theorem wd_288 : (.code ⟨"EmissionRows", "passCodes", "(I)V"⟩ prog_1_method_18_code 4 (Option.none : Option Jvm.ClassFile.FieldType) : Cond) ∈ lwG := List.mem_filter.mpr ⟨List.mem_of_getElem? (i := 288) (by decide +kernel), by decide +kernel⟩
theorem wd_289 : (.classLink "EmissionRows" 105 "EmissionRows$Code" : Cond) ∈ lwG := List.mem_filter.mpr ⟨List.mem_of_getElem? (i := 289) (by decide +kernel), by decide +kernel⟩
theorem wd_292 : (.instanceMethod ⟨"EmissionRows$Code", "endCycleOn", "(II)V"⟩ : Cond) ∈ lwG := List.mem_filter.mpr ⟨List.mem_of_getElem? (i := 292) (by decide +kernel), by decide +kernel⟩
theorem wd_293 : (.instantiable "EmissionRows$Code" 9 : Cond) ∈ lwG := List.mem_filter.mpr ⟨List.mem_of_getElem? (i := 293) (by decide +kernel), by decide +kernel⟩
theorem wd_294 : (.code ⟨"EmissionRows$Code", "endCycleOn", "(II)V"⟩ prog_2_method_2_code 3 (Option.none : Option Jvm.ClassFile.FieldType) : Cond) ∈ lwG := List.mem_filter.mpr ⟨List.mem_of_getElem? (i := 294) (by decide +kernel), by decide +kernel⟩
theorem wd_297 : (.instanceMethod ⟨"EmissionRows$Code", "endCycleOff", "(I)V"⟩ : Cond) ∈ lwG := List.mem_filter.mpr ⟨List.mem_of_getElem? (i := 297) (by decide +kernel), by decide +kernel⟩
theorem wd_298 : (.code ⟨"EmissionRows$Code", "endCycleOff", "(I)V"⟩ prog_2_method_3_code 2 (Option.none : Option Jvm.ClassFile.FieldType) : Cond) ∈ lwG := List.mem_filter.mpr ⟨List.mem_of_getElem? (i := 298) (by decide +kernel), by decide +kernel⟩
theorem wd_300 : (.methodLink "EmissionRows$Code" 44 ⟨"EmissionRows$Code", "forgetFault", "()V"⟩ : Cond) ∈ lwG := List.mem_filter.mpr ⟨List.mem_of_getElem? (i := 300) (by decide +kernel), by decide +kernel⟩
theorem wd_302 : (.instanceMethod ⟨"EmissionRows$Code", "forgetFault", "()V"⟩ : Cond) ∈ lwG := List.mem_filter.mpr ⟨List.mem_of_getElem? (i := 302) (by decide +kernel), by decide +kernel⟩
theorem wd_303 : (.code ⟨"EmissionRows$Code", "forgetFault", "()V"⟩ prog_2_method_4_code 1 (Option.none : Option Jvm.ClassFile.FieldType) : Cond) ∈ lwG := List.mem_filter.mpr ⟨List.mem_of_getElem? (i := 303) (by decide +kernel), by decide +kernel⟩
theorem wd_304 : (.methodLink "EmissionRows" 63 ⟨"EmissionRows", "howManyConfirmed", "()I"⟩ : Cond) ∈ lwG := List.mem_filter.mpr ⟨List.mem_of_getElem? (i := 304) (by decide +kernel), by decide +kernel⟩
theorem wd_306 : (.instanceMethod ⟨"EmissionRows", "howManyConfirmed", "()I"⟩ : Cond) ∈ lwG := List.mem_filter.mpr ⟨List.mem_of_getElem? (i := 306) (by decide +kernel), by decide +kernel⟩
theorem wd_307 : (.code ⟨"EmissionRows", "howManyConfirmed", "()I"⟩ prog_1_method_19_code 3 (Option.some .int) : Cond) ∈ lwG := List.mem_filter.mpr ⟨List.mem_of_getElem? (i := 307) (by decide +kernel), by decide +kernel⟩
theorem wd_310 : (.instanceMethod ⟨"EmissionRows$Lamp", "follow", "(Z)V"⟩ : Cond) ∈ lwG := List.mem_filter.mpr ⟨List.mem_of_getElem? (i := 310) (by decide +kernel), by decide +kernel⟩
theorem wd_311 : (.code ⟨"EmissionRows$Lamp", "follow", "(Z)V"⟩ prog_3_method_2_code 2 (Option.none : Option Jvm.ClassFile.FieldType) : Cond) ∈ lwG := List.mem_filter.mpr ⟨List.mem_of_getElem? (i := 311) (by decide +kernel), by decide +kernel⟩
theorem wd_312 : (.methodLink "EmissionRows$Lamp" 20 ⟨"EmissionRows$Lamp", "reset", "()V"⟩ : Cond) ∈ lwG := List.mem_filter.mpr ⟨List.mem_of_getElem? (i := 312) (by decide +kernel), by decide +kernel⟩
theorem wd_314 : (.instanceMethod ⟨"EmissionRows$Lamp", "reset", "()V"⟩ : Cond) ∈ lwG := List.mem_filter.mpr ⟨List.mem_of_getElem? (i := 314) (by decide +kernel), by decide +kernel⟩
theorem wd_315 : (.code ⟨"EmissionRows$Lamp", "reset", "()V"⟩ prog_3_method_4_code 1 (Option.none : Option Jvm.ClassFile.FieldType) : Cond) ∈ lwG := List.mem_filter.mpr ⟨List.mem_of_getElem? (i := 315) (by decide +kernel), by decide +kernel⟩
theorem wd_316 : (.methodLink "EmissionRowsLaw" 34 ⟨"EmissionRows", "count", "(II)I"⟩ : Cond) ∈ lwG := List.mem_filter.mpr ⟨List.mem_of_getElem? (i := 316) (by decide +kernel), by decide +kernel⟩
theorem wd_317 : (.instanceMethod ⟨"EmissionRows", "count", "(II)I"⟩ : Cond) ∈ lwG := List.mem_filter.mpr ⟨List.mem_of_getElem? (i := 317) (by decide +kernel), by decide +kernel⟩
theorem wd_318 : (.selects "EmissionRows" ⟨"EmissionRows", "count", "(II)I"⟩ ⟨"EmissionRows", "count", "(II)I"⟩ : Cond) ∈ lwG := List.mem_filter.mpr ⟨List.mem_of_getElem? (i := 318) (by decide +kernel), by decide +kernel⟩
theorem wd_319 : (.code ⟨"EmissionRows", "count", "(II)I"⟩ prog_1_method_4_code 4 (Option.some .int) : Cond) ∈ lwG := List.mem_filter.mpr ⟨List.mem_of_getElem? (i := 319) (by decide +kernel), by decide +kernel⟩
theorem wd_320 : (.methodLink "EmissionRows" 70 ⟨"EmissionRows", "isMonitor", "(I)Z"⟩ : Cond) ∈ lwG := List.mem_filter.mpr ⟨List.mem_of_getElem? (i := 320) (by decide +kernel), by decide +kernel⟩
theorem wd_322 : (.instanceMethod ⟨"EmissionRows", "isMonitor", "(I)Z"⟩ : Cond) ∈ lwG := List.mem_filter.mpr ⟨List.mem_of_getElem? (i := 322) (by decide +kernel), by decide +kernel⟩
theorem wd_323 : (.code ⟨"EmissionRows", "isMonitor", "(I)Z"⟩ prog_1_method_16_code 2 (Option.some .boolean) : Cond) ∈ lwG := List.mem_filter.mpr ⟨List.mem_of_getElem? (i := 323) (by decide +kernel), by decide +kernel⟩
theorem wd_324 : (.methodLink "EmissionRowsLaw" 48 ⟨"EmissionRows", "ready", "(I)I"⟩ : Cond) ∈ lwG := List.mem_filter.mpr ⟨List.mem_of_getElem? (i := 324) (by decide +kernel), by decide +kernel⟩
theorem wd_325 : (.instanceMethod ⟨"EmissionRows", "ready", "(I)I"⟩ : Cond) ∈ lwG := List.mem_filter.mpr ⟨List.mem_of_getElem? (i := 325) (by decide +kernel), by decide +kernel⟩
theorem wd_326 : (.selects "EmissionRows" ⟨"EmissionRows", "ready", "(I)I"⟩ ⟨"EmissionRows", "ready", "(I)I"⟩ : Cond) ∈ lwG := List.mem_filter.mpr ⟨List.mem_of_getElem? (i := 326) (by decide +kernel), by decide +kernel⟩
theorem wd_327 : (.code ⟨"EmissionRows", "ready", "(I)I"⟩ prog_1_method_6_code 2 (Option.some .int) : Cond) ∈ lwG := List.mem_filter.mpr ⟨List.mem_of_getElem? (i := 327) (by decide +kernel), by decide +kernel⟩
theorem wd_328 : (.methodLink "EmissionRows" 96 ⟨"EmissionRows", "readinessOf", "(I)I"⟩ : Cond) ∈ lwG := List.mem_filter.mpr ⟨List.mem_of_getElem? (i := 328) (by decide +kernel), by decide +kernel⟩
theorem wd_330 : (.instanceMethod ⟨"EmissionRows", "readinessOf", "(I)I"⟩ : Cond) ∈ lwG := List.mem_filter.mpr ⟨List.mem_of_getElem? (i := 330) (by decide +kernel), by decide +kernel⟩
theorem wd_331 : (.code ⟨"EmissionRows", "readinessOf", "(I)I"⟩ prog_1_method_20_code 5 (Option.some .int) : Cond) ∈ lwG := List.mem_filter.mpr ⟨List.mem_of_getElem? (i := 331) (by decide +kernel), by decide +kernel⟩
theorem wd_332 : (.methodLink "EmissionRowsLaw" 53 ⟨"EmissionRows", "fault", "(IZ)I"⟩ : Cond) ∈ lwG := List.mem_filter.mpr ⟨List.mem_of_getElem? (i := 332) (by decide +kernel), by decide +kernel⟩
theorem wd_333 : (.instanceMethod ⟨"EmissionRows", "fault", "(IZ)I"⟩ : Cond) ∈ lwG := List.mem_filter.mpr ⟨List.mem_of_getElem? (i := 333) (by decide +kernel), by decide +kernel⟩
theorem wd_334 : (.selects "EmissionRows" ⟨"EmissionRows", "fault", "(IZ)I"⟩ ⟨"EmissionRows", "fault", "(IZ)I"⟩ : Cond) ∈ lwG := List.mem_filter.mpr ⟨List.mem_of_getElem? (i := 334) (by decide +kernel), by decide +kernel⟩
theorem wd_335 : (.code ⟨"EmissionRows", "fault", "(IZ)I"⟩ prog_1_method_7_code 4 (Option.some .int) : Cond) ∈ lwG := List.mem_filter.mpr ⟨List.mem_of_getElem? (i := 335) (by decide +kernel), by decide +kernel⟩
theorem wd_336 : (.methodLink "EmissionRows" 100 ⟨"EmissionRows", "knownCode", "(I)LEmissionRows$Code;"⟩ : Cond) ∈ lwG := List.mem_filter.mpr ⟨List.mem_of_getElem? (i := 336) (by decide +kernel), by decide +kernel⟩
theorem wd_338 : (.instanceMethod ⟨"EmissionRows", "knownCode", "(I)LEmissionRows$Code;"⟩ : Cond) ∈ lwG := List.mem_filter.mpr ⟨List.mem_of_getElem? (i := 338) (by decide +kernel), by decide +kernel⟩
theorem wd_339 : (.code ⟨"EmissionRows", "knownCode", "(I)LEmissionRows$Code;"⟩ prog_1_method_21_code 4 (Option.some (.object "EmissionRows$Code")) : Cond) ∈ lwG := List.mem_filter.mpr ⟨List.mem_of_getElem? (i := 339) (by decide +kernel), by decide +kernel⟩
theorem wd_341 : (.instanceMethod ⟨"EmissionRows$Code", "<init>", "(IZ)V"⟩ : Cond) ∈ lwG := List.mem_filter.mpr ⟨List.mem_of_getElem? (i := 341) (by decide +kernel), by decide +kernel⟩
theorem wd_342 : (.code ⟨"EmissionRows$Code", "<init>", "(IZ)V"⟩ prog_2_method_1_code 3 (Option.none : Option Jvm.ClassFile.FieldType) : Cond) ∈ lwG := List.mem_filter.mpr ⟨List.mem_of_getElem? (i := 342) (by decide +kernel), by decide +kernel⟩
theorem wd_343 : (.methodLink "EmissionRows$Code" 3 ⟨"java/lang/Object", "<init>", "()V"⟩ : Cond) ∈ lwG := List.mem_filter.mpr ⟨List.mem_of_getElem? (i := 343) (by decide +kernel), by decide +kernel⟩
theorem wd_344 : (.fieldLink "EmissionRows$Code" 34 "EmissionRows$Code" "number" "I" : Cond) ∈ lwG := List.mem_filter.mpr ⟨List.mem_of_getElem? (i := 344) (by decide +kernel), by decide +kernel⟩
theorem wd_346 : (.fieldLink "EmissionRows$Code" 37 "EmissionRows$Code" "on" "Z" : Cond) ∈ lwG := List.mem_filter.mpr ⟨List.mem_of_getElem? (i := 346) (by decide +kernel), by decide +kernel⟩
theorem wd_348 : (.fieldLink "EmissionRows$Code" 9 "EmissionRows$Code" "pending" "Z" : Cond) ∈ lwG := List.mem_filter.mpr ⟨List.mem_of_getElem? (i := 348) (by decide +kernel), by decide +kernel⟩
theorem wd_349 : (.fieldLink "EmissionRows$Code" 15 "EmissionRows$Code" "confirmed" "Z" : Cond) ∈ lwG := List.mem_filter.mpr ⟨List.mem_of_getElem? (i := 349) (by decide +kernel), by decide +kernel⟩
theorem wd_351 : (.fieldLink "EmissionRows$Code" 18 "EmissionRows$Code" "lasting" "Z" : Cond) ∈ lwG := List.mem_filter.mpr ⟨List.mem_of_getElem? (i := 351) (by decide +kernel), by decide +kernel⟩
theorem wd_353 : (.fieldLink "EmissionRows$Code" 21 "EmissionRows$Code" "offInARow" "I" : Cond) ∈ lwG := List.mem_filter.mpr ⟨List.mem_of_getElem? (i := 353) (by decide +kernel), by decide +kernel⟩
theorem wd_354 : (.fieldLink "EmissionRows$Code" 25 "EmissionRows$Code" "offWithConditionZero" "I" : Cond) ∈ lwG := List.mem_filter.mpr ⟨List.mem_of_getElem? (i := 354) (by decide +kernel), by decide +kernel⟩
theorem wd_355 : (.fieldLink "EmissionRows$Code" 28 "EmissionRows$Code" "frozenCycle" "I" : Cond) ∈ lwG := List.mem_filter.mpr ⟨List.mem_of_getElem? (i := 355) (by decide +kernel), by decide +kernel⟩
theorem wd_357 : (.fieldLink "EmissionRows$Code" 31 "EmissionRows$Code" "frozenConditions" "I" : Cond) ∈ lwG := List.mem_filter.mpr ⟨List.mem_of_getElem? (i := 357) (by decide +kernel), by decide +kernel⟩
theorem wd_378 : (.methodLink "EmissionRowsLaw" 58 ⟨"EmissionRows", "permanent", "(I)I"⟩ : Cond) ∈ lwG := List.mem_filter.mpr ⟨List.mem_of_getElem? (i := 378) (by decide +kernel), by decide +kernel⟩
theorem wd_379 : (.instanceMethod ⟨"EmissionRows", "permanent", "(I)I"⟩ : Cond) ∈ lwG := List.mem_filter.mpr ⟨List.mem_of_getElem? (i := 379) (by decide +kernel), by decide +kernel⟩
theorem wd_380 : (.selects "EmissionRows" ⟨"EmissionRows", "permanent", "(I)I"⟩ ⟨"EmissionRows", "permanent", "(I)I"⟩ : Cond) ∈ lwG := List.mem_filter.mpr ⟨List.mem_of_getElem? (i := 380) (by decide +kernel), by decide +kernel⟩
theorem wd_381 : (.code ⟨"EmissionRows", "permanent", "(I)I"⟩ prog_1_method_8_code 5 (Option.some .int) : Cond) ∈ lwG := List.mem_filter.mpr ⟨List.mem_of_getElem? (i := 381) (by decide +kernel), by decide +kernel⟩
theorem wd_382 : (.methodLink "EmissionRowsLaw" 62 ⟨"EmissionRows", "clear", "()I"⟩ : Cond) ∈ lwG := List.mem_filter.mpr ⟨List.mem_of_getElem? (i := 382) (by decide +kernel), by decide +kernel⟩
theorem wd_383 : (.instanceMethod ⟨"EmissionRows", "clear", "()I"⟩ : Cond) ∈ lwG := List.mem_filter.mpr ⟨List.mem_of_getElem? (i := 383) (by decide +kernel), by decide +kernel⟩
theorem wd_384 : (.selects "EmissionRows" ⟨"EmissionRows", "clear", "()I"⟩ ⟨"EmissionRows", "clear", "()I"⟩ : Cond) ∈ lwG := List.mem_filter.mpr ⟨List.mem_of_getElem? (i := 384) (by decide +kernel), by decide +kernel⟩
theorem wd_385 : (.code ⟨"EmissionRows", "clear", "()I"⟩ prog_1_method_9_code 3 (Option.some .int) : Cond) ∈ lwG := List.mem_filter.mpr ⟨List.mem_of_getElem? (i := 385) (by decide +kernel), by decide +kernel⟩
theorem wd_388 : (.methodLink "EmissionRowsLaw" 68 ⟨"EmissionRows", "lamp", "(JJ)I"⟩ : Cond) ∈ lwG := List.mem_filter.mpr ⟨List.mem_of_getElem? (i := 388) (by decide +kernel), by decide +kernel⟩
theorem wd_389 : (.instanceMethod ⟨"EmissionRows", "lamp", "(JJ)I"⟩ : Cond) ∈ lwG := List.mem_filter.mpr ⟨List.mem_of_getElem? (i := 389) (by decide +kernel), by decide +kernel⟩
theorem wd_390 : (.selects "EmissionRows" ⟨"EmissionRows", "lamp", "(JJ)I"⟩ ⟨"EmissionRows", "lamp", "(JJ)I"⟩ : Cond) ∈ lwG := List.mem_filter.mpr ⟨List.mem_of_getElem? (i := 390) (by decide +kernel), by decide +kernel⟩
theorem wd_391 : (.code ⟨"EmissionRows", "lamp", "(JJ)I"⟩ prog_1_method_10_code 5 (Option.some .int) : Cond) ∈ lwG := List.mem_filter.mpr ⟨List.mem_of_getElem? (i := 391) (by decide +kernel), by decide +kernel⟩
theorem wd_392 : (.constantLong "EmissionRows" 128 1000000000 : Cond) ∈ lwG := List.mem_filter.mpr ⟨List.mem_of_getElem? (i := 392) (by decide +kernel), by decide +kernel⟩
theorem wd_395 : (.instanceMethod ⟨"EmissionRows$Lamp", "goOn", "(JJ)Z"⟩ : Cond) ∈ lwG := List.mem_filter.mpr ⟨List.mem_of_getElem? (i := 395) (by decide +kernel), by decide +kernel⟩
theorem wd_396 : (.code ⟨"EmissionRows$Lamp", "goOn", "(JJ)Z"⟩ prog_3_method_3_code 5 (Option.some .boolean) : Cond) ∈ lwG := List.mem_filter.mpr ⟨List.mem_of_getElem? (i := 396) (by decide +kernel), by decide +kernel⟩
theorem wd_397 : (.methodLink "EmissionRowsLaw" 73 ⟨"EmissionRows", "freeze", "(I)I"⟩ : Cond) ∈ lwG := List.mem_filter.mpr ⟨List.mem_of_getElem? (i := 397) (by decide +kernel), by decide +kernel⟩
theorem wd_398 : (.instanceMethod ⟨"EmissionRows", "freeze", "(I)I"⟩ : Cond) ∈ lwG := List.mem_filter.mpr ⟨List.mem_of_getElem? (i := 398) (by decide +kernel), by decide +kernel⟩
theorem wd_399 : (.selects "EmissionRows" ⟨"EmissionRows", "freeze", "(I)I"⟩ ⟨"EmissionRows", "freeze", "(I)I"⟩ : Cond) ∈ lwG := List.mem_filter.mpr ⟨List.mem_of_getElem? (i := 399) (by decide +kernel), by decide +kernel⟩
theorem wd_400 : (.code ⟨"EmissionRows", "freeze", "(I)I"⟩ prog_1_method_11_code 3 (Option.some .int) : Cond) ∈ lwG := List.mem_filter.mpr ⟨List.mem_of_getElem? (i := 400) (by decide +kernel), by decide +kernel⟩
theorem wd_401 : (.methodLink "EmissionRows" 138 ⟨"EmissionRows", "inTwoOctets", "(J)I"⟩ : Cond) ∈ lwG := List.mem_filter.mpr ⟨List.mem_of_getElem? (i := 401) (by decide +kernel), by decide +kernel⟩
theorem wd_402 : (.static ⟨"EmissionRows", "inTwoOctets", "(J)I"⟩ : Cond) ∈ lwG := List.mem_filter.mpr ⟨List.mem_of_getElem? (i := 402) (by decide +kernel), by decide +kernel⟩
theorem wd_403 : (.code ⟨"EmissionRows", "inTwoOctets", "(J)I"⟩ prog_1_method_29_code 2 (Option.some .int) : Cond) ∈ lwG := List.mem_filter.mpr ⟨List.mem_of_getElem? (i := 403) (by decide +kernel), by decide +kernel⟩
theorem wd_404 : (.constantLong "EmissionRows" 231 65535 : Cond) ∈ lwG := List.mem_filter.mpr ⟨List.mem_of_getElem? (i := 404) (by decide +kernel), by decide +kernel⟩
theorem wd_405 : (.methodLink "EmissionRows" 233 ⟨"java/lang/Math", "min", "(JJ)J"⟩ : Cond) ∈ lwG := List.mem_filter.mpr ⟨List.mem_of_getElem? (i := 405) (by decide +kernel), by decide +kernel⟩
theorem wd_406 : (.static ⟨"java/lang/Math", "min", "(JJ)J"⟩ : Cond) ∈ lwG := List.mem_filter.mpr ⟨List.mem_of_getElem? (i := 406) (by decide +kernel), by decide +kernel⟩
theorem wd_407 : (.code ⟨"java/lang/Math", "min", "(JJ)J"⟩ prog_14_method_70_code 4 (Option.some .long) : Cond) ∈ lwG := List.mem_filter.mpr ⟨List.mem_of_getElem? (i := 407) (by decide +kernel), by decide +kernel⟩
theorem wd_408 : (.methodLink "EmissionRows" 142 ⟨"EmissionRows", "firstFrozen", "()LEmissionRows$Code;"⟩ : Cond) ∈ lwG := List.mem_filter.mpr ⟨List.mem_of_getElem? (i := 408) (by decide +kernel), by decide +kernel⟩
theorem wd_410 : (.instanceMethod ⟨"EmissionRows", "firstFrozen", "()LEmissionRows$Code;"⟩ : Cond) ∈ lwG := List.mem_filter.mpr ⟨List.mem_of_getElem? (i := 410) (by decide +kernel), by decide +kernel⟩
theorem wd_411 : (.code ⟨"EmissionRows", "firstFrozen", "()LEmissionRows$Code;"⟩ prog_1_method_22_code 3 (Option.some (.object "EmissionRows$Code")) : Cond) ∈ lwG := List.mem_filter.mpr ⟨List.mem_of_getElem? (i := 411) (by decide +kernel), by decide +kernel⟩
theorem wd_414 : (.instanceMethod ⟨"EmissionRows$Code", "hasFrozenRow", "()Z"⟩ : Cond) ∈ lwG := List.mem_filter.mpr ⟨List.mem_of_getElem? (i := 414) (by decide +kernel), by decide +kernel⟩
theorem wd_415 : (.code ⟨"EmissionRows$Code", "hasFrozenRow", "()Z"⟩ prog_2_method_5_code 1 (Option.some .boolean) : Cond) ∈ lwG := List.mem_filter.mpr ⟨List.mem_of_getElem? (i := 415) (by decide +kernel), by decide +kernel⟩
theorem wd_416 : (.methodLink "EmissionRowsLaw" 77 ⟨"EmissionRows", "answer", "(II)I"⟩ : Cond) ∈ lwG := List.mem_filter.mpr ⟨List.mem_of_getElem? (i := 416) (by decide +kernel), by decide +kernel⟩
theorem wd_417 : (.instanceMethod ⟨"EmissionRows", "answer", "(II)I"⟩ : Cond) ∈ lwG := List.mem_filter.mpr ⟨List.mem_of_getElem? (i := 417) (by decide +kernel), by decide +kernel⟩
theorem wd_418 : (.selects "EmissionRows" ⟨"EmissionRows", "answer", "(II)I"⟩ ⟨"EmissionRows", "answer", "(II)I"⟩ : Cond) ∈ lwG := List.mem_filter.mpr ⟨List.mem_of_getElem? (i := 418) (by decide +kernel), by decide +kernel⟩
theorem wd_419 : (.code ⟨"EmissionRows", "answer", "(II)I"⟩ prog_1_method_12_code 3 (Option.some .int) : Cond) ∈ lwG := List.mem_filter.mpr ⟨List.mem_of_getElem? (i := 419) (by decide +kernel), by decide +kernel⟩
theorem wd_422 : (.instanceMethod ⟨"EmissionRows$Octets", "drop", "()V"⟩ : Cond) ∈ lwG := List.mem_filter.mpr ⟨List.mem_of_getElem? (i := 422) (by decide +kernel), by decide +kernel⟩
theorem wd_423 : (.code ⟨"EmissionRows$Octets", "drop", "()V"⟩ prog_5_method_2_code 1 (Option.none : Option Jvm.ClassFile.FieldType) : Cond) ∈ lwG := List.mem_filter.mpr ⟨List.mem_of_getElem? (i := 423) (by decide +kernel), by decide +kernel⟩
theorem wd_424 : (.methodLink "EmissionRows" 155 ⟨"EmissionRows", "tellNow", "(I)V"⟩ : Cond) ∈ lwG := List.mem_filter.mpr ⟨List.mem_of_getElem? (i := 424) (by decide +kernel), by decide +kernel⟩
theorem wd_426 : (.instanceMethod ⟨"EmissionRows", "tellNow", "(I)V"⟩ : Cond) ∈ lwG := List.mem_filter.mpr ⟨List.mem_of_getElem? (i := 426) (by decide +kernel), by decide +kernel⟩
theorem wd_427 : (.code ⟨"EmissionRows", "tellNow", "(I)V"⟩ prog_1_method_23_code 2 (Option.none : Option Jvm.ClassFile.FieldType) : Cond) ∈ lwG := List.mem_filter.mpr ⟨List.mem_of_getElem? (i := 427) (by decide +kernel), by decide +kernel⟩
theorem wd_430 : (.instanceMethod ⟨"EmissionRows$Octets", "begin", "(I)V"⟩ : Cond) ∈ lwG := List.mem_filter.mpr ⟨List.mem_of_getElem? (i := 430) (by decide +kernel), by decide +kernel⟩
theorem wd_431 : (.code ⟨"EmissionRows$Octets", "begin", "(I)V"⟩ prog_5_method_3_code 2 (Option.none : Option Jvm.ClassFile.FieldType) : Cond) ∈ lwG := List.mem_filter.mpr ⟨List.mem_of_getElem? (i := 431) (by decide +kernel), by decide +kernel⟩
theorem wd_432 : (.methodLink "EmissionRows$Octets" 19 ⟨"EmissionRows$Octets", "add", "(I)V"⟩ : Cond) ∈ lwG := List.mem_filter.mpr ⟨List.mem_of_getElem? (i := 432) (by decide +kernel), by decide +kernel⟩
theorem wd_434 : (.instanceMethod ⟨"EmissionRows$Octets", "add", "(I)V"⟩ : Cond) ∈ lwG := List.mem_filter.mpr ⟨List.mem_of_getElem? (i := 434) (by decide +kernel), by decide +kernel⟩
theorem wd_435 : (.code ⟨"EmissionRows$Octets", "add", "(I)V"⟩ prog_5_method_4_code 2 (Option.none : Option Jvm.ClassFile.FieldType) : Cond) ∈ lwG := List.mem_filter.mpr ⟨List.mem_of_getElem? (i := 435) (by decide +kernel), by decide +kernel⟩
theorem wd_437 : (.methodLink "EmissionRows" 217 ⟨"EmissionRows", "kindsNotReady", "()I"⟩ : Cond) ∈ lwG := List.mem_filter.mpr ⟨List.mem_of_getElem? (i := 437) (by decide +kernel), by decide +kernel⟩
theorem wd_439 : (.instanceMethod ⟨"EmissionRows", "kindsNotReady", "()I"⟩ : Cond) ∈ lwG := List.mem_filter.mpr ⟨List.mem_of_getElem? (i := 439) (by decide +kernel), by decide +kernel⟩
theorem wd_440 : (.code ⟨"EmissionRows", "kindsNotReady", "()I"⟩ prog_1_method_24_code 3 (Option.some .int) : Cond) ∈ lwG := List.mem_filter.mpr ⟨List.mem_of_getElem? (i := 440) (by decide +kernel), by decide +kernel⟩
theorem wd_441 : (.constantLong "EmissionRows" 223 1000 : Cond) ∈ lwG := List.mem_filter.mpr ⟨List.mem_of_getElem? (i := 441) (by decide +kernel), by decide +kernel⟩
theorem wd_444 : (.instanceMethod ⟨"EmissionRows$Octets", "addTwo", "(I)V"⟩ : Cond) ∈ lwG := List.mem_filter.mpr ⟨List.mem_of_getElem? (i := 444) (by decide +kernel), by decide +kernel⟩
theorem wd_445 : (.code ⟨"EmissionRows$Octets", "addTwo", "(I)V"⟩ prog_5_method_5_code 2 (Option.none : Option Jvm.ClassFile.FieldType) : Cond) ∈ lwG := List.mem_filter.mpr ⟨List.mem_of_getElem? (i := 445) (by decide +kernel), by decide +kernel⟩
theorem wd_446 : (.methodLink "EmissionRows" 158 ⟨"EmissionRows", "tellFrozen", "(I)V"⟩ : Cond) ∈ lwG := List.mem_filter.mpr ⟨List.mem_of_getElem? (i := 446) (by decide +kernel), by decide +kernel⟩
theorem wd_448 : (.instanceMethod ⟨"EmissionRows", "tellFrozen", "(I)V"⟩ : Cond) ∈ lwG := List.mem_filter.mpr ⟨List.mem_of_getElem? (i := 448) (by decide +kernel), by decide +kernel⟩
theorem wd_449 : (.code ⟨"EmissionRows", "tellFrozen", "(I)V"⟩ prog_1_method_25_code 3 (Option.none : Option Jvm.ClassFile.FieldType) : Cond) ∈ lwG := List.mem_filter.mpr ⟨List.mem_of_getElem? (i := 449) (by decide +kernel), by decide +kernel⟩
theorem wd_450 : (.methodLink "EmissionRows" 161 ⟨"EmissionRows", "tellCounts", "(I)V"⟩ : Cond) ∈ lwG := List.mem_filter.mpr ⟨List.mem_of_getElem? (i := 450) (by decide +kernel), by decide +kernel⟩
theorem wd_452 : (.instanceMethod ⟨"EmissionRows", "tellCounts", "(I)V"⟩ : Cond) ∈ lwG := List.mem_filter.mpr ⟨List.mem_of_getElem? (i := 452) (by decide +kernel), by decide +kernel⟩
theorem wd_453 : (.code ⟨"EmissionRows", "tellCounts", "(I)V"⟩ prog_1_method_26_code 4 (Option.none : Option Jvm.ClassFile.FieldType) : Cond) ∈ lwG := List.mem_filter.mpr ⟨List.mem_of_getElem? (i := 453) (by decide +kernel), by decide +kernel⟩
theorem wd_454 : (.methodLink "EmissionRows" 164 ⟨"EmissionRows", "tellCodes", "(I)V"⟩ : Cond) ∈ lwG := List.mem_filter.mpr ⟨List.mem_of_getElem? (i := 454) (by decide +kernel), by decide +kernel⟩
theorem wd_456 : (.instanceMethod ⟨"EmissionRows", "tellCodes", "(I)V"⟩ : Cond) ∈ lwG := List.mem_filter.mpr ⟨List.mem_of_getElem? (i := 456) (by decide +kernel), by decide +kernel⟩
theorem wd_457 : (.code ⟨"EmissionRows", "tellCodes", "(I)V"⟩ prog_1_method_27_code 4 (Option.none : Option Jvm.ClassFile.FieldType) : Cond) ∈ lwG := List.mem_filter.mpr ⟨List.mem_of_getElem? (i := 457) (by decide +kernel), by decide +kernel⟩
theorem wd_460 : (.instanceMethod ⟨"EmissionRows$Code", "isToldIn", "(I)Z"⟩ : Cond) ∈ lwG := List.mem_filter.mpr ⟨List.mem_of_getElem? (i := 460) (by decide +kernel), by decide +kernel⟩
theorem wd_461 : (.code ⟨"EmissionRows$Code", "isToldIn", "(I)Z"⟩ prog_2_method_6_code 2 (Option.some .boolean) : Cond) ∈ lwG := List.mem_filter.mpr ⟨List.mem_of_getElem? (i := 461) (by decide +kernel), by decide +kernel⟩
theorem wd_462 : (.methodLink "EmissionRowsLaw" 85 ⟨"EmissionRows", "sum", "()I"⟩ : Cond) ∈ lwG := List.mem_filter.mpr ⟨List.mem_of_getElem? (i := 462) (by decide +kernel), by decide +kernel⟩
theorem wd_463 : (.instanceMethod ⟨"EmissionRows", "sum", "()I"⟩ : Cond) ∈ lwG := List.mem_filter.mpr ⟨List.mem_of_getElem? (i := 463) (by decide +kernel), by decide +kernel⟩
theorem wd_464 : (.selects "EmissionRows" ⟨"EmissionRows", "sum", "()I"⟩ ⟨"EmissionRows", "sum", "()I"⟩ : Cond) ∈ lwG := List.mem_filter.mpr ⟨List.mem_of_getElem? (i := 464) (by decide +kernel), by decide +kernel⟩
theorem wd_465 : (.code ⟨"EmissionRows", "sum", "()I"⟩ prog_1_method_14_code 1 (Option.some .int) : Cond) ∈ lwG := List.mem_filter.mpr ⟨List.mem_of_getElem? (i := 465) (by decide +kernel), by decide +kernel⟩
theorem wd_468 : (.instanceMethod ⟨"EmissionRows$Octets", "total", "()I"⟩ : Cond) ∈ lwG := List.mem_filter.mpr ⟨List.mem_of_getElem? (i := 468) (by decide +kernel), by decide +kernel⟩
theorem wd_469 : (.code ⟨"EmissionRows$Octets", "total", "()I"⟩ prog_5_method_7_code 3 (Option.some .int) : Cond) ∈ lwG := List.mem_filter.mpr ⟨List.mem_of_getElem? (i := 469) (by decide +kernel), by decide +kernel⟩
theorem wd_470 : (.methodLink "EmissionRowsLaw" 38 ⟨"EmissionRowsLaw", "ratio", "(LEmissionRows;II[J)I"⟩ : Cond) ∈ lwG := List.mem_filter.mpr ⟨List.mem_of_getElem? (i := 470) (by decide +kernel), by decide +kernel⟩
theorem wd_471 : (.static ⟨"EmissionRowsLaw", "ratio", "(LEmissionRows;II[J)I"⟩ : Cond) ∈ lwG := List.mem_filter.mpr ⟨List.mem_of_getElem? (i := 471) (by decide +kernel), by decide +kernel⟩
theorem wd_473 : (.classLink "EmissionRowsLaw" 13 "java/lang/ArithmeticException" : Cond) ∈ lwG := List.mem_filter.mpr ⟨List.mem_of_getElem? (i := 473) (by decide +kernel), by decide +kernel⟩
theorem wd_474 : (.methodLink "EmissionRowsLaw" 7 ⟨"EmissionRows", "ratio", "(II)J"⟩ : Cond) ∈ lwG := List.mem_filter.mpr ⟨List.mem_of_getElem? (i := 474) (by decide +kernel), by decide +kernel⟩
theorem wd_475 : (.instanceMethod ⟨"EmissionRows", "ratio", "(II)J"⟩ : Cond) ∈ lwG := List.mem_filter.mpr ⟨List.mem_of_getElem? (i := 475) (by decide +kernel), by decide +kernel⟩
theorem wd_476 : (.selects "EmissionRows" ⟨"EmissionRows", "ratio", "(II)J"⟩ ⟨"EmissionRows", "ratio", "(II)J"⟩ : Cond) ∈ lwG := List.mem_filter.mpr ⟨List.mem_of_getElem? (i := 476) (by decide +kernel), by decide +kernel⟩
theorem wd_477 : (.code ⟨"EmissionRows", "ratio", "(II)J"⟩ prog_1_method_5_code 4 (Option.some .long) : Cond) ∈ lwG := List.mem_filter.mpr ⟨List.mem_of_getElem? (i := 477) (by decide +kernel), by decide +kernel⟩
theorem wd_478 : (.constantLong "EmissionRows" 83 (-1) : Cond) ∈ lwG := List.mem_filter.mpr ⟨List.mem_of_getElem? (i := 478) (by decide +kernel), by decide +kernel⟩
theorem wd_479 : (.classLink "EmissionRows" 85 "java/lang/ArithmeticException" : Cond) ∈ lwG := List.mem_filter.mpr ⟨List.mem_of_getElem? (i := 479) (by decide +kernel), by decide +kernel⟩
theorem wd_480 : (.instantiable "java/lang/ArithmeticException" 6 : Cond) ∈ lwG := List.mem_filter.mpr ⟨List.mem_of_getElem? (i := 480) (by decide +kernel), by decide +kernel⟩
theorem wd_488 : (.selects "java/lang/ArithmeticException" ⟨"java/lang/Throwable", "fillInStackTrace", "(I)Ljava/lang/Throwable;"⟩ ⟨"java/lang/Throwable", "fillInStackTrace", "(I)Ljava/lang/Throwable;"⟩ : Cond) ∈ lwG := List.mem_filter.mpr ⟨List.mem_of_getElem? (i := 488) (by decide +kernel), by decide +kernel⟩
theorem wd_489 : (.selects "java/lang/ArithmeticException" ⟨"java/lang/Throwable", "fillInStackTrace", "()Ljava/lang/Throwable;"⟩ ⟨"java/lang/Throwable", "fillInStackTrace", "()Ljava/lang/Throwable;"⟩ : Cond) ∈ lwG := List.mem_filter.mpr ⟨List.mem_of_getElem? (i := 489) (by decide +kernel), by decide +kernel⟩
theorem wd_500 : (.fieldLink "java/lang/Throwable" 198 "java/lang/Throwable" "backtrace" "Ljava/lang/Object;" : Cond) ∈ lwG := List.mem_filter.mpr ⟨List.mem_of_getElem? (i := 500) (by decide +kernel), by decide +kernel⟩
theorem wd_502 : (.instanceMethod ⟨"java/lang/Throwable", "<init>", "()V"⟩ : Cond) ∈ lwG := List.mem_filter.mpr ⟨List.mem_of_getElem? (i := 502) (by decide +kernel), by decide +kernel⟩
theorem wd_503 : (.code ⟨"java/lang/Throwable", "<init>", "()V"⟩ prog_18_method_1_code 1 (Option.none : Option Jvm.ClassFile.FieldType) : Cond) ∈ lwG := List.mem_filter.mpr ⟨List.mem_of_getElem? (i := 503) (by decide +kernel), by decide +kernel⟩
theorem wd_504 : (.methodLink "java/lang/Throwable" 1 ⟨"java/lang/Object", "<init>", "()V"⟩ : Cond) ∈ lwG := List.mem_filter.mpr ⟨List.mem_of_getElem? (i := 504) (by decide +kernel), by decide +kernel⟩
theorem wd_505 : (.fieldLink "java/lang/Throwable" 13 "java/lang/Throwable" "UNASSIGNED_STACK" "[Ljava/lang/StackTraceElement;" : Cond) ∈ lwG := List.mem_filter.mpr ⟨List.mem_of_getElem? (i := 505) (by decide +kernel), by decide +kernel⟩
theorem wd_507 : (.fieldLink "java/lang/Throwable" 20 "java/lang/Throwable" "SUPPRESSED_SENTINEL" "Ljava/util/List;" : Cond) ∈ lwG := List.mem_filter.mpr ⟨List.mem_of_getElem? (i := 507) (by decide +kernel), by decide +kernel⟩
theorem wd_509 : (.methodLink "java/lang/Throwable" 27 ⟨"java/lang/Throwable", "fillInStackTrace", "()Ljava/lang/Throwable;"⟩ : Cond) ∈ lwG := List.mem_filter.mpr ⟨List.mem_of_getElem? (i := 509) (by decide +kernel), by decide +kernel⟩
theorem wd_510 : (.instanceMethod ⟨"java/lang/Throwable", "fillInStackTrace", "()Ljava/lang/Throwable;"⟩ : Cond) ∈ lwG := List.mem_filter.mpr ⟨List.mem_of_getElem? (i := 510) (by decide +kernel), by decide +kernel⟩
theorem wd_512 : (.selects "java/lang/IndexOutOfBoundsException" ⟨"java/lang/Throwable", "fillInStackTrace", "()Ljava/lang/Throwable;"⟩ ⟨"java/lang/Throwable", "fillInStackTrace", "()Ljava/lang/Throwable;"⟩ : Cond) ∈ lwG := List.mem_filter.mpr ⟨List.mem_of_getElem? (i := 512) (by decide +kernel), by decide +kernel⟩
theorem wd_514 : (.methodLink "java/lang/Throwable" 202 ⟨"java/lang/Throwable", "fillInStackTrace", "(I)Ljava/lang/Throwable;"⟩ : Cond) ∈ lwG := List.mem_filter.mpr ⟨List.mem_of_getElem? (i := 514) (by decide +kernel), by decide +kernel⟩
theorem wd_516 : (.instanceMethod ⟨"java/lang/Throwable", "fillInStackTrace", "(I)Ljava/lang/Throwable;"⟩ : Cond) ∈ lwG := List.mem_filter.mpr ⟨List.mem_of_getElem? (i := 516) (by decide +kernel), by decide +kernel⟩
theorem wd_517 : (.instantiable "java/lang/Throwable" 6 : Cond) ∈ lwG := List.mem_filter.mpr ⟨List.mem_of_getElem? (i := 517) (by decide +kernel), by decide +kernel⟩
theorem wd_518 : (.native ⟨"java/lang/Throwable", "fillInStackTrace", "(I)Ljava/lang/Throwable;"⟩ : Cond) ∈ lwG := List.mem_filter.mpr ⟨List.mem_of_getElem? (i := 518) (by decide +kernel), by decide +kernel⟩
theorem wd_520 : (.methodLink "EmissionRows" 89 ⟨"java/lang/ArithmeticException", "<init>", "(Ljava/lang/String;)V"⟩ : Cond) ∈ lwG := List.mem_filter.mpr ⟨List.mem_of_getElem? (i := 520) (by decide +kernel), by decide +kernel⟩
theorem wd_521 : (.instanceMethod ⟨"java/lang/ArithmeticException", "<init>", "(Ljava/lang/String;)V"⟩ : Cond) ∈ lwG := List.mem_filter.mpr ⟨List.mem_of_getElem? (i := 521) (by decide +kernel), by decide +kernel⟩
theorem wd_522 : (.code ⟨"java/lang/ArithmeticException", "<init>", "(Ljava/lang/String;)V"⟩ prog_9_method_2_code 2 (Option.none : Option Jvm.ClassFile.FieldType) : Cond) ∈ lwG := List.mem_filter.mpr ⟨List.mem_of_getElem? (i := 522) (by decide +kernel), by decide +kernel⟩
theorem wd_523 : (.methodLink "java/lang/ArithmeticException" 7 ⟨"java/lang/RuntimeException", "<init>", "(Ljava/lang/String;)V"⟩ : Cond) ∈ lwG := List.mem_filter.mpr ⟨List.mem_of_getElem? (i := 523) (by decide +kernel), by decide +kernel⟩
theorem wd_524 : (.instanceMethod ⟨"java/lang/RuntimeException", "<init>", "(Ljava/lang/String;)V"⟩ : Cond) ∈ lwG := List.mem_filter.mpr ⟨List.mem_of_getElem? (i := 524) (by decide +kernel), by decide +kernel⟩
theorem wd_525 : (.code ⟨"java/lang/RuntimeException", "<init>", "(Ljava/lang/String;)V"⟩ prog_15_method_2_code 2 (Option.none : Option Jvm.ClassFile.FieldType) : Cond) ∈ lwG := List.mem_filter.mpr ⟨List.mem_of_getElem? (i := 525) (by decide +kernel), by decide +kernel⟩
theorem wd_526 : (.methodLink "java/lang/RuntimeException" 7 ⟨"java/lang/Exception", "<init>", "(Ljava/lang/String;)V"⟩ : Cond) ∈ lwG := List.mem_filter.mpr ⟨List.mem_of_getElem? (i := 526) (by decide +kernel), by decide +kernel⟩
theorem wd_527 : (.instanceMethod ⟨"java/lang/Exception", "<init>", "(Ljava/lang/String;)V"⟩ : Cond) ∈ lwG := List.mem_filter.mpr ⟨List.mem_of_getElem? (i := 527) (by decide +kernel), by decide +kernel⟩
theorem wd_528 : (.code ⟨"java/lang/Exception", "<init>", "(Ljava/lang/String;)V"⟩ prog_11_method_2_code 2 (Option.none : Option Jvm.ClassFile.FieldType) : Cond) ∈ lwG := List.mem_filter.mpr ⟨List.mem_of_getElem? (i := 528) (by decide +kernel), by decide +kernel⟩
theorem wd_529 : (.methodLink "java/lang/Exception" 7 ⟨"java/lang/Throwable", "<init>", "(Ljava/lang/String;)V"⟩ : Cond) ∈ lwG := List.mem_filter.mpr ⟨List.mem_of_getElem? (i := 529) (by decide +kernel), by decide +kernel⟩
theorem wd_530 : (.instanceMethod ⟨"java/lang/Throwable", "<init>", "(Ljava/lang/String;)V"⟩ : Cond) ∈ lwG := List.mem_filter.mpr ⟨List.mem_of_getElem? (i := 530) (by decide +kernel), by decide +kernel⟩
theorem wd_531 : (.code ⟨"java/lang/Throwable", "<init>", "(Ljava/lang/String;)V"⟩ prog_18_method_2_code 2 (Option.none : Option Jvm.ClassFile.FieldType) : Cond) ∈ lwG := List.mem_filter.mpr ⟨List.mem_of_getElem? (i := 531) (by decide +kernel), by decide +kernel⟩
theorem wd_533 : (.fieldLink "java/lang/Throwable" 31 "java/lang/Throwable" "detailMessage" "Ljava/lang/String;" : Cond) ∈ lwG := List.mem_filter.mpr ⟨List.mem_of_getElem? (i := 533) (by decide +kernel), by decide +kernel⟩
theorem wd_534 : (.fieldLink "java/lang/Throwable" 7 "java/lang/Throwable" "cause" "Ljava/lang/Throwable;" : Cond) ∈ lwG := List.mem_filter.mpr ⟨List.mem_of_getElem? (i := 534) (by decide +kernel), by decide +kernel⟩
theorem wd_535 : (.fieldLink "java/lang/Throwable" 17 "java/lang/Throwable" "stackTrace" "[Ljava/lang/StackTraceElement;" : Cond) ∈ lwG := List.mem_filter.mpr ⟨List.mem_of_getElem? (i := 535) (by decide +kernel), by decide +kernel⟩
theorem wd_536 : (.fieldLink "java/lang/Throwable" 24 "java/lang/Throwable" "suppressedExceptions" "Ljava/util/List;" : Cond) ∈ lwG := List.mem_filter.mpr ⟨List.mem_of_getElem? (i := 536) (by decide +kernel), by decide +kernel⟩
theorem wd_545 : (.methodLink "EmissionRows" 92 ⟨"EmissionRows", "inLowestTerms", "(III)I"⟩ : Cond) ∈ lwG := List.mem_filter.mpr ⟨List.mem_of_getElem? (i := 545) (by decide +kernel), by decide +kernel⟩
theorem wd_546 : (.static ⟨"EmissionRows", "inLowestTerms", "(III)I"⟩ : Cond) ∈ lwG := List.mem_filter.mpr ⟨List.mem_of_getElem? (i := 546) (by decide +kernel), by decide +kernel⟩
theorem wd_547 : (.code ⟨"EmissionRows", "inLowestTerms", "(III)I"⟩ prog_1_method_30_code 4 (Option.some .int) : Cond) ∈ lwG := List.mem_filter.mpr ⟨List.mem_of_getElem? (i := 547) (by decide +kernel), by decide +kernel⟩
theorem wd_548 : (.methodLink "EmissionRowsLaw" 81 ⟨"EmissionRowsLaw", "at", "(LEmissionRows;I[J)I"⟩ : Cond) ∈ lwG := List.mem_filter.mpr ⟨List.mem_of_getElem? (i := 548) (by decide +kernel), by decide +kernel⟩
theorem wd_549 : (.static ⟨"EmissionRowsLaw", "at", "(LEmissionRows;I[J)I"⟩ : Cond) ∈ lwG := List.mem_filter.mpr ⟨List.mem_of_getElem? (i := 549) (by decide +kernel), by decide +kernel⟩
theorem wd_551 : (.classLink "EmissionRowsLaw" 19 "java/lang/IndexOutOfBoundsException" : Cond) ∈ lwG := List.mem_filter.mpr ⟨List.mem_of_getElem? (i := 551) (by decide +kernel), by decide +kernel⟩
theorem wd_552 : (.methodLink "EmissionRowsLaw" 15 ⟨"EmissionRows", "at", "(I)B"⟩ : Cond) ∈ lwG := List.mem_filter.mpr ⟨List.mem_of_getElem? (i := 552) (by decide +kernel), by decide +kernel⟩
theorem wd_553 : (.instanceMethod ⟨"EmissionRows", "at", "(I)B"⟩ : Cond) ∈ lwG := List.mem_filter.mpr ⟨List.mem_of_getElem? (i := 553) (by decide +kernel), by decide +kernel⟩
theorem wd_554 : (.selects "EmissionRows" ⟨"EmissionRows", "at", "(I)B"⟩ ⟨"EmissionRows", "at", "(I)B"⟩ : Cond) ∈ lwG := List.mem_filter.mpr ⟨List.mem_of_getElem? (i := 554) (by decide +kernel), by decide +kernel⟩
theorem wd_555 : (.code ⟨"EmissionRows", "at", "(I)B"⟩ prog_1_method_13_code 2 (Option.some .byte) : Cond) ∈ lwG := List.mem_filter.mpr ⟨List.mem_of_getElem? (i := 555) (by decide +kernel), by decide +kernel⟩
theorem wd_558 : (.instanceMethod ⟨"EmissionRows$Octets", "has", "(I)Z"⟩ : Cond) ∈ lwG := List.mem_filter.mpr ⟨List.mem_of_getElem? (i := 558) (by decide +kernel), by decide +kernel⟩
theorem wd_559 : (.code ⟨"EmissionRows$Octets", "has", "(I)Z"⟩ prog_5_method_6_code 2 (Option.some .boolean) : Cond) ∈ lwG := List.mem_filter.mpr ⟨List.mem_of_getElem? (i := 559) (by decide +kernel), by decide +kernel⟩
theorem wd_560 : (.classLink "EmissionRows" 173 "java/lang/IndexOutOfBoundsException" : Cond) ∈ lwG := List.mem_filter.mpr ⟨List.mem_of_getElem? (i := 560) (by decide +kernel), by decide +kernel⟩
theorem wd_561 : (.instantiable "java/lang/IndexOutOfBoundsException" 6 : Cond) ∈ lwG := List.mem_filter.mpr ⟨List.mem_of_getElem? (i := 561) (by decide +kernel), by decide +kernel⟩
theorem wd_563 : (.selects "java/lang/IndexOutOfBoundsException" ⟨"java/lang/Throwable", "fillInStackTrace", "(I)Ljava/lang/Throwable;"⟩ ⟨"java/lang/Throwable", "fillInStackTrace", "(I)Ljava/lang/Throwable;"⟩ : Cond) ∈ lwG := List.mem_filter.mpr ⟨List.mem_of_getElem? (i := 563) (by decide +kernel), by decide +kernel⟩
theorem wd_570 : (.methodLink "EmissionRows" 177 ⟨"java/lang/IndexOutOfBoundsException", "<init>", "(Ljava/lang/String;)V"⟩ : Cond) ∈ lwG := List.mem_filter.mpr ⟨List.mem_of_getElem? (i := 570) (by decide +kernel), by decide +kernel⟩
theorem wd_571 : (.instanceMethod ⟨"java/lang/IndexOutOfBoundsException", "<init>", "(Ljava/lang/String;)V"⟩ : Cond) ∈ lwG := List.mem_filter.mpr ⟨List.mem_of_getElem? (i := 571) (by decide +kernel), by decide +kernel⟩
theorem wd_572 : (.code ⟨"java/lang/IndexOutOfBoundsException", "<init>", "(Ljava/lang/String;)V"⟩ prog_12_method_2_code 2 (Option.none : Option Jvm.ClassFile.FieldType) : Cond) ∈ lwG := List.mem_filter.mpr ⟨List.mem_of_getElem? (i := 572) (by decide +kernel), by decide +kernel⟩
theorem wd_573 : (.methodLink "java/lang/IndexOutOfBoundsException" 7 ⟨"java/lang/RuntimeException", "<init>", "(Ljava/lang/String;)V"⟩ : Cond) ∈ lwG := List.mem_filter.mpr ⟨List.mem_of_getElem? (i := 573) (by decide +kernel), by decide +kernel⟩
theorem wd_576 : (.classLink "EmissionRowsLaw" 22 "EmissionRowsModel" : Cond) ∈ lwG := List.mem_filter.mpr ⟨List.mem_of_getElem? (i := 576) (by decide +kernel), by decide +kernel⟩
theorem wd_577 : (.instantiable "EmissionRowsModel" 25 : Cond) ∈ lwG := List.mem_filter.mpr ⟨List.mem_of_getElem? (i := 577) (by decide +kernel), by decide +kernel⟩
theorem wd_578 : (.methodLink "EmissionRowsLaw" 24 ⟨"EmissionRowsModel", "<init>", "()V"⟩ : Cond) ∈ lwG := List.mem_filter.mpr ⟨List.mem_of_getElem? (i := 578) (by decide +kernel), by decide +kernel⟩
theorem wd_579 : (.instanceMethod ⟨"EmissionRowsModel", "<init>", "()V"⟩ : Cond) ∈ lwG := List.mem_filter.mpr ⟨List.mem_of_getElem? (i := 579) (by decide +kernel), by decide +kernel⟩
theorem wd_580 : (.code ⟨"EmissionRowsModel", "<init>", "()V"⟩ prog_7_method_1_code 1 (Option.none : Option Jvm.ClassFile.FieldType) : Cond) ∈ lwG := List.mem_filter.mpr ⟨List.mem_of_getElem? (i := 580) (by decide +kernel), by decide +kernel⟩
theorem wd_581 : (.methodLink "EmissionRowsModel" 1 ⟨"java/lang/Object", "<init>", "()V"⟩ : Cond) ∈ lwG := List.mem_filter.mpr ⟨List.mem_of_getElem? (i := 581) (by decide +kernel), by decide +kernel⟩
theorem wd_582 : (.fieldLink "EmissionRowsModel" 62 "EmissionRowsModel" "code" "I" : Cond) ∈ lwG := List.mem_filter.mpr ⟨List.mem_of_getElem? (i := 582) (by decide +kernel), by decide +kernel⟩
theorem wd_583 : (.fieldLink "EmissionRowsModel" 74 "EmissionRowsModel" "monitors" "I" : Cond) ∈ lwG := List.mem_filter.mpr ⟨List.mem_of_getElem? (i := 583) (by decide +kernel), by decide +kernel⟩
theorem wd_584 : (.fieldLink "EmissionRowsModel" 7 "EmissionRowsModel" "kind" "[I" : Cond) ∈ lwG := List.mem_filter.mpr ⟨List.mem_of_getElem? (i := 584) (by decide +kernel), by decide +kernel⟩
theorem wd_585 : (.fieldLink "EmissionRowsModel" 13 "EmissionRowsModel" "condition" "[I" : Cond) ∈ lwG := List.mem_filter.mpr ⟨List.mem_of_getElem? (i := 585) (by decide +kernel), by decide +kernel⟩
theorem wd_586 : (.fieldLink "EmissionRowsModel" 16 "EmissionRowsModel" "runs" "[I" : Cond) ∈ lwG := List.mem_filter.mpr ⟨List.mem_of_getElem? (i := 586) (by decide +kernel), by decide +kernel⟩
theorem wd_587 : (.fieldLink "EmissionRowsModel" 19 "EmissionRowsModel" "chances" "[I" : Cond) ∈ lwG := List.mem_filter.mpr ⟨List.mem_of_getElem? (i := 587) (by decide +kernel), by decide +kernel⟩
theorem wd_588 : (.fieldLink "EmissionRowsModel" 22 "EmissionRowsModel" "held" "[I" : Cond) ∈ lwG := List.mem_filter.mpr ⟨List.mem_of_getElem? (i := 588) (by decide +kernel), by decide +kernel⟩
theorem wd_589 : (.fieldLink "EmissionRowsModel" 25 "EmissionRowsModel" "ready" "[Z" : Cond) ∈ lwG := List.mem_filter.mpr ⟨List.mem_of_getElem? (i := 589) (by decide +kernel), by decide +kernel⟩
theorem wd_590 : (.fieldLink "EmissionRowsModel" 84 "EmissionRowsModel" "codes" "I" : Cond) ∈ lwG := List.mem_filter.mpr ⟨List.mem_of_getElem? (i := 590) (by decide +kernel), by decide +kernel⟩
theorem wd_591 : (.fieldLink "EmissionRowsModel" 29 "EmissionRowsModel" "number" "[I" : Cond) ∈ lwG := List.mem_filter.mpr ⟨List.mem_of_getElem? (i := 591) (by decide +kernel), by decide +kernel⟩
theorem wd_592 : (.fieldLink "EmissionRowsModel" 32 "EmissionRowsModel" "on" "[Z" : Cond) ∈ lwG := List.mem_filter.mpr ⟨List.mem_of_getElem? (i := 592) (by decide +kernel), by decide +kernel⟩
theorem wd_593 : (.fieldLink "EmissionRowsModel" 35 "EmissionRowsModel" "pending" "[Z" : Cond) ∈ lwG := List.mem_filter.mpr ⟨List.mem_of_getElem? (i := 593) (by decide +kernel), by decide +kernel⟩
theorem wd_594 : (.fieldLink "EmissionRowsModel" 38 "EmissionRowsModel" "confirmed" "[Z" : Cond) ∈ lwG := List.mem_filter.mpr ⟨List.mem_of_getElem? (i := 594) (by decide +kernel), by decide +kernel⟩
theorem wd_595 : (.fieldLink "EmissionRowsModel" 41 "EmissionRowsModel" "permanent" "[Z" : Cond) ∈ lwG := List.mem_filter.mpr ⟨List.mem_of_getElem? (i := 595) (by decide +kernel), by decide +kernel⟩
theorem wd_596 : (.fieldLink "EmissionRowsModel" 44 "EmissionRowsModel" "off" "[I" : Cond) ∈ lwG := List.mem_filter.mpr ⟨List.mem_of_getElem? (i := 596) (by decide +kernel), by decide +kernel⟩
theorem wd_597 : (.fieldLink "EmissionRowsModel" 47 "EmissionRowsModel" "passed" "[I" : Cond) ∈ lwG := List.mem_filter.mpr ⟨List.mem_of_getElem? (i := 597) (by decide +kernel), by decide +kernel⟩
theorem wd_598 : (.fieldLink "EmissionRowsModel" 50 "EmissionRowsModel" "frozen" "[Z" : Cond) ∈ lwG := List.mem_filter.mpr ⟨List.mem_of_getElem? (i := 598) (by decide +kernel), by decide +kernel⟩
theorem wd_599 : (.fieldLink "EmissionRowsModel" 53 "EmissionRowsModel" "frozenCycle" "[I" : Cond) ∈ lwG := List.mem_filter.mpr ⟨List.mem_of_getElem? (i := 599) (by decide +kernel), by decide +kernel⟩
theorem wd_600 : (.fieldLink "EmissionRowsModel" 56 "EmissionRowsModel" "frozenConditions" "[I" : Cond) ∈ lwG := List.mem_filter.mpr ⟨List.mem_of_getElem? (i := 600) (by decide +kernel), by decide +kernel⟩
theorem wd_601 : (.fieldLink "EmissionRowsModel" 81 "EmissionRowsModel" "cycles" "I" : Cond) ∈ lwG := List.mem_filter.mpr ⟨List.mem_of_getElem? (i := 601) (by decide +kernel), by decide +kernel⟩
theorem wd_602 : (.fieldLink "EmissionRowsModel" 109 "EmissionRowsModel" "lit" "Z" : Cond) ∈ lwG := List.mem_filter.mpr ⟨List.mem_of_getElem? (i := 602) (by decide +kernel), by decide +kernel⟩
theorem wd_603 : (.fieldLink "EmissionRowsModel" 113 "EmissionRowsModel" "metresLit" "J" : Cond) ∈ lwG := List.mem_filter.mpr ⟨List.mem_of_getElem? (i := 603) (by decide +kernel), by decide +kernel⟩
theorem wd_604 : (.fieldLink "EmissionRowsModel" 117 "EmissionRowsModel" "minutesLit" "J" : Cond) ∈ lwG := List.mem_filter.mpr ⟨List.mem_of_getElem? (i := 604) (by decide +kernel), by decide +kernel⟩
theorem wd_605 : (.fieldLink "EmissionRowsModel" 132 "EmissionRowsModel" "size" "I" : Cond) ∈ lwG := List.mem_filter.mpr ⟨List.mem_of_getElem? (i := 605) (by decide +kernel), by decide +kernel⟩
theorem wd_606 : (.fieldLink "EmissionRowsModel" 59 "EmissionRowsModel" "row" "[I" : Cond) ∈ lwG := List.mem_filter.mpr ⟨List.mem_of_getElem? (i := 606) (by decide +kernel), by decide +kernel⟩
theorem wd_658 : (.arrayClass .int : Cond) ∈ lwG := List.mem_filter.mpr ⟨List.mem_of_getElem? (i := 658) (by decide +kernel), by decide +kernel⟩
theorem wd_659 : (.arrayClass .boolean : Cond) ∈ lwG := List.mem_filter.mpr ⟨List.mem_of_getElem? (i := 659) (by decide +kernel), by decide +kernel⟩
theorem wd_660 : (.methodLink "EmissionRowsLaw" 44 ⟨"EmissionRowsModel", "thrown", "()I"⟩ : Cond) ∈ lwG := List.mem_filter.mpr ⟨List.mem_of_getElem? (i := 660) (by decide +kernel), by decide +kernel⟩
theorem wd_661 : (.instanceMethod ⟨"EmissionRowsModel", "thrown", "()I"⟩ : Cond) ∈ lwG := List.mem_filter.mpr ⟨List.mem_of_getElem? (i := 661) (by decide +kernel), by decide +kernel⟩
theorem wd_662 : (.selects "EmissionRowsModel" ⟨"EmissionRowsModel", "thrown", "()I"⟩ ⟨"EmissionRowsModel", "thrown", "()I"⟩ : Cond) ∈ lwG := List.mem_filter.mpr ⟨List.mem_of_getElem? (i := 662) (by decide +kernel), by decide +kernel⟩
theorem wd_663 : (.code ⟨"EmissionRowsModel", "thrown", "()I"⟩ prog_7_method_2_code 1 (Option.some .int) : Cond) ∈ lwG := List.mem_filter.mpr ⟨List.mem_of_getElem? (i := 663) (by decide +kernel), by decide +kernel⟩
theorem wd_664 : (.methodLink "EmissionRowsLaw" 29 ⟨"EmissionRowsModel", "monitor", "(II)I"⟩ : Cond) ∈ lwG := List.mem_filter.mpr ⟨List.mem_of_getElem? (i := 664) (by decide +kernel), by decide +kernel⟩
theorem wd_665 : (.instanceMethod ⟨"EmissionRowsModel", "monitor", "(II)I"⟩ : Cond) ∈ lwG := List.mem_filter.mpr ⟨List.mem_of_getElem? (i := 665) (by decide +kernel), by decide +kernel⟩
theorem wd_666 : (.selects "EmissionRowsModel" ⟨"EmissionRowsModel", "monitor", "(II)I"⟩ ⟨"EmissionRowsModel", "monitor", "(II)I"⟩ : Cond) ∈ lwG := List.mem_filter.mpr ⟨List.mem_of_getElem? (i := 666) (by decide +kernel), by decide +kernel⟩
theorem wd_667 : (.code ⟨"EmissionRowsModel", "monitor", "(II)I"⟩ prog_7_method_4_code 3 (Option.some .int) : Cond) ∈ lwG := List.mem_filter.mpr ⟨List.mem_of_getElem? (i := 667) (by decide +kernel), by decide +kernel⟩
theorem wd_668 : (.constantLong "EmissionRowsModel" 66 3 : Cond) ∈ lwG := List.mem_filter.mpr ⟨List.mem_of_getElem? (i := 668) (by decide +kernel), by decide +kernel⟩
theorem wd_669 : (.methodLink "EmissionRowsModel" 68 ⟨"EmissionRowsModel", "isIn", "(JJJ)Z"⟩ : Cond) ∈ lwG := List.mem_filter.mpr ⟨List.mem_of_getElem? (i := 669) (by decide +kernel), by decide +kernel⟩
theorem wd_670 : (.static ⟨"EmissionRowsModel", "isIn", "(JJJ)Z"⟩ : Cond) ∈ lwG := List.mem_filter.mpr ⟨List.mem_of_getElem? (i := 670) (by decide +kernel), by decide +kernel⟩
theorem wd_671 : (.code ⟨"EmissionRowsModel", "isIn", "(JJJ)Z"⟩ prog_7_method_3_code 6 (Option.some .boolean) : Cond) ∈ lwG := List.mem_filter.mpr ⟨List.mem_of_getElem? (i := 671) (by decide +kernel), by decide +kernel⟩
theorem wd_672 : (.constantLong "EmissionRowsModel" 72 7 : Cond) ∈ lwG := List.mem_filter.mpr ⟨List.mem_of_getElem? (i := 672) (by decide +kernel), by decide +kernel⟩
theorem wd_673 : (.methodLink "EmissionRowsLaw" 33 ⟨"EmissionRowsModel", "cycle", "(II)I"⟩ : Cond) ∈ lwG := List.mem_filter.mpr ⟨List.mem_of_getElem? (i := 673) (by decide +kernel), by decide +kernel⟩
theorem wd_674 : (.instanceMethod ⟨"EmissionRowsModel", "cycle", "(II)I"⟩ : Cond) ∈ lwG := List.mem_filter.mpr ⟨List.mem_of_getElem? (i := 674) (by decide +kernel), by decide +kernel⟩
theorem wd_675 : (.selects "EmissionRowsModel" ⟨"EmissionRowsModel", "cycle", "(II)I"⟩ ⟨"EmissionRowsModel", "cycle", "(II)I"⟩ : Cond) ∈ lwG := List.mem_filter.mpr ⟨List.mem_of_getElem? (i := 675) (by decide +kernel), by decide +kernel⟩
theorem wd_676 : (.code ⟨"EmissionRowsModel", "cycle", "(II)I"⟩ prog_7_method_11_code 6 (Option.some .int) : Cond) ∈ lwG := List.mem_filter.mpr ⟨List.mem_of_getElem? (i := 676) (by decide +kernel), by decide +kernel⟩
theorem wd_677 : (.constantLong "EmissionRowsModel" 87 255 : Cond) ∈ lwG := List.mem_filter.mpr ⟨List.mem_of_getElem? (i := 677) (by decide +kernel), by decide +kernel⟩
theorem wd_678 : (.constantLong "EmissionRowsModel" 89 65535 : Cond) ∈ lwG := List.mem_filter.mpr ⟨List.mem_of_getElem? (i := 678) (by decide +kernel), by decide +kernel⟩
theorem wd_679 : (.methodLink "EmissionRowsModel" 91 ⟨"EmissionRowsModel", "hasChance", "(II)Z"⟩ : Cond) ∈ lwG := List.mem_filter.mpr ⟨List.mem_of_getElem? (i := 679) (by decide +kernel), by decide +kernel⟩
theorem wd_681 : (.instanceMethod ⟨"EmissionRowsModel", "hasChance", "(II)Z"⟩ : Cond) ∈ lwG := List.mem_filter.mpr ⟨List.mem_of_getElem? (i := 681) (by decide +kernel), by decide +kernel⟩
theorem wd_682 : (.code ⟨"EmissionRowsModel", "hasChance", "(II)Z"⟩ prog_7_method_6_code 4 (Option.some .boolean) : Cond) ∈ lwG := List.mem_filter.mpr ⟨List.mem_of_getElem? (i := 682) (by decide +kernel), by decide +kernel⟩
theorem wd_683 : (.methodLink "EmissionRowsModel" 77 ⟨"EmissionRowsModel", "holds", "(II)Z"⟩ : Cond) ∈ lwG := List.mem_filter.mpr ⟨List.mem_of_getElem? (i := 683) (by decide +kernel), by decide +kernel⟩
theorem wd_684 : (.static ⟨"EmissionRowsModel", "holds", "(II)Z"⟩ : Cond) ∈ lwG := List.mem_filter.mpr ⟨List.mem_of_getElem? (i := 684) (by decide +kernel), by decide +kernel⟩
theorem wd_685 : (.code ⟨"EmissionRowsModel", "holds", "(II)Z"⟩ prog_7_method_5_code 2 (Option.some .boolean) : Cond) ∈ lwG := List.mem_filter.mpr ⟨List.mem_of_getElem? (i := 685) (by decide +kernel), by decide +kernel⟩
theorem wd_686 : (.methodLink "EmissionRowsModel" 94 ⟨"EmissionRowsModel", "count", "(IZ)V"⟩ : Cond) ∈ lwG := List.mem_filter.mpr ⟨List.mem_of_getElem? (i := 686) (by decide +kernel), by decide +kernel⟩
theorem wd_688 : (.instanceMethod ⟨"EmissionRowsModel", "count", "(IZ)V"⟩ : Cond) ∈ lwG := List.mem_filter.mpr ⟨List.mem_of_getElem? (i := 688) (by decide +kernel), by decide +kernel⟩
theorem wd_689 : (.code ⟨"EmissionRowsModel", "count", "(IZ)V"⟩ prog_7_method_7_code 3 (Option.none : Option Jvm.ClassFile.FieldType) : Cond) ∈ lwG := List.mem_filter.mpr ⟨List.mem_of_getElem? (i := 689) (by decide +kernel), by decide +kernel⟩
theorem wd_690 : (.methodLink "EmissionRowsModel" 98 ⟨"EmissionRowsModel", "endOn", "(II)V"⟩ : Cond) ∈ lwG := List.mem_filter.mpr ⟨List.mem_of_getElem? (i := 690) (by decide +kernel), by decide +kernel⟩
theorem wd_692 : (.instanceMethod ⟨"EmissionRowsModel", "endOn", "(II)V"⟩ : Cond) ∈ lwG := List.mem_filter.mpr ⟨List.mem_of_getElem? (i := 692) (by decide +kernel), by decide +kernel⟩
theorem wd_693 : (.code ⟨"EmissionRowsModel", "endOn", "(II)V"⟩ prog_7_method_8_code 3 (Option.none : Option Jvm.ClassFile.FieldType) : Cond) ∈ lwG := List.mem_filter.mpr ⟨List.mem_of_getElem? (i := 693) (by decide +kernel), by decide +kernel⟩
theorem wd_694 : (.methodLink "EmissionRowsModel" 102 ⟨"EmissionRowsModel", "endOff", "(II)V"⟩ : Cond) ∈ lwG := List.mem_filter.mpr ⟨List.mem_of_getElem? (i := 694) (by decide +kernel), by decide +kernel⟩
theorem wd_696 : (.instanceMethod ⟨"EmissionRowsModel", "endOff", "(II)V"⟩ : Cond) ∈ lwG := List.mem_filter.mpr ⟨List.mem_of_getElem? (i := 696) (by decide +kernel), by decide +kernel⟩
theorem wd_697 : (.code ⟨"EmissionRowsModel", "endOff", "(II)V"⟩ prog_7_method_9_code 3 (Option.none : Option Jvm.ClassFile.FieldType) : Cond) ∈ lwG := List.mem_filter.mpr ⟨List.mem_of_getElem? (i := 697) (by decide +kernel), by decide +kernel⟩
theorem wd_698 : (.methodLink "EmissionRowsModel" 105 ⟨"EmissionRowsModel", "confirmedCodes", "()I"⟩ : Cond) ∈ lwG := List.mem_filter.mpr ⟨List.mem_of_getElem? (i := 698) (by decide +kernel), by decide +kernel⟩
theorem wd_700 : (.instanceMethod ⟨"EmissionRowsModel", "confirmedCodes", "()I"⟩ : Cond) ∈ lwG := List.mem_filter.mpr ⟨List.mem_of_getElem? (i := 700) (by decide +kernel), by decide +kernel⟩
theorem wd_701 : (.code ⟨"EmissionRowsModel", "confirmedCodes", "()I"⟩ prog_7_method_10_code 3 (Option.some .int) : Cond) ∈ lwG := List.mem_filter.mpr ⟨List.mem_of_getElem? (i := 701) (by decide +kernel), by decide +kernel⟩
theorem wd_702 : (.methodLink "EmissionRowsLaw" 37 ⟨"EmissionRowsModel", "count", "(II)I"⟩ : Cond) ∈ lwG := List.mem_filter.mpr ⟨List.mem_of_getElem? (i := 702) (by decide +kernel), by decide +kernel⟩
theorem wd_703 : (.instanceMethod ⟨"EmissionRowsModel", "count", "(II)I"⟩ : Cond) ∈ lwG := List.mem_filter.mpr ⟨List.mem_of_getElem? (i := 703) (by decide +kernel), by decide +kernel⟩
theorem wd_704 : (.selects "EmissionRowsModel" ⟨"EmissionRowsModel", "count", "(II)I"⟩ ⟨"EmissionRowsModel", "count", "(II)I"⟩ : Cond) ∈ lwG := List.mem_filter.mpr ⟨List.mem_of_getElem? (i := 704) (by decide +kernel), by decide +kernel⟩
theorem wd_705 : (.code ⟨"EmissionRowsModel", "count", "(II)I"⟩ prog_7_method_12_code 3 (Option.some .int) : Cond) ∈ lwG := List.mem_filter.mpr ⟨List.mem_of_getElem? (i := 705) (by decide +kernel), by decide +kernel⟩
theorem wd_706 : (.methodLink "EmissionRowsLaw" 43 ⟨"EmissionRowsModel", "ratio", "(II)J"⟩ : Cond) ∈ lwG := List.mem_filter.mpr ⟨List.mem_of_getElem? (i := 706) (by decide +kernel), by decide +kernel⟩
theorem wd_707 : (.instanceMethod ⟨"EmissionRowsModel", "ratio", "(II)J"⟩ : Cond) ∈ lwG := List.mem_filter.mpr ⟨List.mem_of_getElem? (i := 707) (by decide +kernel), by decide +kernel⟩
theorem wd_708 : (.selects "EmissionRowsModel" ⟨"EmissionRowsModel", "ratio", "(II)J"⟩ ⟨"EmissionRowsModel", "ratio", "(II)J"⟩ : Cond) ∈ lwG := List.mem_filter.mpr ⟨List.mem_of_getElem? (i := 708) (by decide +kernel), by decide +kernel⟩
theorem wd_709 : (.code ⟨"EmissionRowsModel", "ratio", "(II)J"⟩ prog_7_method_13_code 7 (Option.some .long) : Cond) ∈ lwG := List.mem_filter.mpr ⟨List.mem_of_getElem? (i := 709) (by decide +kernel), by decide +kernel⟩
theorem wd_710 : (.constantLong "EmissionRowsModel" 120 (-1) : Cond) ∈ lwG := List.mem_filter.mpr ⟨List.mem_of_getElem? (i := 710) (by decide +kernel), by decide +kernel⟩
theorem wd_711 : (.methodLink "EmissionRowsLaw" 52 ⟨"EmissionRowsModel", "ready", "(I)I"⟩ : Cond) ∈ lwG := List.mem_filter.mpr ⟨List.mem_of_getElem? (i := 711) (by decide +kernel), by decide +kernel⟩
theorem wd_712 : (.instanceMethod ⟨"EmissionRowsModel", "ready", "(I)I"⟩ : Cond) ∈ lwG := List.mem_filter.mpr ⟨List.mem_of_getElem? (i := 712) (by decide +kernel), by decide +kernel⟩
theorem wd_713 : (.selects "EmissionRowsModel" ⟨"EmissionRowsModel", "ready", "(I)I"⟩ ⟨"EmissionRowsModel", "ready", "(I)I"⟩ : Cond) ∈ lwG := List.mem_filter.mpr ⟨List.mem_of_getElem? (i := 713) (by decide +kernel), by decide +kernel⟩
theorem wd_714 : (.code ⟨"EmissionRowsModel", "ready", "(I)I"⟩ prog_7_method_14_code 4 (Option.some .int) : Cond) ∈ lwG := List.mem_filter.mpr ⟨List.mem_of_getElem? (i := 714) (by decide +kernel), by decide +kernel⟩
theorem wd_715 : (.methodLink "EmissionRowsLaw" 57 ⟨"EmissionRowsModel", "fault", "(IZ)I"⟩ : Cond) ∈ lwG := List.mem_filter.mpr ⟨List.mem_of_getElem? (i := 715) (by decide +kernel), by decide +kernel⟩
theorem wd_716 : (.instanceMethod ⟨"EmissionRowsModel", "fault", "(IZ)I"⟩ : Cond) ∈ lwG := List.mem_filter.mpr ⟨List.mem_of_getElem? (i := 716) (by decide +kernel), by decide +kernel⟩
theorem wd_717 : (.selects "EmissionRowsModel" ⟨"EmissionRowsModel", "fault", "(IZ)I"⟩ ⟨"EmissionRowsModel", "fault", "(IZ)I"⟩ : Cond) ∈ lwG := List.mem_filter.mpr ⟨List.mem_of_getElem? (i := 717) (by decide +kernel), by decide +kernel⟩
theorem wd_718 : (.code ⟨"EmissionRowsModel", "fault", "(IZ)I"⟩ prog_7_method_15_code 4 (Option.some .int) : Cond) ∈ lwG := List.mem_filter.mpr ⟨List.mem_of_getElem? (i := 718) (by decide +kernel), by decide +kernel⟩
theorem wd_719 : (.methodLink "EmissionRowsLaw" 61 ⟨"EmissionRowsModel", "permanent", "(I)I"⟩ : Cond) ∈ lwG := List.mem_filter.mpr ⟨List.mem_of_getElem? (i := 719) (by decide +kernel), by decide +kernel⟩
theorem wd_720 : (.instanceMethod ⟨"EmissionRowsModel", "permanent", "(I)I"⟩ : Cond) ∈ lwG := List.mem_filter.mpr ⟨List.mem_of_getElem? (i := 720) (by decide +kernel), by decide +kernel⟩
theorem wd_721 : (.selects "EmissionRowsModel" ⟨"EmissionRowsModel", "permanent", "(I)I"⟩ ⟨"EmissionRowsModel", "permanent", "(I)I"⟩ : Cond) ∈ lwG := List.mem_filter.mpr ⟨List.mem_of_getElem? (i := 721) (by decide +kernel), by decide +kernel⟩
theorem wd_722 : (.code ⟨"EmissionRowsModel", "permanent", "(I)I"⟩ prog_7_method_16_code 4 (Option.some .int) : Cond) ∈ lwG := List.mem_filter.mpr ⟨List.mem_of_getElem? (i := 722) (by decide +kernel), by decide +kernel⟩
theorem wd_723 : (.methodLink "EmissionRowsLaw" 65 ⟨"EmissionRowsModel", "clear", "()I"⟩ : Cond) ∈ lwG := List.mem_filter.mpr ⟨List.mem_of_getElem? (i := 723) (by decide +kernel), by decide +kernel⟩
theorem wd_724 : (.instanceMethod ⟨"EmissionRowsModel", "clear", "()I"⟩ : Cond) ∈ lwG := List.mem_filter.mpr ⟨List.mem_of_getElem? (i := 724) (by decide +kernel), by decide +kernel⟩
theorem wd_725 : (.selects "EmissionRowsModel" ⟨"EmissionRowsModel", "clear", "()I"⟩ ⟨"EmissionRowsModel", "clear", "()I"⟩ : Cond) ∈ lwG := List.mem_filter.mpr ⟨List.mem_of_getElem? (i := 725) (by decide +kernel), by decide +kernel⟩
theorem wd_726 : (.code ⟨"EmissionRowsModel", "clear", "()I"⟩ prog_7_method_17_code 3 (Option.some .int) : Cond) ∈ lwG := List.mem_filter.mpr ⟨List.mem_of_getElem? (i := 726) (by decide +kernel), by decide +kernel⟩
theorem wd_727 : (.methodLink "EmissionRowsLaw" 72 ⟨"EmissionRowsModel", "lamp", "(JJ)I"⟩ : Cond) ∈ lwG := List.mem_filter.mpr ⟨List.mem_of_getElem? (i := 727) (by decide +kernel), by decide +kernel⟩
theorem wd_728 : (.instanceMethod ⟨"EmissionRowsModel", "lamp", "(JJ)I"⟩ : Cond) ∈ lwG := List.mem_filter.mpr ⟨List.mem_of_getElem? (i := 728) (by decide +kernel), by decide +kernel⟩
theorem wd_729 : (.selects "EmissionRowsModel" ⟨"EmissionRowsModel", "lamp", "(JJ)I"⟩ ⟨"EmissionRowsModel", "lamp", "(JJ)I"⟩ : Cond) ∈ lwG := List.mem_filter.mpr ⟨List.mem_of_getElem? (i := 729) (by decide +kernel), by decide +kernel⟩
theorem wd_730 : (.code ⟨"EmissionRowsModel", "lamp", "(JJ)I"⟩ prog_7_method_18_code 5 (Option.some .int) : Cond) ∈ lwG := List.mem_filter.mpr ⟨List.mem_of_getElem? (i := 730) (by decide +kernel), by decide +kernel⟩
theorem wd_731 : (.constantLong "EmissionRowsModel" 122 1000000000 : Cond) ∈ lwG := List.mem_filter.mpr ⟨List.mem_of_getElem? (i := 731) (by decide +kernel), by decide +kernel⟩
theorem wd_732 : (.methodLink "EmissionRowsLaw" 76 ⟨"EmissionRowsModel", "freeze", "(I)I"⟩ : Cond) ∈ lwG := List.mem_filter.mpr ⟨List.mem_of_getElem? (i := 732) (by decide +kernel), by decide +kernel⟩
theorem wd_733 : (.instanceMethod ⟨"EmissionRowsModel", "freeze", "(I)I"⟩ : Cond) ∈ lwG := List.mem_filter.mpr ⟨List.mem_of_getElem? (i := 733) (by decide +kernel), by decide +kernel⟩
theorem wd_734 : (.selects "EmissionRowsModel" ⟨"EmissionRowsModel", "freeze", "(I)I"⟩ ⟨"EmissionRowsModel", "freeze", "(I)I"⟩ : Cond) ∈ lwG := List.mem_filter.mpr ⟨List.mem_of_getElem? (i := 734) (by decide +kernel), by decide +kernel⟩
theorem wd_735 : (.code ⟨"EmissionRowsModel", "freeze", "(I)I"⟩ prog_7_method_21_code 3 (Option.some .int) : Cond) ∈ lwG := List.mem_filter.mpr ⟨List.mem_of_getElem? (i := 735) (by decide +kernel), by decide +kernel⟩
theorem wd_736 : (.methodLink "EmissionRowsModel" 125 ⟨"EmissionRowsModel", "most", "(J)I"⟩ : Cond) ∈ lwG := List.mem_filter.mpr ⟨List.mem_of_getElem? (i := 736) (by decide +kernel), by decide +kernel⟩
theorem wd_737 : (.static ⟨"EmissionRowsModel", "most", "(J)I"⟩ : Cond) ∈ lwG := List.mem_filter.mpr ⟨List.mem_of_getElem? (i := 737) (by decide +kernel), by decide +kernel⟩
theorem wd_738 : (.code ⟨"EmissionRowsModel", "most", "(J)I"⟩ prog_7_method_20_code 2 (Option.some .int) : Cond) ∈ lwG := List.mem_filter.mpr ⟨List.mem_of_getElem? (i := 738) (by decide +kernel), by decide +kernel⟩
theorem wd_739 : (.constant "EmissionRowsModel" 124 65535 : Cond) ∈ lwG := List.mem_filter.mpr ⟨List.mem_of_getElem? (i := 739) (by decide +kernel), by decide +kernel⟩
theorem wd_740 : (.methodLink "EmissionRowsModel" 129 ⟨"EmissionRowsModel", "firstFrozen", "()I"⟩ : Cond) ∈ lwG := List.mem_filter.mpr ⟨List.mem_of_getElem? (i := 740) (by decide +kernel), by decide +kernel⟩
theorem wd_742 : (.instanceMethod ⟨"EmissionRowsModel", "firstFrozen", "()I"⟩ : Cond) ∈ lwG := List.mem_filter.mpr ⟨List.mem_of_getElem? (i := 742) (by decide +kernel), by decide +kernel⟩
theorem wd_743 : (.code ⟨"EmissionRowsModel", "firstFrozen", "()I"⟩ prog_7_method_19_code 2 (Option.some .int) : Cond) ∈ lwG := List.mem_filter.mpr ⟨List.mem_of_getElem? (i := 743) (by decide +kernel), by decide +kernel⟩
theorem wd_744 : (.methodLink "EmissionRowsLaw" 80 ⟨"EmissionRowsModel", "answer", "(II)I"⟩ : Cond) ∈ lwG := List.mem_filter.mpr ⟨List.mem_of_getElem? (i := 744) (by decide +kernel), by decide +kernel⟩
theorem wd_745 : (.instanceMethod ⟨"EmissionRowsModel", "answer", "(II)I"⟩ : Cond) ∈ lwG := List.mem_filter.mpr ⟨List.mem_of_getElem? (i := 745) (by decide +kernel), by decide +kernel⟩
theorem wd_746 : (.selects "EmissionRowsModel" ⟨"EmissionRowsModel", "answer", "(II)I"⟩ ⟨"EmissionRowsModel", "answer", "(II)I"⟩ : Cond) ∈ lwG := List.mem_filter.mpr ⟨List.mem_of_getElem? (i := 746) (by decide +kernel), by decide +kernel⟩
theorem wd_747 : (.code ⟨"EmissionRowsModel", "answer", "(II)I"⟩ prog_7_method_27_code 4 (Option.some .int) : Cond) ∈ lwG := List.mem_filter.mpr ⟨List.mem_of_getElem? (i := 747) (by decide +kernel), by decide +kernel⟩
theorem wd_748 : (.methodLink "EmissionRowsModel" 142 ⟨"EmissionRowsModel", "tellState", "()V"⟩ : Cond) ∈ lwG := List.mem_filter.mpr ⟨List.mem_of_getElem? (i := 748) (by decide +kernel), by decide +kernel⟩
theorem wd_750 : (.instanceMethod ⟨"EmissionRowsModel", "tellState", "()V"⟩ : Cond) ∈ lwG := List.mem_filter.mpr ⟨List.mem_of_getElem? (i := 750) (by decide +kernel), by decide +kernel⟩
theorem wd_751 : (.code ⟨"EmissionRowsModel", "tellState", "()V"⟩ prog_7_method_24_code 3 (Option.none : Option Jvm.ClassFile.FieldType) : Cond) ∈ lwG := List.mem_filter.mpr ⟨List.mem_of_getElem? (i := 751) (by decide +kernel), by decide +kernel⟩
theorem wd_752 : (.methodLink "EmissionRowsModel" 135 ⟨"EmissionRowsModel", "put", "(I)V"⟩ : Cond) ∈ lwG := List.mem_filter.mpr ⟨List.mem_of_getElem? (i := 752) (by decide +kernel), by decide +kernel⟩
theorem wd_754 : (.instanceMethod ⟨"EmissionRowsModel", "put", "(I)V"⟩ : Cond) ∈ lwG := List.mem_filter.mpr ⟨List.mem_of_getElem? (i := 754) (by decide +kernel), by decide +kernel⟩
theorem wd_755 : (.code ⟨"EmissionRowsModel", "put", "(I)V"⟩ prog_7_method_22_code 2 (Option.none : Option Jvm.ClassFile.FieldType) : Cond) ∈ lwG := List.mem_filter.mpr ⟨List.mem_of_getElem? (i := 755) (by decide +kernel), by decide +kernel⟩
theorem wd_756 : (.constantLong "EmissionRowsModel" 145 1000 : Cond) ∈ lwG := List.mem_filter.mpr ⟨List.mem_of_getElem? (i := 756) (by decide +kernel), by decide +kernel⟩
theorem wd_757 : (.methodLink "EmissionRowsModel" 139 ⟨"EmissionRowsModel", "putTwo", "(I)V"⟩ : Cond) ∈ lwG := List.mem_filter.mpr ⟨List.mem_of_getElem? (i := 757) (by decide +kernel), by decide +kernel⟩
theorem wd_759 : (.instanceMethod ⟨"EmissionRowsModel", "putTwo", "(I)V"⟩ : Cond) ∈ lwG := List.mem_filter.mpr ⟨List.mem_of_getElem? (i := 759) (by decide +kernel), by decide +kernel⟩
theorem wd_760 : (.code ⟨"EmissionRowsModel", "putTwo", "(I)V"⟩ prog_7_method_23_code 2 (Option.none : Option Jvm.ClassFile.FieldType) : Cond) ∈ lwG := List.mem_filter.mpr ⟨List.mem_of_getElem? (i := 760) (by decide +kernel), by decide +kernel⟩
theorem wd_761 : (.methodLink "EmissionRowsModel" 147 ⟨"EmissionRowsModel", "tellFrozen", "(I)V"⟩ : Cond) ∈ lwG := List.mem_filter.mpr ⟨List.mem_of_getElem? (i := 761) (by decide +kernel), by decide +kernel⟩
theorem wd_763 : (.instanceMethod ⟨"EmissionRowsModel", "tellFrozen", "(I)V"⟩ : Cond) ∈ lwG := List.mem_filter.mpr ⟨List.mem_of_getElem? (i := 763) (by decide +kernel), by decide +kernel⟩
theorem wd_764 : (.code ⟨"EmissionRowsModel", "tellFrozen", "(I)V"⟩ prog_7_method_25_code 3 (Option.none : Option Jvm.ClassFile.FieldType) : Cond) ∈ lwG := List.mem_filter.mpr ⟨List.mem_of_getElem? (i := 764) (by decide +kernel), by decide +kernel⟩
theorem wd_765 : (.methodLink "EmissionRowsModel" 150 ⟨"EmissionRowsModel", "tellCodes", "(I)V"⟩ : Cond) ∈ lwG := List.mem_filter.mpr ⟨List.mem_of_getElem? (i := 765) (by decide +kernel), by decide +kernel⟩
theorem wd_767 : (.instanceMethod ⟨"EmissionRowsModel", "tellCodes", "(I)V"⟩ : Cond) ∈ lwG := List.mem_filter.mpr ⟨List.mem_of_getElem? (i := 767) (by decide +kernel), by decide +kernel⟩
theorem wd_768 : (.code ⟨"EmissionRowsModel", "tellCodes", "(I)V"⟩ prog_7_method_26_code 3 (Option.none : Option Jvm.ClassFile.FieldType) : Cond) ∈ lwG := List.mem_filter.mpr ⟨List.mem_of_getElem? (i := 768) (by decide +kernel), by decide +kernel⟩
theorem wd_769 : (.methodLink "EmissionRowsLaw" 84 ⟨"EmissionRowsModel", "at", "(I)B"⟩ : Cond) ∈ lwG := List.mem_filter.mpr ⟨List.mem_of_getElem? (i := 769) (by decide +kernel), by decide +kernel⟩
theorem wd_770 : (.instanceMethod ⟨"EmissionRowsModel", "at", "(I)B"⟩ : Cond) ∈ lwG := List.mem_filter.mpr ⟨List.mem_of_getElem? (i := 770) (by decide +kernel), by decide +kernel⟩
theorem wd_771 : (.selects "EmissionRowsModel" ⟨"EmissionRowsModel", "at", "(I)B"⟩ ⟨"EmissionRowsModel", "at", "(I)B"⟩ : Cond) ∈ lwG := List.mem_filter.mpr ⟨List.mem_of_getElem? (i := 771) (by decide +kernel), by decide +kernel⟩
theorem wd_772 : (.code ⟨"EmissionRowsModel", "at", "(I)B"⟩ prog_7_method_28_code 2 (Option.some .byte) : Cond) ∈ lwG := List.mem_filter.mpr ⟨List.mem_of_getElem? (i := 772) (by decide +kernel), by decide +kernel⟩
theorem wd_773 : (.methodLink "EmissionRowsLaw" 88 ⟨"EmissionRowsModel", "sum", "()I"⟩ : Cond) ∈ lwG := List.mem_filter.mpr ⟨List.mem_of_getElem? (i := 773) (by decide +kernel), by decide +kernel⟩
theorem wd_774 : (.instanceMethod ⟨"EmissionRowsModel", "sum", "()I"⟩ : Cond) ∈ lwG := List.mem_filter.mpr ⟨List.mem_of_getElem? (i := 774) (by decide +kernel), by decide +kernel⟩
theorem wd_775 : (.selects "EmissionRowsModel" ⟨"EmissionRowsModel", "sum", "()I"⟩ ⟨"EmissionRowsModel", "sum", "()I"⟩ : Cond) ∈ lwG := List.mem_filter.mpr ⟨List.mem_of_getElem? (i := 775) (by decide +kernel), by decide +kernel⟩
theorem wd_776 : (.code ⟨"EmissionRowsModel", "sum", "()I"⟩ prog_7_method_29_code 3 (Option.some .int) : Cond) ∈ lwG := List.mem_filter.mpr ⟨List.mem_of_getElem? (i := 776) (by decide +kernel), by decide +kernel⟩
theorem wd_777 : (.constantLong "EmissionRowsLaw" 66 4294967295 : Cond) ∈ lwG := List.mem_filter.mpr ⟨List.mem_of_getElem? (i := 777) (by decide +kernel), by decide +kernel⟩
theorem wd_778 : (.arrayClass .long : Cond) ∈ lwG := List.mem_filter.mpr ⟨List.mem_of_getElem? (i := 778) (by decide +kernel), by decide +kernel⟩
theorem wd_783 : (.selects "[Ljava/lang/Object;" ⟨"java/lang/Object", "getClass", "()Ljava/lang/Class;"⟩ ⟨"java/lang/Object", "getClass", "()Ljava/lang/Class;"⟩ : Cond) ∈ lwG := List.mem_filter.mpr ⟨List.mem_of_getElem? (i := 783) (by decide +kernel), by decide +kernel⟩
theorem wd_0 : (.selects "java/util/ArrayList" ⟨"java/util/ArrayList", "add", "(Ljava/lang/Object;[Ljava/lang/Object;I)V"⟩ ⟨"java/util/ArrayList", "add", "(Ljava/lang/Object;[Ljava/lang/Object;I)V"⟩ : Cond) ∈ lwG := List.mem_filter.mpr ⟨List.mem_of_getElem? (i := 0) (by decide +kernel), by decide +kernel⟩
theorem wd_1 : (.selects "java/util/ArrayList" ⟨"java/util/ArrayList", "grow", "()[Ljava/lang/Object;"⟩ ⟨"java/util/ArrayList", "grow", "()[Ljava/lang/Object;"⟩ : Cond) ∈ lwG := List.mem_filter.mpr ⟨List.mem_of_getElem? (i := 1) (by decide +kernel), by decide +kernel⟩
theorem wd_2 : (.selects "java/util/ArrayList" ⟨"java/util/ArrayList", "grow", "(I)[Ljava/lang/Object;"⟩ ⟨"java/util/ArrayList", "grow", "(I)[Ljava/lang/Object;"⟩ : Cond) ∈ lwG := List.mem_filter.mpr ⟨List.mem_of_getElem? (i := 2) (by decide +kernel), by decide +kernel⟩
theorem wd_3 : (.selects "EmissionRows" ⟨"EmissionRows", "passMonitors", "(II)I"⟩ ⟨"EmissionRows", "passMonitors", "(II)I"⟩ : Cond) ∈ lwG := List.mem_filter.mpr ⟨List.mem_of_getElem? (i := 3) (by decide +kernel), by decide +kernel⟩
theorem wd_4 : (.selects "EmissionRows$Monitor" ⟨"EmissionRows$Monitor", "endCycle", "(IZ)Z"⟩ ⟨"EmissionRows$Monitor", "endCycle", "(IZ)Z"⟩ : Cond) ∈ lwG := List.mem_filter.mpr ⟨List.mem_of_getElem? (i := 4) (by decide +kernel), by decide +kernel⟩
theorem wd_5 : (.selects "EmissionRows$Monitor" ⟨"EmissionRows$Monitor", "hasChance", "(I)Z"⟩ ⟨"EmissionRows$Monitor", "hasChance", "(I)Z"⟩ : Cond) ∈ lwG := List.mem_filter.mpr ⟨List.mem_of_getElem? (i := 5) (by decide +kernel), by decide +kernel⟩
theorem wd_6 : (.selects "EmissionRows$Monitor" ⟨"EmissionRows$Monitor", "countChance", "(Z)V"⟩ ⟨"EmissionRows$Monitor", "countChance", "(Z)V"⟩ : Cond) ∈ lwG := List.mem_filter.mpr ⟨List.mem_of_getElem? (i := 6) (by decide +kernel), by decide +kernel⟩
theorem wd_7 : (.selects "EmissionRows" ⟨"EmissionRows", "passCodes", "(I)V"⟩ ⟨"EmissionRows", "passCodes", "(I)V"⟩ : Cond) ∈ lwG := List.mem_filter.mpr ⟨List.mem_of_getElem? (i := 7) (by decide +kernel), by decide +kernel⟩
theorem wd_8 : (.selects "EmissionRows$Code" ⟨"EmissionRows$Code", "endCycleOn", "(II)V"⟩ ⟨"EmissionRows$Code", "endCycleOn", "(II)V"⟩ : Cond) ∈ lwG := List.mem_filter.mpr ⟨List.mem_of_getElem? (i := 8) (by decide +kernel), by decide +kernel⟩
theorem wd_9 : (.selects "EmissionRows$Code" ⟨"EmissionRows$Code", "endCycleOff", "(I)V"⟩ ⟨"EmissionRows$Code", "endCycleOff", "(I)V"⟩ : Cond) ∈ lwG := List.mem_filter.mpr ⟨List.mem_of_getElem? (i := 9) (by decide +kernel), by decide +kernel⟩
theorem wd_10 : (.selects "EmissionRows$Code" ⟨"EmissionRows$Code", "forgetFault", "()V"⟩ ⟨"EmissionRows$Code", "forgetFault", "()V"⟩ : Cond) ∈ lwG := List.mem_filter.mpr ⟨List.mem_of_getElem? (i := 10) (by decide +kernel), by decide +kernel⟩
theorem wd_11 : (.selects "EmissionRows" ⟨"EmissionRows", "howManyConfirmed", "()I"⟩ ⟨"EmissionRows", "howManyConfirmed", "()I"⟩ : Cond) ∈ lwG := List.mem_filter.mpr ⟨List.mem_of_getElem? (i := 11) (by decide +kernel), by decide +kernel⟩
theorem wd_12 : (.selects "EmissionRows$Lamp" ⟨"EmissionRows$Lamp", "follow", "(Z)V"⟩ ⟨"EmissionRows$Lamp", "follow", "(Z)V"⟩ : Cond) ∈ lwG := List.mem_filter.mpr ⟨List.mem_of_getElem? (i := 12) (by decide +kernel), by decide +kernel⟩
theorem wd_13 : (.selects "EmissionRows$Lamp" ⟨"EmissionRows$Lamp", "reset", "()V"⟩ ⟨"EmissionRows$Lamp", "reset", "()V"⟩ : Cond) ∈ lwG := List.mem_filter.mpr ⟨List.mem_of_getElem? (i := 13) (by decide +kernel), by decide +kernel⟩
theorem wd_14 : (.selects "EmissionRows" ⟨"EmissionRows", "isMonitor", "(I)Z"⟩ ⟨"EmissionRows", "isMonitor", "(I)Z"⟩ : Cond) ∈ lwG := List.mem_filter.mpr ⟨List.mem_of_getElem? (i := 14) (by decide +kernel), by decide +kernel⟩
theorem wd_15 : (.selects "EmissionRows" ⟨"EmissionRows", "readinessOf", "(I)I"⟩ ⟨"EmissionRows", "readinessOf", "(I)I"⟩ : Cond) ∈ lwG := List.mem_filter.mpr ⟨List.mem_of_getElem? (i := 15) (by decide +kernel), by decide +kernel⟩
theorem wd_16 : (.selects "EmissionRows" ⟨"EmissionRows", "knownCode", "(I)LEmissionRows$Code;"⟩ ⟨"EmissionRows", "knownCode", "(I)LEmissionRows$Code;"⟩ : Cond) ∈ lwG := List.mem_filter.mpr ⟨List.mem_of_getElem? (i := 16) (by decide +kernel), by decide +kernel⟩
theorem wd_17 : (.selects "EmissionRows$Lamp" ⟨"EmissionRows$Lamp", "goOn", "(JJ)Z"⟩ ⟨"EmissionRows$Lamp", "goOn", "(JJ)Z"⟩ : Cond) ∈ lwG := List.mem_filter.mpr ⟨List.mem_of_getElem? (i := 17) (by decide +kernel), by decide +kernel⟩
theorem wd_18 : (.selects "EmissionRows" ⟨"EmissionRows", "firstFrozen", "()LEmissionRows$Code;"⟩ ⟨"EmissionRows", "firstFrozen", "()LEmissionRows$Code;"⟩ : Cond) ∈ lwG := List.mem_filter.mpr ⟨List.mem_of_getElem? (i := 18) (by decide +kernel), by decide +kernel⟩
theorem wd_19 : (.selects "EmissionRows$Code" ⟨"EmissionRows$Code", "hasFrozenRow", "()Z"⟩ ⟨"EmissionRows$Code", "hasFrozenRow", "()Z"⟩ : Cond) ∈ lwG := List.mem_filter.mpr ⟨List.mem_of_getElem? (i := 19) (by decide +kernel), by decide +kernel⟩
theorem wd_20 : (.selects "EmissionRows$Octets" ⟨"EmissionRows$Octets", "drop", "()V"⟩ ⟨"EmissionRows$Octets", "drop", "()V"⟩ : Cond) ∈ lwG := List.mem_filter.mpr ⟨List.mem_of_getElem? (i := 20) (by decide +kernel), by decide +kernel⟩
theorem wd_21 : (.selects "EmissionRows" ⟨"EmissionRows", "tellNow", "(I)V"⟩ ⟨"EmissionRows", "tellNow", "(I)V"⟩ : Cond) ∈ lwG := List.mem_filter.mpr ⟨List.mem_of_getElem? (i := 21) (by decide +kernel), by decide +kernel⟩
theorem wd_22 : (.selects "EmissionRows$Octets" ⟨"EmissionRows$Octets", "begin", "(I)V"⟩ ⟨"EmissionRows$Octets", "begin", "(I)V"⟩ : Cond) ∈ lwG := List.mem_filter.mpr ⟨List.mem_of_getElem? (i := 22) (by decide +kernel), by decide +kernel⟩
theorem wd_23 : (.selects "EmissionRows$Octets" ⟨"EmissionRows$Octets", "add", "(I)V"⟩ ⟨"EmissionRows$Octets", "add", "(I)V"⟩ : Cond) ∈ lwG := List.mem_filter.mpr ⟨List.mem_of_getElem? (i := 23) (by decide +kernel), by decide +kernel⟩
theorem wd_24 : (.selects "EmissionRows" ⟨"EmissionRows", "kindsNotReady", "()I"⟩ ⟨"EmissionRows", "kindsNotReady", "()I"⟩ : Cond) ∈ lwG := List.mem_filter.mpr ⟨List.mem_of_getElem? (i := 24) (by decide +kernel), by decide +kernel⟩
theorem wd_25 : (.selects "EmissionRows$Octets" ⟨"EmissionRows$Octets", "addTwo", "(I)V"⟩ ⟨"EmissionRows$Octets", "addTwo", "(I)V"⟩ : Cond) ∈ lwG := List.mem_filter.mpr ⟨List.mem_of_getElem? (i := 25) (by decide +kernel), by decide +kernel⟩
theorem wd_26 : (.selects "EmissionRows" ⟨"EmissionRows", "tellFrozen", "(I)V"⟩ ⟨"EmissionRows", "tellFrozen", "(I)V"⟩ : Cond) ∈ lwG := List.mem_filter.mpr ⟨List.mem_of_getElem? (i := 26) (by decide +kernel), by decide +kernel⟩
theorem wd_27 : (.selects "EmissionRows" ⟨"EmissionRows", "tellCounts", "(I)V"⟩ ⟨"EmissionRows", "tellCounts", "(I)V"⟩ : Cond) ∈ lwG := List.mem_filter.mpr ⟨List.mem_of_getElem? (i := 27) (by decide +kernel), by decide +kernel⟩
theorem wd_28 : (.selects "EmissionRows" ⟨"EmissionRows", "tellCodes", "(I)V"⟩ ⟨"EmissionRows", "tellCodes", "(I)V"⟩ : Cond) ∈ lwG := List.mem_filter.mpr ⟨List.mem_of_getElem? (i := 28) (by decide +kernel), by decide +kernel⟩
theorem wd_29 : (.selects "EmissionRows$Code" ⟨"EmissionRows$Code", "isToldIn", "(I)Z"⟩ ⟨"EmissionRows$Code", "isToldIn", "(I)Z"⟩ : Cond) ∈ lwG := List.mem_filter.mpr ⟨List.mem_of_getElem? (i := 29) (by decide +kernel), by decide +kernel⟩
theorem wd_30 : (.selects "EmissionRows$Octets" ⟨"EmissionRows$Octets", "total", "()I"⟩ ⟨"EmissionRows$Octets", "total", "()I"⟩ : Cond) ∈ lwG := List.mem_filter.mpr ⟨List.mem_of_getElem? (i := 30) (by decide +kernel), by decide +kernel⟩
theorem wd_31 : (.selects "java/lang/Throwable" ⟨"java/lang/Throwable", "fillInStackTrace", "(I)Ljava/lang/Throwable;"⟩ ⟨"java/lang/Throwable", "fillInStackTrace", "(I)Ljava/lang/Throwable;"⟩ : Cond) ∈ lwG := List.mem_filter.mpr ⟨List.mem_of_getElem? (i := 31) (by decide +kernel), by decide +kernel⟩
theorem wd_32 : (.selects "EmissionRows$Octets" ⟨"EmissionRows$Octets", "has", "(I)Z"⟩ ⟨"EmissionRows$Octets", "has", "(I)Z"⟩ : Cond) ∈ lwG := List.mem_filter.mpr ⟨List.mem_of_getElem? (i := 32) (by decide +kernel), by decide +kernel⟩
theorem wd_33 : (.selects "EmissionRowsModel" ⟨"EmissionRowsModel", "hasChance", "(II)Z"⟩ ⟨"EmissionRowsModel", "hasChance", "(II)Z"⟩ : Cond) ∈ lwG := List.mem_filter.mpr ⟨List.mem_of_getElem? (i := 33) (by decide +kernel), by decide +kernel⟩
theorem wd_34 : (.selects "EmissionRowsModel" ⟨"EmissionRowsModel", "count", "(IZ)V"⟩ ⟨"EmissionRowsModel", "count", "(IZ)V"⟩ : Cond) ∈ lwG := List.mem_filter.mpr ⟨List.mem_of_getElem? (i := 34) (by decide +kernel), by decide +kernel⟩
theorem wd_35 : (.selects "EmissionRowsModel" ⟨"EmissionRowsModel", "endOn", "(II)V"⟩ ⟨"EmissionRowsModel", "endOn", "(II)V"⟩ : Cond) ∈ lwG := List.mem_filter.mpr ⟨List.mem_of_getElem? (i := 35) (by decide +kernel), by decide +kernel⟩
theorem wd_36 : (.selects "EmissionRowsModel" ⟨"EmissionRowsModel", "endOff", "(II)V"⟩ ⟨"EmissionRowsModel", "endOff", "(II)V"⟩ : Cond) ∈ lwG := List.mem_filter.mpr ⟨List.mem_of_getElem? (i := 36) (by decide +kernel), by decide +kernel⟩
theorem wd_37 : (.selects "EmissionRowsModel" ⟨"EmissionRowsModel", "confirmedCodes", "()I"⟩ ⟨"EmissionRowsModel", "confirmedCodes", "()I"⟩ : Cond) ∈ lwG := List.mem_filter.mpr ⟨List.mem_of_getElem? (i := 37) (by decide +kernel), by decide +kernel⟩
theorem wd_38 : (.selects "EmissionRowsModel" ⟨"EmissionRowsModel", "firstFrozen", "()I"⟩ ⟨"EmissionRowsModel", "firstFrozen", "()I"⟩ : Cond) ∈ lwG := List.mem_filter.mpr ⟨List.mem_of_getElem? (i := 38) (by decide +kernel), by decide +kernel⟩
theorem wd_39 : (.selects "EmissionRowsModel" ⟨"EmissionRowsModel", "tellState", "()V"⟩ ⟨"EmissionRowsModel", "tellState", "()V"⟩ : Cond) ∈ lwG := List.mem_filter.mpr ⟨List.mem_of_getElem? (i := 39) (by decide +kernel), by decide +kernel⟩
theorem wd_40 : (.selects "EmissionRowsModel" ⟨"EmissionRowsModel", "put", "(I)V"⟩ ⟨"EmissionRowsModel", "put", "(I)V"⟩ : Cond) ∈ lwG := List.mem_filter.mpr ⟨List.mem_of_getElem? (i := 40) (by decide +kernel), by decide +kernel⟩
theorem wd_41 : (.selects "EmissionRowsModel" ⟨"EmissionRowsModel", "putTwo", "(I)V"⟩ ⟨"EmissionRowsModel", "putTwo", "(I)V"⟩ : Cond) ∈ lwG := List.mem_filter.mpr ⟨List.mem_of_getElem? (i := 41) (by decide +kernel), by decide +kernel⟩
theorem wd_42 : (.selects "EmissionRowsModel" ⟨"EmissionRowsModel", "tellFrozen", "(I)V"⟩ ⟨"EmissionRowsModel", "tellFrozen", "(I)V"⟩ : Cond) ∈ lwG := List.mem_filter.mpr ⟨List.mem_of_getElem? (i := 42) (by decide +kernel), by decide +kernel⟩
theorem wd_43 : (.selects "EmissionRowsModel" ⟨"EmissionRowsModel", "tellCodes", "(I)V"⟩ ⟨"EmissionRowsModel", "tellCodes", "(I)V"⟩ : Cond) ∈ lwG := List.mem_filter.mpr ⟨List.mem_of_getElem? (i := 43) (by decide +kernel), by decide +kernel⟩
end
section
/-! worlds, calls, loops: general rows of my own -/
section BX
/-- part of a world, by membership -/
theorem bx_sub {D : va_G} {cl : List vw_C} {ws ws' : va_W} {H : Heap} (h : va_P D cl ws H) (hm : ∀ q ∈ ws', q ∈ ws) : va_P D cl ws' H := by
  intro k q hk
  obtain ⟨i, hi⟩ := List.getElem?_of_mem (hm q (List.mem_of_getElem? hk))
  exact h i q hi
theorem bx_one {D : va_G} {cl : List vw_C} {ws : va_W} {H : Heap} {k : Nat} {q : Nat × va_E} (h : va_P D cl ws H) (hk : ws[k]? = some q) : va_P D cl [q] H :=
  bx_sub h (fun z hz => by rw [List.mem_singleton.mp hz]; exact List.mem_of_getElem? hk)
theorem bx_d1 {A : Nat → Prop} {q : Nat × va_E} (h : A q.1) : va_D A [q] := by
  refine ⟨fun i j x y hi hj _ => ?_, fun k x hk => ?_⟩
  · have h1 : i < 1 := (List.getElem?_eq_some_iff.mp hi).1
    have h2 : j < 1 := (List.getElem?_eq_some_iff.mp hj).1
    omega
  · rw [List.mem_singleton.mp (List.mem_of_getElem? hk)]
    exact h
/-- one cell of a world, at place k, was changed by a call -/
theorem bx_put {D : va_G} {cl : List vw_C} {A0 : Nat → Prop} {ws : va_W} {H H1 : Heap} {k a : Nat} {e e' : va_E} (hP : va_P D cl ws H) (hD : va_D A0 ws) (hk : ws[k]? = some (a, e))
    (hkeep : ∀ q : Nat, q < H.size → ¬ va_A [(a, e)] H.size q → H1[q]? = H[q]?) (hP1 : va_P D cl [(a, e')] H1) : va_P D cl (ws.set k (a, e')) H1 ∧ va_D A0 (ws.set k (a, e')) := by
  have hl := (List.getElem?_eq_some_iff.mp hk).1
  refine ⟨fun i q hi => ?_, hD.set hk⟩
  by_cases hik : i = k
  · subst hik
    rw [List.getElem?_set_self hl] at hi
    cases hi
    exact hP1 0 _ rfl
  · rw [List.getElem?_set_ne (Ne.symm hik)] at hi
    have hlt := (hP i q hi).lt
    refine (hP i q hi).kept (hkeep q.1 hlt ?_)
    rintro (⟨j, e9, hj⟩ | h9)
    · have hm := List.mem_singleton.mp (List.mem_of_getElem? hj)
      have ha : q.1 = a := congrArg Prod.fst hm
      exact hik (hD.1 i k q (a, e) hi hk ha)
    · omega
/-- some places of a world take new cells -/
def bx_sets (ws : va_W) (ks : List Nat) (w : va_W) : va_W := (ks.zip w).foldl (fun z q => z.set q.1 q.2) ws
theorem bx_sets_at : ∀ (ks : List Nat) (w ws : va_W), va_nd ks = true → ks.length = w.length → ∀ (i : Nat) (q : Nat × va_E), (bx_sets ws ks w)[i]? = some q → (∃ j : Nat, ks[j]? = some i ∧ w[j]? = some q) ∨ (i ∉ ks ∧ ws[i]? = some q)
  | [], w, ws, _, _, i, q, h => Or.inr ⟨List.not_mem_nil, h⟩
  | k :: ks, [], ws, _, hl, i, q, h => by simp at hl
  | k :: ks, z :: w, ws, hn, hl, i, q, h => by
    simp only [va_nd, Bool.and_eq_true, decide_eq_true_eq] at hn
    have hl' : ks.length = w.length := by simpa using hl
    rcases bx_sets_at ks w (ws.set k z) hn.2 hl' i q h with ⟨j, h1, h2⟩ | ⟨h1, h2⟩
    · exact Or.inl ⟨j + 1, by simpa using h1, by simpa using h2⟩
    · by_cases hik : i = k
      · subst hik
        rw [List.getElem?_set] at h2
        simp only [if_true] at h2
        split at h2
        · cases h2
          exact Or.inl ⟨0, rfl, rfl⟩
        · cases h2
      · rw [List.getElem?_set_ne (Ne.symm hik)] at h2
        exact Or.inr ⟨by simp [hik, h1], h2⟩
theorem bx_sets_D {A : Nat → Prop} : ∀ (ks : List Nat) (wc w ws : va_W), va_nd ks = true → ks.map (fun i => ws[i]?) = wc.map some → w.map (·.1) = wc.map (·.1) → va_D A ws → va_D A (bx_sets ws ks w)
  | [], wc, w, ws, _, _, _, hD => hD
  | k :: ks, [], w, ws, _, hc, _, hD => by simp at hc
  | k :: ks, z :: wc, [], ws, _, _, ha, hD => by simp at ha
  | k :: ks, z :: wc, y :: w, ws, hn, hc, ha, hD => by
    simp only [va_nd, Bool.and_eq_true, decide_eq_true_eq] at hn
    simp only [List.map_cons, List.cons.injEq] at hc ha
    obtain ⟨y1, y2⟩ := y
    obtain ⟨z1, z2⟩ := z
    have hyz : y1 = z1 := ha.1
    subst hyz
    refine bx_sets_D ks wc w (ws.set k (y1, y2)) hn.2 ?_ ha.2 (hD.set hc.1)
    rw [← hc.2]
    apply List.map_congr_left
    intro i hi
    have hki : k ≠ i := fun q => hn.1 (by rw [q]; exact hi)
    exact List.getElem?_set_ne hki
theorem bx_puts {D : va_G} {cl : List vw_C} {A0 : Nat → Prop} {ws wc w1 : va_W} {H H1 : Heap} (hP : va_P D cl ws H) (hD : va_D A0 ws) (ks : List Nat) (hn : va_nd ks = true) (hc : ks.map (fun i => ws[i]?) = wc.map some) (ha : w1.map (·.1) = wc.map (·.1))
    (hkeep : ∀ q : Nat, q < H.size → ¬ va_A wc H.size q → H1[q]? = H[q]?) (hP1 : va_P D cl w1 H1) : va_P D cl (bx_sets ws ks w1) H1 ∧ va_D A0 (bx_sets ws ks w1) := by
  have hlen : ks.length = w1.length := by
    have h1 := congrArg List.length hc
    have h2 := congrArg List.length ha
    simp at h1 h2
    omega
  refine ⟨fun i q hi => ?_, bx_sets_D ks wc w1 ws hn hc ha hD⟩
  rcases bx_sets_at ks w1 ws hn hlen i q hi with ⟨j, h1, h2⟩ | ⟨h1, h2⟩
  · exact hP1 j q h2
  · have hlt := (hP i q h2).lt
    refine (hP i q h2).kept (hkeep q.1 hlt ?_)
    rintro (⟨j, e9, hj⟩ | h9)
    · obtain ⟨i2, h3, h4⟩ := va_in_of ks hc hj
      have he := hD.1 i i2 q (q.1, e9) h2 h4 rfl
      subst he
      exact h1 (List.mem_of_getElem? h3)
    · omega
/-- apart: no address twice, all of a kind -/
theorem bx_D_iff {A : Nat → Prop} {ws : va_W} : va_D A ws ↔ (ws.map (·.1)).Nodup ∧ ∀ q ∈ ws, A q.1 := by
  constructor
  · intro h
    refine ⟨?_, fun q hq => ?_⟩
    · unfold List.Nodup
      rw [List.pairwise_iff_getElem]
      intro i j hi hj hij he
      have hj' : j < ws.length := by simpa using hj
      have hi' : i < ws.length := by simpa using hi
      rw [List.getElem_map, List.getElem_map] at he
      have := h.1 i j _ _ (List.getElem?_eq_getElem hi') (List.getElem?_eq_getElem hj') he
      omega
    · obtain ⟨k, hk⟩ := List.getElem?_of_mem hq
      exact h.2 k q hk
  · rintro ⟨h1, h2⟩
    refine ⟨fun i j x y hi hj hxy => ?_, fun k q hk => h2 q (List.mem_of_getElem? hk)⟩
    obtain ⟨li, ei⟩ := List.getElem?_eq_some_iff.mp hi
    obtain ⟨lj, ej⟩ := List.getElem?_eq_some_iff.mp hj
    unfold List.Nodup at h1
    rw [List.pairwise_iff_getElem] at h1
    rcases Nat.lt_trichotomy i j with h | h | h
    · refine absurd ?_ (h1 i j (by simpa using li) (by simpa using lj) h)
      rw [List.getElem_map, List.getElem_map, ei, ej]
      exact hxy
    · exact h
    · refine absurd ?_ (h1 j i (by simpa using lj) (by simpa using li) h)
      rw [List.getElem_map, List.getElem_map, ei, ej]
      exact hxy.symm
theorem bx_D_perm {A : Nat → Prop} {ws ws' : va_W} (h : va_D A ws) (hp : ws'.Perm ws) : va_D A ws' := by
  rw [bx_D_iff] at h ⊢
  exact ⟨((hp.map (·.1)).nodup_iff).mpr h.1, fun q hq => h.2 q (hp.mem_iff.mp hq)⟩
theorem bx_P_perm {D : va_G} {cl : List vw_C} {ws ws' : va_W} {H : Heap} (h : va_P D cl ws H) (hp : ws'.Perm ws) : va_P D cl ws' H := bx_sub h (fun _ hq => hp.mem_iff.mp hq)
/-- rows of objects: n cells at the addresses a 0, a 1 .. -/
def bx_pl (n : Nat) (a : Nat → Nat) (f : Nat → va_E) : va_W := (List.range n).map (fun i => (a i, f i))
theorem bx_pl_get {n i : Nat} {a : Nat → Nat} {f : Nat → va_E} (h : i < n) : (bx_pl n a f)[i]? = some (a i, f i) := by
  simp [bx_pl, h]
theorem bx_pl_len {n : Nat} {a : Nat → Nat} {f : Nat → va_E} : (bx_pl n a f).length = n := by simp [bx_pl]
theorem bx_pl_set {n i : Nat} {a : Nat → Nat} {f : Nat → va_E} {e : va_E} : (bx_pl n a f).set i (a i, e) = bx_pl n a (va_up f i e) := by
  apply List.ext_getElem?
  intro j
  by_cases hj : j < n
  · by_cases hij : i = j
    · subst hij
      rw [List.getElem?_set_self (by rw [bx_pl_len]; exact hj), bx_pl_get hj, va_up_self]
    · rw [List.getElem?_set_ne hij, bx_pl_get hj, bx_pl_get hj, va_up_ne _ _ (Ne.symm hij)]
  · rw [List.getElem?_eq_none (by rw [List.length_set, bx_pl_len]; omega), List.getElem?_eq_none (by rw [bx_pl_len]; omega)]
theorem bx_pl_succ {n : Nat} {a : Nat → Nat} {f : Nat → va_E} : bx_pl (n + 1) a f = bx_pl n a f ++ [(a n, f n)] := by simp [bx_pl, List.range_succ]
theorem bx_pl_congr {n : Nat} {a a' : Nat → Nat} {f f' : Nat → va_E} (h : ∀ i, i < n → a i = a' i ∧ f i = f' i) : bx_pl n a f = bx_pl n a' f' := by
  apply List.map_congr_left
  intro i hi
  have := h i (List.mem_range.mp hi)
  rw [this.1, this.2]
theorem bx_at_r {α : Type} {X Y : List α} {k : Nat} {q : α} (h : Y[k]? = some q) : (X ++ Y)[X.length + k]? = some q := by
  rw [List.getElem?_append_right (by omega), Nat.add_sub_cancel_left]
  exact h
theorem bx_set_r {α : Type} {X Y : List α} {k : Nat} {q : α} : (X ++ Y).set (X.length + k) q = X ++ Y.set k q := by
  rw [List.set_append, if_neg (by omega), Nat.add_sub_cancel_left]
theorem bx_at_l {α : Type} {X Y : List α} {k : Nat} {q : α} (h : X[k]? = some q) : (X ++ Y)[k]? = some q := by
  rw [List.getElem?_append_left (List.getElem?_eq_some_iff.mp h).1]
  exact h
theorem bx_up2 {α : Type} (f : Nat → α) (g : α → α) (k : Nat) : va_up (fun i => if i < k then g (f i) else f i) k (g (f k)) = fun i => if i < k + 1 then g (f i) else f i := by
  funext i
  unfold va_up
  by_cases h1 : i = k
  · subst h1
    simp
  · by_cases h2 : i < k
    · simp [h1, h2, Nat.lt_succ_of_lt h2]
    · simp [h1, h2, show ¬ i < k + 1 by omega]
/-- 0 or 1 -/
def bz (v : Int32) : Prop := v = 0 ∨ v = 1
theorem bz.n {v : Int32} (h : bz v) : narrow .boolean (.int v) = .int v := by rcases h with rfl | rfl <;> rfl
theorem bz.f {v : Int32} (h : bz v) : fits .boolean (.int v) = true := by rcases h with rfl | rfl <;> rfl
theorem bz0 : bz 0 := Or.inl rfl
theorem bz1 : bz 1 := Or.inr rfl
theorem bz_if {c : Prop} [Decidable c] {a b : Int32} (ha : bz a) (hb : bz b) : bz (if c then a else b) := by split <;> assumption
end BX
section BL
variable {p : Program} {l : Launch} {e : Env} {R : Room} {s : State} {m : MethodId} {args : Array Value} {below : List Frame} {meth : Method} {c : Code} {H : Heap} {locs : List Loc} {cells slots : Nat} {Q : State → Prop}
/-- several roads meet: the rest is walked once -/
theorem bx_join {σ : Type} {P : σ → Prop} {g0 : JFrame} (g : σ → JFrame) (kj : ∀ v, P v → W p l e R s m args below meth c H locs cells slots Q (g v)) (kk : (∀ v, P v → W p l e R s m args below meth c H locs cells slots Q (g v)) → W p l e R s m args below meth c H locs cells slots Q g0) : W p l e R s m args below meth c H locs cells slots Q g0 := kk kj
/-- a loop in which the heap may change -/
theorem bx_loop {σ : Type} (I : σ → Heap → List Loc → Array Slot → Prop) (μ : σ → Nat) (pc : Nat)
    (hs : ∀ (a : σ) (H : Heap) (locs : List Loc) (ls : Array Slot), I a H locs ls → (∀ (b : σ) (H' : Heap) (locs' : List Loc) (ls' : Array Slot), I b H' locs' ls' → μ b < μ a → W p l e R s m args below meth c H' locs' cells slots Q (F0 m pc ls' [])) → W p l e R s m args below meth c H locs cells slots Q (F0 m pc ls []))
    (a : σ) (ls : Array Slot) (h : I a H locs ls) : W p l e R s m args below meth c H locs cells slots Q (F0 m pc ls []) := by
  suffices h9 : ∀ (n : Nat) (a : σ) (H : Heap) (locs : List Loc) (ls : Array Slot), μ a < n → I a H locs ls → W p l e R s m args below meth c H locs cells slots Q (F0 m pc ls []) from h9 (μ a + 1) a H locs ls (Nat.lt_succ_self _) h
  intro n
  induction n with
  | zero => intro a H locs ls h1; exact absurd h1 (Nat.not_lt_zero _)
  | succ n ih =>
    intro a H locs ls h1 h2
    exact hs a H locs ls h2 (fun b H' locs' ls' h3 h4 => ih b H' locs' ls' (by omega) h3)
/-- a loop that writes nothing -/
theorem bx_loopR {σ : Type} (I : σ → Array Slot → Prop) (μ : σ → Nat) (pc : Nat)
    (hs : ∀ (a : σ) (ls : Array Slot), I a ls → (∀ (b : σ) (ls' : Array Slot), I b ls' → μ b < μ a → W p l e R s m args below meth c H locs cells slots Q (F0 m pc ls' [])) → W p l e R s m args below meth c H locs cells slots Q (F0 m pc ls []))
    (a : σ) (ls : Array Slot) (h : I a ls) : W p l e R s m args below meth c H locs cells slots Q (F0 m pc ls []) := by
  suffices h9 : ∀ (n : Nat) (a : σ) (ls : Array Slot), μ a < n → I a ls → W p l e R s m args below meth c H locs cells slots Q (F0 m pc ls []) from h9 (μ a + 1) a ls (Nat.lt_succ_self _) h
  intro n
  induction n with
  | zero => intro a ls h1; exact absurd h1 (Nat.not_lt_zero _)
  | succ n ih =>
    intro a ls h1 h2
    exact hs a ls h2 (fun b ls' h3 h4 => ih b ls' (by omega) h3)
variable {pc : Nat} {ls : Array Slot} {rest st0 : List Value} {a : Array Value} {A0 : Nat → Prop} {H0 : Heap} {mc ms : Nat}
/-- a call that writes nothing and answers r -/
theorem bx_callV {r : Value} (hr : CallRun p l e R s m args below meth c H locs cells slots 0 0 (F0 m pc ls st0) rest (k2_QcV r a) (fun _ => False)) (kk : W p l e R s m args below meth c H locs cells slots Q (F0 m (pc + 3) ls (r :: rest))) : W p l e R s m args below meth c H locs cells slots Q (F0 m pc ls st0) := W.callV hr kk
end BL
end
section
/-! what every contract of mine begins and ends with -/
section BG
/-- the numbers of the objects' kinds and their slots; the numbers of the arrays' kinds -/
abbrev GG : Type := va_G × (Nat → ClassId)
def nwOk : Cond → Bool
  | .fieldLinkNest .. => true
  | .methodLinkNest .. => true
  | .castable .. => true
  | _ => false
theorem nwL_ok : nwL.all nwOk = true := by decide +kernel
def GK (G : GG) (U : State) : Prop := va_K G.1 vwCl (gT G) U ∧ ∀ w ∈ nwL, va_Nw w U
theorem GK.moved {G : GG} {s U : State} (hW : s.WarmedH U.vm) (h : GK G s) : GK G U := by
  refine ⟨va_K.moved hW.alike h.1, fun w hw => ?_⟩
  have h1 := List.all_eq_true.mp nwL_ok w hw
  have h2 := h.2 w hw
  cases w <;> first | (simp [nwOk] at h1; done) | exact va_Nw.warmF hW h2 | exact va_Nw.warmM hW h2 | exact va_Nw.warmC hW h2
theorem GK.same {G : GG} {u U : State} (e : u.vm = U.vm) (h : GK G u) : GK G U := by
  refine ⟨va_K.moved (by rw [e]; exact Vm.Alike.refl _) h.1, fun w hw => ?_⟩
  have h1 := List.all_eq_true.mp nwL_ok w hw
  have h2 := h.2 w hw
  cases w <;> first | (simp [nwOk] at h1; done) | exact va_Nw.same rfl e h2
/-- a start that reads alone -/
def Rw (G : GG) (w0 : va_W) : State → Prop := fun U => va_P G.1 vwCl w0 U.heap ∧ GK G U
/-- a start that writes -/
def Pw (G : GG) (sz : Nat) (w0 : va_W) : State → Prop := fun U => U.heap.size = sz ∧ va_P G.1 vwCl w0 U.heap ∧ GK G U ∧ va_D (fun _ => True) w0
/-- an end: the answer, the world -/
def QW (G : GG) (v : Option Value) (w0 w1 : va_W) (sz : Nat) : Array Value → State → Outcome → State → Prop := fun _ st o t => (o = .returned v ∧ va_P G.1 vwCl w1 t.heap ∧ va_D (va_A w0 sz) w1) ∧ va_F (va_A w0 sz) st t
theorem Rw.blind {G : GG} {w0 : va_W} {av : List Value} : FrameBlind (va_Pc av (Rw G w0)) := fun a U g mk q => ⟨q.1, q.2.1, GK.same (u := U) (U := U.calling g mk a) rfl q.2.2⟩
theorem Pw.blind {G : GG} {sz : Nat} {w0 : va_W} {av : List Value} : FrameBlind (va_Pc av (Pw G sz w0)) := fun a U g mk q => ⟨q.1, q.2.1, q.2.2.1, GK.same (u := U) (U := U.calling g mk a) rfl q.2.2.2.1, q.2.2.2.2⟩
theorem pvR {G : GG} {s : State} {H : Heap} {w0 : va_W} {b : Nat} {As : List Value} {C : String} (hP : va_P G.1 vwCl w0 H) (hG : GK G s) (hr : ∃ cell : Cell, H[b]? = some cell ∧ cell.vm.isStatics = false ∧ s.vm.findClass C = some cell.cls) : PreV s H C b (va_Pc (.ref b :: As) (Rw G w0)) As :=
  ⟨Rw.blind, hr, fun U hU hW => ⟨rfl, by rw [hU]; exact hP, GK.moved hW hG⟩⟩
theorem psR {G : GG} {s : State} {H : Heap} {w0 : va_W} {As : List Value} (hP : va_P G.1 vwCl w0 H) (hG : GK G s) : PreS s H (va_Pc As (Rw G w0)) As :=
  ⟨Rw.blind, fun U hU hW => ⟨rfl, by rw [hU]; exact hP, GK.moved hW hG⟩⟩
theorem pvW {G : GG} {s : State} {H : Heap} {w0 : va_W} {A : Nat → Prop} {b : Nat} {As : List Value} {C : String} (hP : va_P G.1 vwCl w0 H) (hG : GK G s) (hD : va_D A w0) (hr : ∃ cell : Cell, H[b]? = some cell ∧ cell.vm.isStatics = false ∧ s.vm.findClass C = some cell.cls) : PreV s H C b (va_Pc (.ref b :: As) (Pw G H.size w0)) As :=
  ⟨Pw.blind, hr, fun U hU hW => ⟨rfl, by rw [hU], by rw [hU]; exact hP, GK.moved hW hG, hD.weaken (fun _ _ _ _ => trivial)⟩⟩
theorem psW {G : GG} {s : State} {H : Heap} {w0 : va_W} {A : Nat → Prop} {As : List Value} (hP : va_P G.1 vwCl w0 H) (hG : GK G s) (hD : va_D A w0) : PreS s H (va_Pc As (Pw G H.size w0)) As :=
  ⟨Pw.blind, fun U hU hW => ⟨rfl, by rw [hU], by rw [hU]; exact hP, GK.moved hW hG, hD.weaken (fun _ _ _ _ => trivial)⟩⟩
theorem bx_nil {D : va_G} {cl : List vw_C} {H : Heap} : va_P D cl [] H := fun k q h => by simp at h
end BG
section BC
variable {p : Program} {l : Launch} {e : Env} {R : Room} {s : State} {m : MethodId} {args : Array Value} {below : List Frame} {meth : Method} {c : Code} {H : Heap} {locs : List Loc} {cells slots : Nat} {Q : State → Prop}
variable {pc : Nat} {ls : Array Slot} {rest st0 : List Value} {a : Array Value} {A0 : Nat → Prop} {H0 : Heap} {G : GG} {ws w0 w1 : va_W}
theorem bx_freeK (hD : va_D A0 ws) (hS : va_S A0 H0 H locs) (hA : ∀ q, H0.size ≤ q → A0 q) (ks : List Nat) (hc : ks.map (fun i => ws[i]?) = w0.map some) : ∀ q, va_A w0 H.size q → A0 q := va_free hD hS hA ks hc
theorem bx_callG {v : Option Value} (hr : va_Run p l e R s m args below meth c H locs cells slots 0 0 (F0 m pc ls st0) rest (QW G v w0 w1 H.size a) (va_A w0 H.size)) (hS : va_S A0 H0 H locs) (hF : ∀ q, va_A w0 H.size q → A0 q)
    (kk : ∀ (H1 : Heap) (locs1 : List Loc), va_P G.1 vwCl w1 H1 → va_D (va_A w0 H.size) w1 → (∀ q : Nat, q < H.size → ¬ va_A w0 H.size q → H1[q]? = H[q]?) → va_S A0 H0 H1 locs1 → W p l e R s m args below meth c H1 locs1 cells slots Q (F0 m (pc + 3) ls (v.toList ++ rest))) : W p l e R s m args below meth c H locs cells slots Q (F0 m pc ls st0) := by
  intro T hT X
  obtain ⟨v', st₀, t, T', L, h0, X', hL, e1, -, ⟨⟨hv, hP1, hD1⟩, hz, hk⟩, st⟩ := hr T hT X
  cases hv
  rw [h0] at hz hk
  rw [← e1] at hz hk hP1
  obtain ⟨t2, a1, b1⟩ := kk T'.heap (locs ++ L) hP1 hD1 hk
    ⟨Nat.le_trans hS.1 hz, fun q h1 h2 => by rw [hk q (Nat.lt_of_lt_of_le h1 hS.1) (fun z => h2 (hF q z))]; exact hS.2.1 q h1 h2, fun q hq => by
      rcases List.mem_append.mp hq with h | h
      · exact hS.2.2 q h
      · exact hF _ (hL q h)⟩ T' rfl X'
  exact ⟨t2, st t2 a1, b1⟩
/-- a call that has some places of the world, and answers nothing -/
theorem bx_callKv (ks : List Nat) (hr : va_Run p l e R s m args below meth c H locs cells slots 0 0 (F0 m pc ls st0) rest (QW G none w0 w1 H.size a) (va_A w0 H.size)) (hP : va_P G.1 vwCl ws H) (hD : va_D A0 ws) (hS : va_S A0 H0 H locs) (hA : ∀ q, H0.size ≤ q → A0 q) (hn : va_nd ks = true) (hc : ks.map (fun i => ws[i]?) = w0.map some) (ha : w1.map (·.1) = w0.map (·.1))
    (kk : ∀ (H1 : Heap) (locs1 : List Loc), va_P G.1 vwCl (bx_sets ws ks w1) H1 → va_D A0 (bx_sets ws ks w1) → va_S A0 H0 H1 locs1 → W p l e R s m args below meth c H1 locs1 cells slots Q (F0 m (pc + 3) ls rest)) : W p l e R s m args below meth c H locs cells slots Q (F0 m pc ls st0) := by
  refine bx_callG hr hS (va_free hD hS hA ks hc) fun H1 locs1 hP1 hD1 hk hS1 => ?_
  obtain ⟨g1, g2⟩ := bx_puts hP hD ks hn hc ha hk hP1
  exact kk H1 locs1 g1 g2 hS1
/-- .. and answers r -/
theorem bx_callKr {r : Value} (ks : List Nat) (hr : va_Run p l e R s m args below meth c H locs cells slots 0 0 (F0 m pc ls st0) rest (QW G (some r) w0 w1 H.size a) (va_A w0 H.size)) (hP : va_P G.1 vwCl ws H) (hD : va_D A0 ws) (hS : va_S A0 H0 H locs) (hA : ∀ q, H0.size ≤ q → A0 q) (hn : va_nd ks = true) (hc : ks.map (fun i => ws[i]?) = w0.map some) (ha : w1.map (·.1) = w0.map (·.1))
    (kk : ∀ (H1 : Heap) (locs1 : List Loc), va_P G.1 vwCl (bx_sets ws ks w1) H1 → va_D A0 (bx_sets ws ks w1) → va_S A0 H0 H1 locs1 → W p l e R s m args below meth c H1 locs1 cells slots Q (F0 m (pc + 3) ls (r :: rest))) : W p l e R s m args below meth c H locs cells slots Q (F0 m pc ls st0) := by
  refine bx_callG hr hS (va_free hD hS hA ks hc) fun H1 locs1 hP1 hD1 hk hS1 => ?_
  obtain ⟨g1, g2⟩ := bx_puts hP hD ks hn hc ha hk hP1
  exact kk H1 locs1 g1 g2 hS1
theorem bx_freeF (hD : va_D A0 ws) (hS : va_S A0 H0 H locs) (hA : ∀ q, H0.size ≤ q → A0 q) : ∀ q, va_A ws H.size q → A0 q := by
  rintro q (⟨k, e9, h⟩ | h)
  · exact hD.2 k _ h
  · exact hA q (Nat.le_trans hS.1 h)
/-- a call that has the whole world -/
theorem bx_callFv (hr : va_Run p l e R s m args below meth c H locs cells slots 0 0 (F0 m pc ls st0) rest (QW G none ws w1 H.size a) (va_A ws H.size)) (hD : va_D A0 ws) (hS : va_S A0 H0 H locs) (hA : ∀ q, H0.size ≤ q → A0 q)
    (kk : ∀ (H1 : Heap) (locs1 : List Loc), va_P G.1 vwCl w1 H1 → va_D A0 w1 → va_S A0 H0 H1 locs1 → W p l e R s m args below meth c H1 locs1 cells slots Q (F0 m (pc + 3) ls rest)) : W p l e R s m args below meth c H locs cells slots Q (F0 m pc ls st0) :=
  bx_callG hr hS (bx_freeF hD hS hA) fun H1 locs1 hP1 hD1 _ hS1 => kk H1 locs1 hP1 (hD1.weaken (fun _ q _ h => bx_freeF hD hS hA q.1 h)) hS1
theorem bx_callFr {r : Value} (hr : va_Run p l e R s m args below meth c H locs cells slots 0 0 (F0 m pc ls st0) rest (QW G (some r) ws w1 H.size a) (va_A ws H.size)) (hD : va_D A0 ws) (hS : va_S A0 H0 H locs) (hA : ∀ q, H0.size ≤ q → A0 q)
    (kk : ∀ (H1 : Heap) (locs1 : List Loc), va_P G.1 vwCl w1 H1 → va_D A0 w1 → va_S A0 H0 H1 locs1 → W p l e R s m args below meth c H1 locs1 cells slots Q (F0 m (pc + 3) ls (r :: rest))) : W p l e R s m args below meth c H locs cells slots Q (F0 m pc ls st0) :=
  bx_callG hr hS (bx_freeF hD hS hA) fun H1 locs1 hP1 hD1 _ hS1 => kk H1 locs1 hP1 (hD1.weaken (fun _ q _ h => bx_freeF hD hS hA q.1 h)) hS1
end BC
end
section
/-! what the small methods answer and do, as functions of numbers -/
section SF
def bitF (a b : Int32) : Int32 := if (a >>> (b &&& 31)) &&& 1 = 1 then 1 else 0
theorem bitF_bz (a b : Int32) : bz (bitF a b) := bz_if bz1 bz0
-- a monitor: kind, condition, runs, chances, cycles held, tested
def ccR (ru ch tr : Int32) : Int32 := if tr = 0 then (if ch < 100 then ru else ru / 2) else (if ch < 100 then ru else ru / 2) + 1
def ccC (ch : Int32) : Int32 := (if ch < 100 then ch else ch / 2) + 1
def hcH (cd he cs : Int32) : Int32 := if bitF cs cd = 0 then he else he + 1
def hcR (kd cd he cs : Int32) : Int32 :=
  if kd = 1 then (if bitF cs cd = 0 then 0 else if bitF cs (cd + 1 - (cd + 1) / 8 * 8) = 0 then 0 else 1)
  else if kd = 2 then (if bitF cs cd = 0 then 0 else if (he + 1) - (he + 1) / 2 * 2 = 0 then 1 else 0)
  else if kd = 3 then (if bitF cs cd = 0 then 1 else 0) else bitF cs cd
theorem hcR_bz (kd cd he cs : Int32) : bz (hcR kd cd he cs) := by
  unfold hcR
  refine bz_if (bz_if bz0 (bz_if bz0 bz1)) (bz_if (bz_if bz0 (bz_if bz1 bz0)) (bz_if (bz_if bz1 bz0) (bitF_bz _ _)))
def ecR (kd cd ru ch he cs tr : Int32) : Int32 := if hcR kd cd he cs = 0 then ru else ccR ru ch tr
def ecC (kd cd ch he cs : Int32) : Int32 := if hcR kd cd he cs = 0 then ch else ccC ch
def ecT (te tr : Int32) : Int32 := if tr = 0 then te else 1
-- a code: number, on, pending, confirmed, lasting, off in a row, off with condition 0, frozen cycle, frozen conditions
def onP (pe co : Int32) : Int32 := if pe = 0 then (if co = 0 then 1 else 0) else 0
def onK (pe x : Int32) : Int32 := if pe = 0 then x else 1
def onF (pe co x y : Int32) : Int32 := if pe = 0 then (if co = 0 then y else x) else x
def ofG (pe ofr : Int32) : Int32 := if pe = 0 then (if ofr + 1 < 3 then 0 else 1) else 1
def ofZ (oz cs : Int32) : Int32 := if bitF cs 0 = 0 then oz else oz + 1
def ofK (pe ofr x : Int32) : Int32 := if ofG pe ofr = 0 then x else 0
def ofL (la oz cs : Int32) : Int32 := if ofZ oz cs < 3 then la else 0
def frF (fc : Int32) : Int32 := if fc = 0 then 0 else 1
def toldF (md pe co la : Int32) : Int32 := if md = 3 then co else if md = 7 then pe else if md = 10 then la else 0
-- the lamp: lit, metres, minutes
def foZ (b li : Int32) (x : Int64) : Int64 := if b = 0 then x else if li = 0 then 0 else x
def goM (li : Int32) (x y : Int64) : Int64 := if li = 0 then x else x + y
def kindF (k : Int32) : Int32 := if k < 0 then 0 else if 4 ≤ k then 0 else 1
theorem kindF_bz (k : Int32) : bz (kindF k) := bz_if bz0 (bz_if bz0 bz1)
def hasF (i n : Int32) : Int32 := if i < 0 then 0 else if n ≤ i then 0 else if 41 ≤ i then 0 else 1
end SF
end
section
/-! the system's world: six cells that stand, the lists' rows, the monitors, the codes -/
section BW
abbrev Mon : Type := Int32 × Int32 × Int32 × Int32 × Int32 × Int32
abbrev Cod : Type := Int32 × Int32 × Int32 × Int32 × Int32 × Int32 × Int32 × Int32 × Int32
def monL (m : Mon) : List Value := [.int m.1, .int m.2.1, .int m.2.2.1, .int m.2.2.2.1, .int m.2.2.2.2.1, .int m.2.2.2.2.2]
def codL (q : Cod) : List Value := [.int q.1, .int q.2.1, .int q.2.2.1, .int q.2.2.2.1, .int q.2.2.2.2.1, .int q.2.2.2.2.2.1, .int q.2.2.2.2.2.2.1, .int q.2.2.2.2.2.2.2.1, .int q.2.2.2.2.2.2.2.2]
def monE (m : Mon) : va_E := .inr (4, monL m)
def codE (q : Cod) : va_E := .inr (5, codL q)
def tlW (bM bC : va_W) (nM : Nat) (am : Nat → Nat) (mon : Nat → Mon) (nC : Nat) (ac : Nat → Nat) (cod : Nat → Cod) : va_W := bM ++ (bC ++ (bx_pl nM am (fun i => monE (mon i)) ++ bx_pl nC ac (fun i => codE (cod i))))
variable {X bM bC : va_W} {nM nC k : Nat} {am ac : Nat → Nat} {mon : Nat → Mon} {cod : Nat → Cod}
theorem tl_mon (h : k < nM) : (X ++ tlW bM bC nM am mon nC ac cod)[X.length + (bM.length + (bC.length + k))]? = some (am k, monE (mon k)) := bx_at_r (bx_at_r (bx_at_r (bx_at_l (bx_pl_get (f := fun i => monE (mon i)) h))))
theorem tl_cod (h : k < nC) : (X ++ tlW bM bC nM am mon nC ac cod)[X.length + (bM.length + (bC.length + (nM + k)))]? = some (ac k, codE (cod k)) := by
  refine bx_at_r (bx_at_r (bx_at_r ?_))
  have h1 := bx_at_r (X := bx_pl nM am (fun i => monE (mon i))) (bx_pl_get (a := ac) (f := fun i => codE (cod i)) h)
  rwa [bx_pl_len] at h1
theorem tl_mon_set {m : Mon} (h : k < nM) : (X ++ tlW bM bC nM am mon nC ac cod).set (X.length + (bM.length + (bC.length + k))) (am k, monE m) = X ++ tlW bM bC nM am (va_up mon k m) nC ac cod := by
  unfold tlW
  rw [bx_set_r, bx_set_r, bx_set_r, List.set_append, if_pos (by rw [bx_pl_len]; exact h), bx_pl_set]
  congr 5
  funext i
  unfold va_up
  split <;> rfl
theorem tl_cod_set {q : Cod} : (X ++ tlW bM bC nM am mon nC ac cod).set (X.length + (bM.length + (bC.length + (nM + k)))) (ac k, codE q) = X ++ tlW bM bC nM am mon nC ac (va_up cod k q) := by
  unfold tlW
  have h1 := bx_set_r (X := bx_pl nM am (fun i => monE (mon i))) (Y := bx_pl nC ac (fun i => codE (cod i))) (k := k) (q := (ac k, codE q))
  rw [bx_pl_len] at h1
  rw [bx_set_r, bx_set_r, bx_set_r, h1, bx_pl_set]
  congr 5
  funext i
  unfold va_up
  split <;> rfl
theorem tl_inM {q : Nat × va_E} (h : q ∈ bM) : q ∈ X ++ tlW bM bC nM am mon nC ac cod := List.mem_append_right _ (List.mem_append_left _ h)
theorem tl_inC {q : Nat × va_E} (h : q ∈ bC) : q ∈ X ++ tlW bM bC nM am mon nC ac cod := List.mem_append_right _ (List.mem_append_right _ (List.mem_append_left _ h))
/-- a list of n elements whose row is bk, at e; the elements lie at a 0, a 1 .. -/
def LB (G : GG) (bk : va_W) (e n : Nat) (a : Nat → Nat) : Prop := n ≤ 20 ∧ (n = 0 ∨ ∃ (cap : Nat) (f : Nat → Option Nat), bk = [(e, .inl (G.2 0, cap, .inr (.inr (.inr (.inr f)))))] ∧ n ≤ cap ∧ cap ≤ 22 ∧ ∀ i, i < n → f i = some (a i))
theorem LB.some {G : GG} {bk : va_W} {e n k : Nat} {a : Nat → Nat} (h : LB G bk e n a) (hk : k < n) : ∃ (cap : Nat) (f : Nat → Option Nat), bk = [(e, .inl (G.2 0, cap, .inr (.inr (.inr (.inr f)))))] ∧ n ≤ cap ∧ cap ≤ 22 ∧ ∀ i, i < n → f i = some (a i) := by
  rcases h.2 with h1 | h1
  · omega
  · exact h1
/-- the first k of a row have been changed -/
def upto {α : Type} (g : Nat → α → α) (f : Nat → α) (k : Nat) : Nat → α := fun i => if i < k then g i (f i) else f i
theorem upto_self {α : Type} (g : Nat → α → α) (f : Nat → α) (k : Nat) : upto g f k k = f k := by simp [upto]
theorem upto_zero {α : Type} (g : Nat → α → α) (f : Nat → α) : upto g f 0 = f := by funext i; simp [upto]
theorem upto_succ {α : Type} (g : Nat → α → α) (f : Nat → α) (k : Nat) : va_up (upto g f k) k (g k (f k)) = upto g f (k + 1) := by
  funext i
  unfold va_up upto
  by_cases h1 : i = k
  · subst h1
    simp
  · by_cases h2 : i < k
    · simp [h1, h2, Nat.lt_succ_of_lt h2]
    · simp [h1, h2, show ¬ i < k + 1 by omega]
end BW
/-! what the system's methods answer and do, as functions of its state -/
section EF
abbrev OB : Type := Int32 × (Nat → Int32)
def oAdd (b : OB) (o : Int32) : OB := if b.1 < 0 then b else if 41 ≤ b.1 then b else (b.1 + 1, upd b.2 b.1.toNatClampNeg o.toInt8.toInt32)
def oTwo (b : OB) (x : Int32) : OB := oAdd (oAdd b (x >>> ((8 : Int32) &&& 31))) x
def oBeg (b : OB) (md : Int32) : OB := oAdd b (64 + md)
def totF (n : Int32) (f : Nat → Int32) : Nat → Int32 → Int32
  | 0, acc => acc
  | j + 1, acc => if n ≤ nI (41 - (j + 1)) then acc else totF n f j (acc + (f (41 - (j + 1)) &&& 255))
theorem in41 {n : Int32} (h1 : ¬ n < 0) (h2 : ¬ (41 : Int32) ≤ n) : vp_in n 41 := by
  rw [vp_in_iff]
  rw [Int32.lt_iff_toInt_lt] at h1
  rw [Int32.le_iff_toInt_le] at h2
  have e0 : (0 : Int32).toInt = 0 := by decide
  have e1 : (41 : Int32).toInt = 41 := by decide
  omega
def hcM (m : Mon) (cs : Int32) : Int32 := hcR m.1 m.2.1 m.2.2.2.2.1 cs
def ecM (m : Mon) (cs tr : Int32) : Mon := (m.1, m.2.1, ecR m.1 m.2.1 m.2.2.1 m.2.2.2.1 m.2.2.2.2.1 cs tr, ecC m.1 m.2.1 m.2.2.2.1 m.2.2.2.2.1 cs, hcH m.2.1 m.2.2.2.2.1 cs, ecT m.2.2.2.2.2 tr)
def cntM (mon : Nat → Mon) (cs : Int32) : Nat → Int32
  | 0 => 0
  | k + 1 => if hcM (mon k) cs = 0 then cntM mon cs k else cntM mon cs k + 1
def codOn (q : Cod) (cy cs : Int32) : Cod := (q.1, q.2.1, onP q.2.2.1 q.2.2.2.1, onK q.2.2.1 q.2.2.2.1, onK q.2.2.1 q.2.2.2.2.1, 0, 0, onF q.2.2.1 q.2.2.2.1 q.2.2.2.2.2.2.2.1 cy, onF q.2.2.1 q.2.2.2.1 q.2.2.2.2.2.2.2.2 cs)
def codOff (q : Cod) (cs : Int32) : Cod := (q.1, q.2.1, ofK q.2.2.1 q.2.2.2.2.2.1 q.2.2.1, ofK q.2.2.1 q.2.2.2.2.2.1 q.2.2.2.1, ofL q.2.2.2.2.1 q.2.2.2.2.2.2.1 cs, ofK q.2.2.1 q.2.2.2.2.2.1 (q.2.2.2.2.2.1 + 1), ofZ q.2.2.2.2.2.2.1 cs, ofK q.2.2.1 q.2.2.2.2.2.1 q.2.2.2.2.2.2.2.1, ofK q.2.2.1 q.2.2.2.2.2.1 q.2.2.2.2.2.2.2.2)
def codCy (cy cs : Int32) (q : Cod) : Cod := if q.2.1 = 0 then codOff q cs else codOn q cy cs
def codFg (q : Cod) : Cod := (q.1, q.2.1, 0, 0, q.2.2.2.2.1, 0, q.2.2.2.2.2.2.1, 0, 0)
def monNt (m : Mon) : Mon := (m.1, m.2.1, m.2.2.1, m.2.2.2.1, m.2.2.2.2.1, 0)
def cntC (cod : Nat → Cod) : Nat → Int32
  | 0 => 0
  | k + 1 => if (cod k).2.2.2.1 = 0 then cntC cod k else cntC cod k + 1
def rdF (mon : Nat → Mon) (kd : Int32) (n : Nat) : Nat → Int32 → Int32
  | 0, acc => acc
  | j + 1, acc => if (mon (n - (j + 1))).1 = kd then (if (mon (n - (j + 1))).2.2.2.2.2 = 0 then 0 else rdF mon kd n j 1) else rdF mon kd n j acc
def kcF (cod : Nat → Cod) (nu : Int32) (n : Nat) : Nat → Option Nat
  | 0 => none
  | j + 1 => if (cod (n - (j + 1))).1 = nu then some (n - (j + 1)) else kcF cod nu n j
def ffF (cod : Nat → Cod) (n : Nat) : Nat → Option Nat
  | 0 => none
  | j + 1 => if frF (cod (n - (j + 1))).2.2.2.2.2.2.2.1 = 0 then ffF cod n j else some (n - (j + 1))
def pmF (cod : Nat → Cod) (i : Int32) (n : Nat) : Nat → Int32 → Int32
  | 0, _ => 0
  | j + 1, bf => if (cod (n - (j + 1))).2.2.2.2.1 = 0 then pmF cod i n j bf else if bf = i then (cod (n - (j + 1))).1 else pmF cod i n j (bf + 1)
def knF (mon : Nat → Mon) (nM : Nat) : Nat → Int32 → Int32
  | 0, b => b
  | j + 1, b => knF mon nM j (if rdF mon (nI (4 - (j + 1))) nM nM 2 = 0 then b ||| ((1 : Int32) <<< (nI (4 - (j + 1)) &&& 31)) else b)
def tcF (cod : Nat → Cod) (md : Int32) (n : Nat) : Nat → OB → OB
  | 0, b => b
  | j + 1, b => tcF cod md n j (if toldF md (cod (n - (j + 1))).2.2.1 (cod (n - (j + 1))).2.2.2.1 (cod (n - (j + 1))).2.2.2.2.1 = 0 then b else oTwo b (cod (n - (j + 1))).1)
def tnF (mon : Nat → Mon) (n : Nat) : Nat → OB → OB
  | 0, b => b
  | j + 1, b => tnF mon n j (oAdd (oAdd b (mon (n - (j + 1))).2.2.1) (mon (n - (j + 1))).2.2.2.1)
def ilF (pt ru ch : Int32) : Nat → Int32
  | 0 => pt
  | d + 1 => if nI (d + 1) ≤ 1 then pt else if ru - ru / nI (d + 1) * nI (d + 1) = 0 then (if ch - ch / nI (d + 1) * nI (d + 1) = 0 then pt / nI (d + 1) else ilF pt ru ch d) else ilF pt ru ch d
def isM (nn : Int32) (nM : Nat) : Int32 := if nn < 1 then 0 else if nI nM < nn then 0 else 1
theorem isM_bz (nn : Int32) (nM : Nat) : bz (isM nn nM) := bz_if bz0 (bz_if bz0 bz1)
def rdyF (mon : Nat → Mon) (nM : Nat) (kd : Int32) : Int32 := if kindF kd = 0 then (-2) else rdF mon kd nM nM 2
theorem fu_ix {n k : Nat} (h : k < n) : n - k = (n - (k + 1)) + 1 ∧ n - ((n - (k + 1)) + 1) = k := by omega
theorem rdF_step {mon : Nat → Mon} (kd acc : Int32) {n k : Nat} (h : k < n) : rdF mon kd n (n - k) acc = if (mon k).1 = kd then (if (mon k).2.2.2.2.2 = 0 then 0 else rdF mon kd n (n - (k + 1)) 1) else rdF mon kd n (n - (k + 1)) acc := by
  obtain ⟨h1, h2⟩ := fu_ix h
  rw [h1, rdF, h2]
theorem kcF_step {cod : Nat → Cod} (nu : Int32) {n k : Nat} (h : k < n) : kcF cod nu n (n - k) = if (cod k).1 = nu then some k else kcF cod nu n (n - (k + 1)) := by
  obtain ⟨h1, h2⟩ := fu_ix h
  rw [h1, kcF, h2]
theorem ffF_step {cod : Nat → Cod} {n k : Nat} (h : k < n) : ffF cod n (n - k) = if frF (cod k).2.2.2.2.2.2.2.1 = 0 then ffF cod n (n - (k + 1)) else some k := by
  obtain ⟨h1, h2⟩ := fu_ix h
  rw [h1, ffF, h2]
theorem pmF_step {cod : Nat → Cod} (i bf : Int32) {n k : Nat} (h : k < n) : pmF cod i n (n - k) bf = if (cod k).2.2.2.2.1 = 0 then pmF cod i n (n - (k + 1)) bf else if bf = i then (cod k).1 else pmF cod i n (n - (k + 1)) (bf + 1) := by
  obtain ⟨h1, h2⟩ := fu_ix h
  rw [h1, pmF, h2]
theorem knF_step {mon : Nat → Mon} {nM : Nat} (b : Int32) {k : Nat} (h : k < 4) : knF mon nM (4 - k) b = knF mon nM (4 - (k + 1)) (if rdF mon (nI k) nM nM 2 = 0 then b ||| ((1 : Int32) <<< (nI k &&& 31)) else b) := by
  obtain ⟨h1, h2⟩ := fu_ix h
  rw [h1, knF, h2]
theorem tcF_step {cod : Nat → Cod} (md : Int32) {n : Nat} (b : OB) {k : Nat} (h : k < n) : tcF cod md n (n - k) b = tcF cod md n (n - (k + 1)) (if toldF md (cod k).2.2.1 (cod k).2.2.2.1 (cod k).2.2.2.2.1 = 0 then b else oTwo b (cod k).1) := by
  obtain ⟨h1, h2⟩ := fu_ix h
  rw [h1, tcF, h2]
theorem tnF_step {mon : Nat → Mon} {n : Nat} (b : OB) {k : Nat} (h : k < n) : tnF mon n (n - k) b = tnF mon n (n - (k + 1)) (oAdd (oAdd b (mon k).2.2.1) (mon k).2.2.2.1) := by
  obtain ⟨h1, h2⟩ := fu_ix h
  rw [h1, tnF, h2]
theorem totF_step {n : Int32} {f : Nat → Int32} (acc : Int32) {k : Nat} (h : k < 41) : totF n f (41 - k) acc = if n ≤ nI k then acc else totF n f (41 - (k + 1)) (acc + (f k &&& 255)) := by
  obtain ⟨h1, h2⟩ := fu_ix h
  rw [h1, totF, h2]
theorem totF_stop {n : Int32} {f : Nat → Int32} {acc : Int32} {k : Nat} (h : n ≤ nI k) (hk : k ≤ 41) : totF n f (41 - k) acc = acc := by
  rcases Nat.lt_or_ge k 41 with h1 | h1
  · rw [totF_step _ h1, if_pos h]
  · rw [show 41 - k = 0 by omega]
    rfl
end EF
end
section
/-! further functions of the system's methods -/
section EF2
theorem bx_nd1 {p : Nat} : va_nd [p] = true := by simp [va_nd]
def twoF (v : Int64) : Int32 := (if (65535 : Int64) < v then (65535 : Int64) else v).toInt32
theorem ilF_step {pt ru ch : Int32} {k : Nat} (h : 0 < k) : ilF pt ru ch k = if nI k ≤ 1 then pt else if ru - ru / nI k * nI k = 0 then (if ch - ch / nI k * nI k = 0 then pt / nI k else ilF pt ru ch (k - 1)) else ilF pt ru ch (k - 1) := by
  obtain ⟨j, rfl⟩ : ∃ j, k = j + 1 := ⟨k - 1, by omega⟩
  rw [ilF, Nat.add_sub_cancel]
theorem ilF_stop {pt ru ch : Int32} {k : Nat} (h : nI k ≤ 1) : ilF pt ru ch k = pt := by
  rcases Nat.eq_zero_or_pos k with h0 | h0
  · subst h0
    rfl
  · rw [ilF_step h0, if_pos h]
theorem isM_some {nn : Int32} {nM : Nat} (h : ¬ isM nn nM = 0) (hn : nM ≤ 20) : ∃ k, k < nM ∧ nn = nI (k + 1) := by
  unfold isM at h
  by_cases h1 : nn < 1
  · simp [h1] at h
  · by_cases h2 : nI nM < nn
    · simp [h1, h2] at h
    · have e1 : (1 : Int32).toInt = 1 := by decide
      rw [Int32.lt_iff_toInt_lt, e1] at h1
      rw [Int32.lt_iff_toInt_lt, nI_toInt (by omega)] at h2
      obtain ⟨j, hj, ej⟩ := nI_of (x := nn) (fun z => by
        rw [Int32.lt_iff_toInt_lt] at z
        have e0 : (0 : Int32).toInt = 0 := by decide
        omega)
      subst ej
      rw [nI_toInt hj] at h1 h2
      exact ⟨j - 1, by omega, by rw [show j - 1 + 1 = j by omega]⟩
def ixM (nn : Int32) : Nat := (nn - 1).toNatClampNeg
theorem ixM_at {k : Nat} (h : k < 100) : ixM (nI (k + 1)) = k := by
  unfold ixM
  rw [nI_pred, nI_clamp (by omega)]
def cnF (mon : Nat → Mon) (nM : Nat) (mo wh : Int32) : Int32 := if isM mo nM = 0 then (-1) else if wh = 0 then (mon (ixM mo)).2.2.1 else (mon (ixM mo)).2.2.2.1
theorem ffF_lt {cod : Nat → Cod} {n : Nat} : ∀ {m j : Nat}, m ≤ n → ffF cod n m = some j → j < n
  | 0, j, _, h => by simp [ffF] at h
  | m + 1, j, hm, h => by
    rw [ffF] at h
    split at h
    · exact ffF_lt (by omega) h
    · cases h
      omega
theorem kcF_lt {cod : Nat → Cod} {nu : Int32} {n : Nat} : ∀ {m j : Nat}, m ≤ n → kcF cod nu n m = some j → j < n
  | 0, j, _, h => by simp [kcF] at h
  | m + 1, j, hm, h => by
    rw [kcF] at h
    split at h
    · cases h
      omega
    · exact kcF_lt (by omega) h
def frzF (cod : Nat → Cod) (nC : Nat) (mi : Int64) (i : Int32) : Int32 :=
  if i < 0 then (-2) else if i ≤ 3 then (if i = 3 then twoF mi else
    match ffF cod nC nC with
    | none => 0
    | some j => if i = 0 then (cod j).1 else if i = 1 then (cod j).2.2.2.2.2.2.2.1 else (cod j).2.2.2.2.2.2.2.2) else (-2)
def lmpB (xm xi : Int64) : Int32 := if lg_cmp xm 0 < 0 then 0 else if 0 < lg_cmp xm 1000000000 then 0 else if lg_cmp xi 0 < 0 then 0 else if lg_cmp xi 1000000000 ≤ 0 then 1 else 0
def lmpX (xm xi : Int64) (li : Int32) (x d : Int64) : Int64 := if lmpB xm xi = 0 then x else goM li x d
def lmpR (xm xi : Int64) (li : Int32) : Int32 := if lmpB xm xi = 0 then (-2) else if li = 0 then 0 else 1
def gEc (cs ts : Int32) (i : Nat) (m : Mon) : Mon := ecM m cs (bitF ts (nI i))
def gCy (cy cs : Int32) (_ : Nat) (q : Cod) : Cod := codCy cy cs q
def gFg (_ : Nat) (q : Cod) : Cod := codFg q
def gNt (_ : Nat) (m : Mon) : Mon := monNt m
def cyB (cs ts : Int32) : Int32 := if cs < 0 then 0 else if 255 < cs then 0 else if ts < 0 then 0 else if ts ≤ 65535 then 1 else 0
def cyM (cs ts : Int32) (nM : Nat) (mon : Nat → Mon) : Nat → Mon := if cyB cs ts = 0 then mon else upto (gEc cs ts) mon nM
def cyC (cs ts cyc : Int32) (nC : Nat) (cod : Nat → Cod) : Nat → Cod := if cyB cs ts = 0 then cod else upto (gCy (cyc + 1) cs) cod nC
def cyN (cs ts cyc : Int32) : Int32 := if cyB cs ts = 0 then cyc else cyc + 1
def cyS (cs cyc : Int32) (nC : Nat) (cod : Nat → Cod) : Int32 := if cntC (upto (gCy (cyc + 1) cs) cod nC) nC ≤ 0 then 0 else 1
theorem cyS_bz (cs cyc : Int32) (nC : Nat) (cod : Nat → Cod) : bz (cyS cs cyc nC cod) := bz_if bz0 bz1
def cyL (cs ts cyc : Int32) (nC : Nat) (cod : Nat → Cod) (li : Int32) : Int32 := if cyB cs ts = 0 then li else cyS cs cyc nC cod
def cyZ (cs ts cyc : Int32) (nC : Nat) (cod : Nat → Cod) (li : Int32) (x : Int64) : Int64 := if cyB cs ts = 0 then x else foZ (cyS cs cyc nC cod) li x
def cyR (cs ts : Int32) (nM : Nat) (mon : Nat → Mon) : Int32 := if cyB cs ts = 0 then (-2) else cntM mon cs nM
def tnow (b : OB) (id : Int32) (cod : Nat → Cod) (nC : Nat) (mon : Nat → Mon) (nM : Nat) (li : Int32) (me : Int64) : OB :=
  if id = 1 then oAdd (oAdd (oAdd (oBeg b 1) id) (cntC cod nC + (if li = 0 then 0 else 128))) (knF mon nM 4 0)
  else if id = 33 then oTwo (oAdd (oBeg b 1) id) (twoF (me / 1000)) else b
def tfro (b : OB) (id : Int32) (cod : Nat → Cod) (nC : Nat) : OB :=
  match ffF cod nC nC with
  | none => b
  | some j => if id < 0 then b else if 8 ≤ id then b else oAdd (oTwo (oTwo (oAdd (oBeg b 2) id) (cod j).1) (cod j).2.2.2.2.2.2.2.1) (if bitF (cod j).2.2.2.2.2.2.2.2 id = 0 then 0 else 1)
def tcnt (b : OB) (id : Int32) (mon : Nat → Mon) (nM : Nat) : OB := if id = 8 then tnF mon nM nM (oAdd (oBeg b 9) id) else b
def tcod (b : OB) (md : Int32) (cod : Nat → Cod) (nC : Nat) : OB := tcF cod md nC nC (oBeg b md)
def bzC (cod : Nat → Cod) (nC : Nat) : Prop := ∀ i, i < nC → bz (cod i).2.1 ∧ bz (cod i).2.2.1 ∧ bz (cod i).2.2.2.1 ∧ bz (cod i).2.2.2.2.1
def ansF (md id : Int32) (b : OB) (cod : Nat → Cod) (nC : Nat) (mon : Nat → Mon) (nM : Nat) (li : Int32) (me : Int64) : OB :=
  if md = 1 then tnow ((0 : Int32), b.2) id cod nC mon nM li me else if md = 2 then tfro ((0 : Int32), b.2) id cod nC
  else if md = 3 then tcod ((0 : Int32), b.2) md cod nC else if md = 4 then ((0 : Int32), b.2) else if md = 5 then ((0 : Int32), b.2) else if md = 6 then ((0 : Int32), b.2)
  else if md = 7 then tcod ((0 : Int32), b.2) md cod nC else if md = 8 then ((0 : Int32), b.2) else if md = 9 then tcnt ((0 : Int32), b.2) id mon nM
  else if md = 10 then tcod ((0 : Int32), b.2) md cod nC else ((0 : Int32), b.2)
theorem tl_mon_u {X bM bC : va_W} {nM nC k : Nat} {am ac : Nat → Nat} {mon : Nat → Mon} {cod : Nat → Cod} {g : Nat → Mon → Mon} (h : k < nM) : (X ++ tlW bM bC nM am (upto g mon k) nC ac cod)[X.length + (bM.length + (bC.length + k))]? = some (am k, monE (mon k)) := by rw [tl_mon h, upto_self]
theorem tl_cod_u {X bM bC : va_W} {nM nC k : Nat} {am ac : Nat → Nat} {mon : Nat → Mon} {cod : Nat → Cod} {g : Nat → Cod → Cod} (h : k < nC) : (X ++ tlW bM bC nM am mon nC ac (upto g cod k))[X.length + (bM.length + (bC.length + (nM + k)))]? = some (ac k, codE (cod k)) := by rw [tl_cod h, upto_self]
end EF2
end
section
/-! the reference's methods, as functions -/
section MF
theorem vn1 : vp_nar .boolean 1 = 1 := by decide
theorem vn0 : vp_nar .boolean 0 = 0 := by decide
theorem bz.v {x : Int32} (h : bz x) : vp_nar .boolean x = x := by rcases h with rfl | rfl <;> decide
theorem upd_upd (f : Nat → Int32) (k : Nat) (a b : Int32) : upd (upd f k a) k b = upd f k b := by
  funext j
  unfold upd
  split <;> rfl
theorem upd_id (f : Nat → Int32) (k : Nat) : upd f k (f k) = f := by
  funext j
  unfold upd
  split
  · next h => rw [h]
  · rfl
theorem upd_idv {f : Nat → Int32} {k : Nat} {v : Int32} (h : f k = v) : upd f k v = f := by rw [← h]; exact upd_id f k
def inF (v a b : Int64) : Int32 := if lg_cmp v a < 0 then 0 else if 0 < lg_cmp v b then 0 else 1
theorem inF_bz (v a b : Int64) : bz (inF v a b) := bz_if bz0 (bz_if bz0 bz1)
def mhH (kd cd he cs : Int32) : Int32 := if kd = 2 then (if bitF cs cd = 0 then he else he + 1) else he
def mhR (kd cd he cs : Int32) : Int32 :=
  if kd = 1 then (if bitF cs cd = 0 then 0 else if bitF cs (if cd = 7 then 0 else cd + 1) = 0 then 0 else 1)
  else if kd = 0 then bitF cs cd else if kd = 2 then (if bitF cs cd = 0 then 0 else if (he + 1) - (he + 1) / 2 * 2 = 0 then 1 else 0)
  else if bitF cs cd = 0 then 1 else 0
theorem mhR_bz (kd cd he cs : Int32) : bz (mhR kd cd he cs) := by
  unfold mhR
  exact bz_if (bz_if bz0 (bz_if bz0 bz1)) (bz_if (bitF_bz _ _) (bz_if (bz_if bz0 (bz_if bz1 bz0)) (bz_if bz1 bz0)))
def mcC (ch : Int32) : Int32 := (if ch = 100 then ch / 2 else ch) + 1
def mcR (ru ch tr : Int32) : Int32 := (if ch = 100 then ru / 2 else ru) + (if tr = 0 then 0 else 1)
def moP (pe co : Int32) : Int32 := if pe = 0 then (if co = 0 then 1 else pe) else 0
def moK (pe x : Int32) : Int32 := if pe = 0 then x else 1
def moF (pe co x y : Int32) : Int32 := if pe = 0 then (if co = 0 then y else x) else x
def mfP (pe : Int32) : Int32 := if pe = 0 then pe else 0
def mfW1 (pe fz : Int32) : Int32 := if pe = 0 then fz else 0
def mfZ (ps cs : Int32) : Int32 := ps + (if bitF cs 0 = 0 then 0 else 1)
def mfQ (co fo : Int32) : Int32 := if co = 0 then co else if fo + 1 < 3 then co else 0
def mfW (pe fz co fo : Int32) : Int32 := if co = 0 then mfW1 pe fz else if fo + 1 < 3 then mfW1 pe fz else 0
def mfL (la ps cs : Int32) : Int32 := if la = 0 then 0 else if 3 ≤ mfZ ps cs then 0 else 1
def mcnt (gQ : Nat → Int32) : Nat → Int32
  | 0 => 0
  | k + 1 => mcnt gQ k + (if gQ k = 0 then 0 else 1)
end MF
end
section
abbrev b_MOD_isIn : ByteArray := prog_7_method_3_code
def y_MOD_isIn : MethodName := ⟨R_MOD, "isIn", "(JJJ)Z"⟩
def w_MOD_isIn : List Cond := .code y_MOD_isIn b_MOD_isIn 6 (some .boolean) :: lwG
theorem d_MOD_isIn_0 : decode b_MOD_isIn 0 = .ok (.lload_n 0, 1) := by decide +kernel
theorem d_MOD_isIn_1 : decode b_MOD_isIn 1 = .ok (.lload_n 2, 1) := by decide +kernel
theorem d_MOD_isIn_2 : decode b_MOD_isIn 2 = .ok (.lcmp, 1) := by decide +kernel
theorem d_MOD_isIn_3 : decode b_MOD_isIn 3 = .ok (.ifCond .lt 14, 3) := by decide +kernel
theorem d_MOD_isIn_6 : decode b_MOD_isIn 6 = .ok (.lload_n 0, 1) := by decide +kernel
theorem d_MOD_isIn_7 : decode b_MOD_isIn 7 = .ok (.lload 4, 2) := by decide +kernel
theorem d_MOD_isIn_9 : decode b_MOD_isIn 9 = .ok (.lcmp, 1) := by decide +kernel
theorem d_MOD_isIn_10 : decode b_MOD_isIn 10 = .ok (.ifCond .gt 7, 3) := by decide +kernel
theorem d_MOD_isIn_13 : decode b_MOD_isIn 13 = .ok (.iconst 1, 1) := by decide +kernel
theorem d_MOD_isIn_14 : decode b_MOD_isIn 14 = .ok (.goto 4, 3) := by decide +kernel
theorem d_MOD_isIn_17 : decode b_MOD_isIn 17 = .ok (.iconst 0, 1) := by decide +kernel
theorem d_MOD_isIn_18 : decode b_MOD_isIn 18 = .ok (.ireturn, 1) := by decide +kernel
abbrev b_MOD_holds : ByteArray := prog_7_method_5_code
def y_MOD_holds : MethodName := ⟨R_MOD, "holds", "(II)Z"⟩
def w_MOD_holds : List Cond := .code y_MOD_holds b_MOD_holds 2 (some .boolean) :: lwG
theorem d_MOD_holds_0 : decode b_MOD_holds 0 = .ok (.iload_n 0, 1) := by decide +kernel
theorem d_MOD_holds_1 : decode b_MOD_holds 1 = .ok (.iload_n 1, 1) := by decide +kernel
theorem d_MOD_holds_2 : decode b_MOD_holds 2 = .ok (.ishr, 1) := by decide +kernel
theorem d_MOD_holds_3 : decode b_MOD_holds 3 = .ok (.iconst 1, 1) := by decide +kernel
theorem d_MOD_holds_4 : decode b_MOD_holds 4 = .ok (.iand, 1) := by decide +kernel
theorem d_MOD_holds_5 : decode b_MOD_holds 5 = .ok (.iconst 1, 1) := by decide +kernel
theorem d_MOD_holds_6 : decode b_MOD_holds 6 = .ok (.if_icmp .ne 7, 3) := by decide +kernel
theorem d_MOD_holds_9 : decode b_MOD_holds 9 = .ok (.iconst 1, 1) := by decide +kernel
theorem d_MOD_holds_10 : decode b_MOD_holds 10 = .ok (.goto 4, 3) := by decide +kernel
theorem d_MOD_holds_13 : decode b_MOD_holds 13 = .ok (.iconst 0, 1) := by decide +kernel
theorem d_MOD_holds_14 : decode b_MOD_holds 14 = .ok (.ireturn, 1) := by decide +kernel
abbrev b_MOD_thrown : ByteArray := prog_7_method_2_code
def y_MOD_thrown : MethodName := ⟨R_MOD, "thrown", "()I"⟩
def w_MOD_thrown : List Cond := .code y_MOD_thrown b_MOD_thrown 1 (some .int) :: lwG
theorem d_MOD_thrown_0 : decode b_MOD_thrown 0 = .ok (.aload_n 0, 1) := by decide +kernel
theorem d_MOD_thrown_1 : decode b_MOD_thrown 1 = .ok (.getfield 62, 3) := by decide +kernel
theorem d_MOD_thrown_4 : decode b_MOD_thrown 4 = .ok (.ireturn, 1) := by decide +kernel
abbrev b_MOD_hasChance : ByteArray := prog_7_method_6_code
def y_MOD_hasChance : MethodName := ⟨R_MOD, "hasChance", "(II)Z"⟩
def w_MOD_hasChance : List Cond := .code y_MOD_hasChance b_MOD_hasChance 4 (some .boolean) :: lwG
theorem d_MOD_hasChance_0 : decode b_MOD_hasChance 0 = .ok (.iload_n 2, 1) := by decide +kernel
theorem d_MOD_hasChance_1 : decode b_MOD_hasChance 1 = .ok (.aload_n 0, 1) := by decide +kernel
theorem d_MOD_hasChance_2 : decode b_MOD_hasChance 2 = .ok (.getfield 13, 3) := by decide +kernel
theorem d_MOD_hasChance_5 : decode b_MOD_hasChance 5 = .ok (.iload_n 1, 1) := by decide +kernel
theorem d_MOD_hasChance_6 : decode b_MOD_hasChance 6 = .ok (.iaload, 1) := by decide +kernel
theorem d_MOD_hasChance_7 : decode b_MOD_hasChance 7 = .ok (.invokestatic 77, 3) := by decide +kernel
theorem d_MOD_hasChance_10 : decode b_MOD_hasChance 10 = .ok (.istore_n 3, 1) := by decide +kernel
theorem d_MOD_hasChance_11 : decode b_MOD_hasChance 11 = .ok (.aload_n 0, 1) := by decide +kernel
theorem d_MOD_hasChance_12 : decode b_MOD_hasChance 12 = .ok (.getfield 7, 3) := by decide +kernel
theorem d_MOD_hasChance_15 : decode b_MOD_hasChance 15 = .ok (.iload_n 1, 1) := by decide +kernel
theorem d_MOD_hasChance_16 : decode b_MOD_hasChance 16 = .ok (.iaload, 1) := by decide +kernel
theorem d_MOD_hasChance_17 : decode b_MOD_hasChance 17 = .ok (.iconst 2, 1) := by decide +kernel
theorem d_MOD_hasChance_18 : decode b_MOD_hasChance 18 = .ok (.if_icmp .ne 17, 3) := by decide +kernel
theorem d_MOD_hasChance_21 : decode b_MOD_hasChance 21 = .ok (.iload_n 3, 1) := by decide +kernel
theorem d_MOD_hasChance_22 : decode b_MOD_hasChance 22 = .ok (.ifCond .eq 13, 3) := by decide +kernel
theorem d_MOD_hasChance_25 : decode b_MOD_hasChance 25 = .ok (.aload_n 0, 1) := by decide +kernel
theorem d_MOD_hasChance_26 : decode b_MOD_hasChance 26 = .ok (.getfield 22, 3) := by decide +kernel
theorem d_MOD_hasChance_29 : decode b_MOD_hasChance 29 = .ok (.iload_n 1, 1) := by decide +kernel
theorem d_MOD_hasChance_30 : decode b_MOD_hasChance 30 = .ok (.dup2, 1) := by decide +kernel
theorem d_MOD_hasChance_31 : decode b_MOD_hasChance 31 = .ok (.iaload, 1) := by decide +kernel
theorem d_MOD_hasChance_32 : decode b_MOD_hasChance 32 = .ok (.iconst 1, 1) := by decide +kernel
theorem d_MOD_hasChance_33 : decode b_MOD_hasChance 33 = .ok (.iadd, 1) := by decide +kernel
theorem d_MOD_hasChance_34 : decode b_MOD_hasChance 34 = .ok (.iastore, 1) := by decide +kernel
theorem d_MOD_hasChance_35 : decode b_MOD_hasChance 35 = .ok (.aload_n 0, 1) := by decide +kernel
theorem d_MOD_hasChance_36 : decode b_MOD_hasChance 36 = .ok (.getfield 7, 3) := by decide +kernel
theorem d_MOD_hasChance_39 : decode b_MOD_hasChance 39 = .ok (.iload_n 1, 1) := by decide +kernel
theorem d_MOD_hasChance_40 : decode b_MOD_hasChance 40 = .ok (.iaload, 1) := by decide +kernel
theorem d_MOD_hasChance_41 : decode b_MOD_hasChance 41 = .ok (.iconst 1, 1) := by decide +kernel
theorem d_MOD_hasChance_42 : decode b_MOD_hasChance 42 = .ok (.if_icmp .ne 43, 3) := by decide +kernel
theorem d_MOD_hasChance_45 : decode b_MOD_hasChance 45 = .ok (.iload_n 3, 1) := by decide +kernel
theorem d_MOD_hasChance_46 : decode b_MOD_hasChance 46 = .ok (.ifCond .eq 37, 3) := by decide +kernel
theorem d_MOD_hasChance_49 : decode b_MOD_hasChance 49 = .ok (.iload_n 2, 1) := by decide +kernel
theorem d_MOD_hasChance_50 : decode b_MOD_hasChance 50 = .ok (.aload_n 0, 1) := by decide +kernel
theorem d_MOD_hasChance_51 : decode b_MOD_hasChance 51 = .ok (.getfield 13, 3) := by decide +kernel
theorem d_MOD_hasChance_54 : decode b_MOD_hasChance 54 = .ok (.iload_n 1, 1) := by decide +kernel
theorem d_MOD_hasChance_55 : decode b_MOD_hasChance 55 = .ok (.iaload, 1) := by decide +kernel
theorem d_MOD_hasChance_56 : decode b_MOD_hasChance 56 = .ok (.bipush 7, 2) := by decide +kernel
theorem d_MOD_hasChance_58 : decode b_MOD_hasChance 58 = .ok (.if_icmp .ne 7, 3) := by decide +kernel
theorem d_MOD_hasChance_61 : decode b_MOD_hasChance 61 = .ok (.iconst 0, 1) := by decide +kernel
theorem d_MOD_hasChance_62 : decode b_MOD_hasChance 62 = .ok (.goto 11, 3) := by decide +kernel
theorem d_MOD_hasChance_65 : decode b_MOD_hasChance 65 = .ok (.aload_n 0, 1) := by decide +kernel
theorem d_MOD_hasChance_66 : decode b_MOD_hasChance 66 = .ok (.getfield 13, 3) := by decide +kernel
theorem d_MOD_hasChance_69 : decode b_MOD_hasChance 69 = .ok (.iload_n 1, 1) := by decide +kernel
theorem d_MOD_hasChance_70 : decode b_MOD_hasChance 70 = .ok (.iaload, 1) := by decide +kernel
theorem d_MOD_hasChance_71 : decode b_MOD_hasChance 71 = .ok (.iconst 1, 1) := by decide +kernel
theorem d_MOD_hasChance_72 : decode b_MOD_hasChance 72 = .ok (.iadd, 1) := by decide +kernel
theorem d_MOD_hasChance_73 : decode b_MOD_hasChance 73 = .ok (.invokestatic 77, 3) := by decide +kernel
theorem d_MOD_hasChance_76 : decode b_MOD_hasChance 76 = .ok (.ifCond .eq 7, 3) := by decide +kernel
theorem d_MOD_hasChance_79 : decode b_MOD_hasChance 79 = .ok (.iconst 1, 1) := by decide +kernel
theorem d_MOD_hasChance_80 : decode b_MOD_hasChance 80 = .ok (.goto 4, 3) := by decide +kernel
theorem d_MOD_hasChance_83 : decode b_MOD_hasChance 83 = .ok (.iconst 0, 1) := by decide +kernel
theorem d_MOD_hasChance_84 : decode b_MOD_hasChance 84 = .ok (.ireturn, 1) := by decide +kernel
theorem d_MOD_hasChance_85 : decode b_MOD_hasChance 85 = .ok (.aload_n 0, 1) := by decide +kernel
theorem d_MOD_hasChance_86 : decode b_MOD_hasChance 86 = .ok (.getfield 7, 3) := by decide +kernel
theorem d_MOD_hasChance_89 : decode b_MOD_hasChance 89 = .ok (.iload_n 1, 1) := by decide +kernel
theorem d_MOD_hasChance_90 : decode b_MOD_hasChance 90 = .ok (.iaload, 1) := by decide +kernel
theorem d_MOD_hasChance_91 : decode b_MOD_hasChance 91 = .ok (.ifCond .ne 7, 3) := by decide +kernel
theorem d_MOD_hasChance_94 : decode b_MOD_hasChance 94 = .ok (.iload_n 3, 1) := by decide +kernel
theorem d_MOD_hasChance_95 : decode b_MOD_hasChance 95 = .ok (.goto 45, 3) := by decide +kernel
theorem d_MOD_hasChance_98 : decode b_MOD_hasChance 98 = .ok (.aload_n 0, 1) := by decide +kernel
theorem d_MOD_hasChance_99 : decode b_MOD_hasChance 99 = .ok (.getfield 7, 3) := by decide +kernel
theorem d_MOD_hasChance_102 : decode b_MOD_hasChance 102 = .ok (.iload_n 1, 1) := by decide +kernel
theorem d_MOD_hasChance_103 : decode b_MOD_hasChance 103 = .ok (.iaload, 1) := by decide +kernel
theorem d_MOD_hasChance_104 : decode b_MOD_hasChance 104 = .ok (.iconst 2, 1) := by decide +kernel
theorem d_MOD_hasChance_105 : decode b_MOD_hasChance 105 = .ok (.if_icmp .ne 26, 3) := by decide +kernel
theorem d_MOD_hasChance_108 : decode b_MOD_hasChance 108 = .ok (.iload_n 3, 1) := by decide +kernel
theorem d_MOD_hasChance_109 : decode b_MOD_hasChance 109 = .ok (.ifCond .eq 18, 3) := by decide +kernel
theorem d_MOD_hasChance_112 : decode b_MOD_hasChance 112 = .ok (.aload_n 0, 1) := by decide +kernel
theorem d_MOD_hasChance_113 : decode b_MOD_hasChance 113 = .ok (.getfield 22, 3) := by decide +kernel
theorem d_MOD_hasChance_116 : decode b_MOD_hasChance 116 = .ok (.iload_n 1, 1) := by decide +kernel
theorem d_MOD_hasChance_117 : decode b_MOD_hasChance 117 = .ok (.iaload, 1) := by decide +kernel
theorem d_MOD_hasChance_118 : decode b_MOD_hasChance 118 = .ok (.iconst 2, 1) := by decide +kernel
theorem d_MOD_hasChance_119 : decode b_MOD_hasChance 119 = .ok (.irem, 1) := by decide +kernel
theorem d_MOD_hasChance_120 : decode b_MOD_hasChance 120 = .ok (.ifCond .ne 7, 3) := by decide +kernel
theorem d_MOD_hasChance_123 : decode b_MOD_hasChance 123 = .ok (.iconst 1, 1) := by decide +kernel
theorem d_MOD_hasChance_124 : decode b_MOD_hasChance 124 = .ok (.goto 16, 3) := by decide +kernel
theorem d_MOD_hasChance_127 : decode b_MOD_hasChance 127 = .ok (.iconst 0, 1) := by decide +kernel
theorem d_MOD_hasChance_128 : decode b_MOD_hasChance 128 = .ok (.goto 12, 3) := by decide +kernel
theorem d_MOD_hasChance_131 : decode b_MOD_hasChance 131 = .ok (.iload_n 3, 1) := by decide +kernel
theorem d_MOD_hasChance_132 : decode b_MOD_hasChance 132 = .ok (.ifCond .ne 7, 3) := by decide +kernel
theorem d_MOD_hasChance_135 : decode b_MOD_hasChance 135 = .ok (.iconst 1, 1) := by decide +kernel
theorem d_MOD_hasChance_136 : decode b_MOD_hasChance 136 = .ok (.goto 4, 3) := by decide +kernel
theorem d_MOD_hasChance_139 : decode b_MOD_hasChance 139 = .ok (.iconst 0, 1) := by decide +kernel
theorem d_MOD_hasChance_140 : decode b_MOD_hasChance 140 = .ok (.ireturn, 1) := by decide +kernel
abbrev b_MOD_count_1 : ByteArray := prog_7_method_7_code
def y_MOD_count_1 : MethodName := ⟨R_MOD, "count", "(IZ)V"⟩
def w_MOD_count_1 : List Cond := .code y_MOD_count_1 b_MOD_count_1 3 none :: lwG
theorem d_MOD_count_1_0 : decode b_MOD_count_1 0 = .ok (.aload_n 0, 1) := by decide +kernel
theorem d_MOD_count_1_1 : decode b_MOD_count_1 1 = .ok (.getfield 19, 3) := by decide +kernel
theorem d_MOD_count_1_4 : decode b_MOD_count_1 4 = .ok (.iload_n 1, 1) := by decide +kernel
theorem d_MOD_count_1_5 : decode b_MOD_count_1 5 = .ok (.iaload, 1) := by decide +kernel
theorem d_MOD_count_1_6 : decode b_MOD_count_1 6 = .ok (.bipush 100, 2) := by decide +kernel
theorem d_MOD_count_1_8 : decode b_MOD_count_1 8 = .ok (.if_icmp .ne 31, 3) := by decide +kernel
theorem d_MOD_count_1_11 : decode b_MOD_count_1 11 = .ok (.aload_n 0, 1) := by decide +kernel
theorem d_MOD_count_1_12 : decode b_MOD_count_1 12 = .ok (.getfield 19, 3) := by decide +kernel
theorem d_MOD_count_1_15 : decode b_MOD_count_1 15 = .ok (.iload_n 1, 1) := by decide +kernel
theorem d_MOD_count_1_16 : decode b_MOD_count_1 16 = .ok (.aload_n 0, 1) := by decide +kernel
theorem d_MOD_count_1_17 : decode b_MOD_count_1 17 = .ok (.getfield 19, 3) := by decide +kernel
theorem d_MOD_count_1_20 : decode b_MOD_count_1 20 = .ok (.iload_n 1, 1) := by decide +kernel
theorem d_MOD_count_1_21 : decode b_MOD_count_1 21 = .ok (.iaload, 1) := by decide +kernel
theorem d_MOD_count_1_22 : decode b_MOD_count_1 22 = .ok (.iconst 2, 1) := by decide +kernel
theorem d_MOD_count_1_23 : decode b_MOD_count_1 23 = .ok (.idiv, 1) := by decide +kernel
theorem d_MOD_count_1_24 : decode b_MOD_count_1 24 = .ok (.iastore, 1) := by decide +kernel
theorem d_MOD_count_1_25 : decode b_MOD_count_1 25 = .ok (.aload_n 0, 1) := by decide +kernel
theorem d_MOD_count_1_26 : decode b_MOD_count_1 26 = .ok (.getfield 16, 3) := by decide +kernel
theorem d_MOD_count_1_29 : decode b_MOD_count_1 29 = .ok (.iload_n 1, 1) := by decide +kernel
theorem d_MOD_count_1_30 : decode b_MOD_count_1 30 = .ok (.aload_n 0, 1) := by decide +kernel
theorem d_MOD_count_1_31 : decode b_MOD_count_1 31 = .ok (.getfield 16, 3) := by decide +kernel
theorem d_MOD_count_1_34 : decode b_MOD_count_1 34 = .ok (.iload_n 1, 1) := by decide +kernel
theorem d_MOD_count_1_35 : decode b_MOD_count_1 35 = .ok (.iaload, 1) := by decide +kernel
theorem d_MOD_count_1_36 : decode b_MOD_count_1 36 = .ok (.iconst 2, 1) := by decide +kernel
theorem d_MOD_count_1_37 : decode b_MOD_count_1 37 = .ok (.idiv, 1) := by decide +kernel
theorem d_MOD_count_1_38 : decode b_MOD_count_1 38 = .ok (.iastore, 1) := by decide +kernel
theorem d_MOD_count_1_39 : decode b_MOD_count_1 39 = .ok (.aload_n 0, 1) := by decide +kernel
theorem d_MOD_count_1_40 : decode b_MOD_count_1 40 = .ok (.getfield 19, 3) := by decide +kernel
theorem d_MOD_count_1_43 : decode b_MOD_count_1 43 = .ok (.iload_n 1, 1) := by decide +kernel
theorem d_MOD_count_1_44 : decode b_MOD_count_1 44 = .ok (.dup2, 1) := by decide +kernel
theorem d_MOD_count_1_45 : decode b_MOD_count_1 45 = .ok (.iaload, 1) := by decide +kernel
theorem d_MOD_count_1_46 : decode b_MOD_count_1 46 = .ok (.iconst 1, 1) := by decide +kernel
theorem d_MOD_count_1_47 : decode b_MOD_count_1 47 = .ok (.iadd, 1) := by decide +kernel
theorem d_MOD_count_1_48 : decode b_MOD_count_1 48 = .ok (.iastore, 1) := by decide +kernel
theorem d_MOD_count_1_49 : decode b_MOD_count_1 49 = .ok (.aload_n 0, 1) := by decide +kernel
theorem d_MOD_count_1_50 : decode b_MOD_count_1 50 = .ok (.getfield 16, 3) := by decide +kernel
theorem d_MOD_count_1_53 : decode b_MOD_count_1 53 = .ok (.iload_n 1, 1) := by decide +kernel
theorem d_MOD_count_1_54 : decode b_MOD_count_1 54 = .ok (.dup2, 1) := by decide +kernel
theorem d_MOD_count_1_55 : decode b_MOD_count_1 55 = .ok (.iaload, 1) := by decide +kernel
theorem d_MOD_count_1_56 : decode b_MOD_count_1 56 = .ok (.iload_n 2, 1) := by decide +kernel
theorem d_MOD_count_1_57 : decode b_MOD_count_1 57 = .ok (.ifCond .eq 7, 3) := by decide +kernel
theorem d_MOD_count_1_60 : decode b_MOD_count_1 60 = .ok (.iconst 1, 1) := by decide +kernel
theorem d_MOD_count_1_61 : decode b_MOD_count_1 61 = .ok (.goto 4, 3) := by decide +kernel
theorem d_MOD_count_1_64 : decode b_MOD_count_1 64 = .ok (.iconst 0, 1) := by decide +kernel
theorem d_MOD_count_1_65 : decode b_MOD_count_1 65 = .ok (.iadd, 1) := by decide +kernel
theorem d_MOD_count_1_66 : decode b_MOD_count_1 66 = .ok (.iastore, 1) := by decide +kernel
theorem d_MOD_count_1_67 : decode b_MOD_count_1 67 = .ok (.return_, 1) := by decide +kernel
abbrev b_MOD_endOn : ByteArray := prog_7_method_8_code
def y_MOD_endOn : MethodName := ⟨R_MOD, "endOn", "(II)V"⟩
def w_MOD_endOn : List Cond := .code y_MOD_endOn b_MOD_endOn 3 none :: lwG
theorem d_MOD_endOn_0 : decode b_MOD_endOn 0 = .ok (.aload_n 0, 1) := by decide +kernel
theorem d_MOD_endOn_1 : decode b_MOD_endOn 1 = .ok (.getfield 44, 3) := by decide +kernel
theorem d_MOD_endOn_4 : decode b_MOD_endOn 4 = .ok (.iload_n 1, 1) := by decide +kernel
theorem d_MOD_endOn_5 : decode b_MOD_endOn 5 = .ok (.iconst 0, 1) := by decide +kernel
theorem d_MOD_endOn_6 : decode b_MOD_endOn 6 = .ok (.iastore, 1) := by decide +kernel
theorem d_MOD_endOn_7 : decode b_MOD_endOn 7 = .ok (.aload_n 0, 1) := by decide +kernel
theorem d_MOD_endOn_8 : decode b_MOD_endOn 8 = .ok (.getfield 47, 3) := by decide +kernel
theorem d_MOD_endOn_11 : decode b_MOD_endOn 11 = .ok (.iload_n 1, 1) := by decide +kernel
theorem d_MOD_endOn_12 : decode b_MOD_endOn 12 = .ok (.iconst 0, 1) := by decide +kernel
theorem d_MOD_endOn_13 : decode b_MOD_endOn 13 = .ok (.iastore, 1) := by decide +kernel
theorem d_MOD_endOn_14 : decode b_MOD_endOn 14 = .ok (.aload_n 0, 1) := by decide +kernel
theorem d_MOD_endOn_15 : decode b_MOD_endOn 15 = .ok (.getfield 35, 3) := by decide +kernel
theorem d_MOD_endOn_18 : decode b_MOD_endOn 18 = .ok (.iload_n 1, 1) := by decide +kernel
theorem d_MOD_endOn_19 : decode b_MOD_endOn 19 = .ok (.baload, 1) := by decide +kernel
theorem d_MOD_endOn_20 : decode b_MOD_endOn 20 = .ok (.ifCond .eq 27, 3) := by decide +kernel
theorem d_MOD_endOn_23 : decode b_MOD_endOn 23 = .ok (.aload_n 0, 1) := by decide +kernel
theorem d_MOD_endOn_24 : decode b_MOD_endOn 24 = .ok (.getfield 35, 3) := by decide +kernel
theorem d_MOD_endOn_27 : decode b_MOD_endOn 27 = .ok (.iload_n 1, 1) := by decide +kernel
theorem d_MOD_endOn_28 : decode b_MOD_endOn 28 = .ok (.iconst 0, 1) := by decide +kernel
theorem d_MOD_endOn_29 : decode b_MOD_endOn 29 = .ok (.bastore, 1) := by decide +kernel
theorem d_MOD_endOn_30 : decode b_MOD_endOn 30 = .ok (.aload_n 0, 1) := by decide +kernel
theorem d_MOD_endOn_31 : decode b_MOD_endOn 31 = .ok (.getfield 38, 3) := by decide +kernel
theorem d_MOD_endOn_34 : decode b_MOD_endOn 34 = .ok (.iload_n 1, 1) := by decide +kernel
theorem d_MOD_endOn_35 : decode b_MOD_endOn 35 = .ok (.iconst 1, 1) := by decide +kernel
theorem d_MOD_endOn_36 : decode b_MOD_endOn 36 = .ok (.bastore, 1) := by decide +kernel
theorem d_MOD_endOn_37 : decode b_MOD_endOn 37 = .ok (.aload_n 0, 1) := by decide +kernel
theorem d_MOD_endOn_38 : decode b_MOD_endOn 38 = .ok (.getfield 41, 3) := by decide +kernel
theorem d_MOD_endOn_41 : decode b_MOD_endOn 41 = .ok (.iload_n 1, 1) := by decide +kernel
theorem d_MOD_endOn_42 : decode b_MOD_endOn 42 = .ok (.iconst 1, 1) := by decide +kernel
theorem d_MOD_endOn_43 : decode b_MOD_endOn 43 = .ok (.bastore, 1) := by decide +kernel
theorem d_MOD_endOn_44 : decode b_MOD_endOn 44 = .ok (.goto 43, 3) := by decide +kernel
theorem d_MOD_endOn_47 : decode b_MOD_endOn 47 = .ok (.aload_n 0, 1) := by decide +kernel
theorem d_MOD_endOn_48 : decode b_MOD_endOn 48 = .ok (.getfield 38, 3) := by decide +kernel
theorem d_MOD_endOn_51 : decode b_MOD_endOn 51 = .ok (.iload_n 1, 1) := by decide +kernel
theorem d_MOD_endOn_52 : decode b_MOD_endOn 52 = .ok (.baload, 1) := by decide +kernel
theorem d_MOD_endOn_53 : decode b_MOD_endOn 53 = .ok (.ifCond .ne 34, 3) := by decide +kernel
theorem d_MOD_endOn_56 : decode b_MOD_endOn 56 = .ok (.aload_n 0, 1) := by decide +kernel
theorem d_MOD_endOn_57 : decode b_MOD_endOn 57 = .ok (.getfield 35, 3) := by decide +kernel
theorem d_MOD_endOn_60 : decode b_MOD_endOn 60 = .ok (.iload_n 1, 1) := by decide +kernel
theorem d_MOD_endOn_61 : decode b_MOD_endOn 61 = .ok (.iconst 1, 1) := by decide +kernel
theorem d_MOD_endOn_62 : decode b_MOD_endOn 62 = .ok (.bastore, 1) := by decide +kernel
theorem d_MOD_endOn_63 : decode b_MOD_endOn 63 = .ok (.aload_n 0, 1) := by decide +kernel
theorem d_MOD_endOn_64 : decode b_MOD_endOn 64 = .ok (.getfield 50, 3) := by decide +kernel
theorem d_MOD_endOn_67 : decode b_MOD_endOn 67 = .ok (.iload_n 1, 1) := by decide +kernel
theorem d_MOD_endOn_68 : decode b_MOD_endOn 68 = .ok (.iconst 1, 1) := by decide +kernel
theorem d_MOD_endOn_69 : decode b_MOD_endOn 69 = .ok (.bastore, 1) := by decide +kernel
theorem d_MOD_endOn_70 : decode b_MOD_endOn 70 = .ok (.aload_n 0, 1) := by decide +kernel
theorem d_MOD_endOn_71 : decode b_MOD_endOn 71 = .ok (.getfield 53, 3) := by decide +kernel
theorem d_MOD_endOn_74 : decode b_MOD_endOn 74 = .ok (.iload_n 1, 1) := by decide +kernel
theorem d_MOD_endOn_75 : decode b_MOD_endOn 75 = .ok (.aload_n 0, 1) := by decide +kernel
theorem d_MOD_endOn_76 : decode b_MOD_endOn 76 = .ok (.getfield 81, 3) := by decide +kernel
theorem d_MOD_endOn_79 : decode b_MOD_endOn 79 = .ok (.iastore, 1) := by decide +kernel
theorem d_MOD_endOn_80 : decode b_MOD_endOn 80 = .ok (.aload_n 0, 1) := by decide +kernel
theorem d_MOD_endOn_81 : decode b_MOD_endOn 81 = .ok (.getfield 56, 3) := by decide +kernel
theorem d_MOD_endOn_84 : decode b_MOD_endOn 84 = .ok (.iload_n 1, 1) := by decide +kernel
theorem d_MOD_endOn_85 : decode b_MOD_endOn 85 = .ok (.iload_n 2, 1) := by decide +kernel
theorem d_MOD_endOn_86 : decode b_MOD_endOn 86 = .ok (.iastore, 1) := by decide +kernel
theorem d_MOD_endOn_87 : decode b_MOD_endOn 87 = .ok (.return_, 1) := by decide +kernel
abbrev b_MOD_endOff : ByteArray := prog_7_method_9_code
def y_MOD_endOff : MethodName := ⟨R_MOD, "endOff", "(II)V"⟩
def w_MOD_endOff : List Cond := .code y_MOD_endOff b_MOD_endOff 3 none :: lwG
theorem d_MOD_endOff_0 : decode b_MOD_endOff 0 = .ok (.aload_n 0, 1) := by decide +kernel
theorem d_MOD_endOff_1 : decode b_MOD_endOff 1 = .ok (.getfield 35, 3) := by decide +kernel
theorem d_MOD_endOff_4 : decode b_MOD_endOff 4 = .ok (.iload_n 1, 1) := by decide +kernel
theorem d_MOD_endOff_5 : decode b_MOD_endOff 5 = .ok (.baload, 1) := by decide +kernel
theorem d_MOD_endOff_6 : decode b_MOD_endOff 6 = .ok (.ifCond .eq 17, 3) := by decide +kernel
theorem d_MOD_endOff_9 : decode b_MOD_endOff 9 = .ok (.aload_n 0, 1) := by decide +kernel
theorem d_MOD_endOff_10 : decode b_MOD_endOff 10 = .ok (.getfield 35, 3) := by decide +kernel
theorem d_MOD_endOff_13 : decode b_MOD_endOff 13 = .ok (.iload_n 1, 1) := by decide +kernel
theorem d_MOD_endOff_14 : decode b_MOD_endOff 14 = .ok (.iconst 0, 1) := by decide +kernel
theorem d_MOD_endOff_15 : decode b_MOD_endOff 15 = .ok (.bastore, 1) := by decide +kernel
theorem d_MOD_endOff_16 : decode b_MOD_endOff 16 = .ok (.aload_n 0, 1) := by decide +kernel
theorem d_MOD_endOff_17 : decode b_MOD_endOff 17 = .ok (.getfield 50, 3) := by decide +kernel
theorem d_MOD_endOff_20 : decode b_MOD_endOff 20 = .ok (.iload_n 1, 1) := by decide +kernel
theorem d_MOD_endOff_21 : decode b_MOD_endOff 21 = .ok (.iconst 0, 1) := by decide +kernel
theorem d_MOD_endOff_22 : decode b_MOD_endOff 22 = .ok (.bastore, 1) := by decide +kernel
theorem d_MOD_endOff_23 : decode b_MOD_endOff 23 = .ok (.aload_n 0, 1) := by decide +kernel
theorem d_MOD_endOff_24 : decode b_MOD_endOff 24 = .ok (.getfield 44, 3) := by decide +kernel
theorem d_MOD_endOff_27 : decode b_MOD_endOff 27 = .ok (.iload_n 1, 1) := by decide +kernel
theorem d_MOD_endOff_28 : decode b_MOD_endOff 28 = .ok (.dup2, 1) := by decide +kernel
theorem d_MOD_endOff_29 : decode b_MOD_endOff 29 = .ok (.iaload, 1) := by decide +kernel
theorem d_MOD_endOff_30 : decode b_MOD_endOff 30 = .ok (.iconst 1, 1) := by decide +kernel
theorem d_MOD_endOff_31 : decode b_MOD_endOff 31 = .ok (.iadd, 1) := by decide +kernel
theorem d_MOD_endOff_32 : decode b_MOD_endOff 32 = .ok (.iastore, 1) := by decide +kernel
theorem d_MOD_endOff_33 : decode b_MOD_endOff 33 = .ok (.aload_n 0, 1) := by decide +kernel
theorem d_MOD_endOff_34 : decode b_MOD_endOff 34 = .ok (.getfield 47, 3) := by decide +kernel
theorem d_MOD_endOff_37 : decode b_MOD_endOff 37 = .ok (.iload_n 1, 1) := by decide +kernel
theorem d_MOD_endOff_38 : decode b_MOD_endOff 38 = .ok (.dup2, 1) := by decide +kernel
theorem d_MOD_endOff_39 : decode b_MOD_endOff 39 = .ok (.iaload, 1) := by decide +kernel
theorem d_MOD_endOff_40 : decode b_MOD_endOff 40 = .ok (.iload_n 2, 1) := by decide +kernel
theorem d_MOD_endOff_41 : decode b_MOD_endOff 41 = .ok (.iconst 0, 1) := by decide +kernel
theorem d_MOD_endOff_42 : decode b_MOD_endOff 42 = .ok (.invokestatic 77, 3) := by decide +kernel
theorem d_MOD_endOff_45 : decode b_MOD_endOff 45 = .ok (.ifCond .eq 7, 3) := by decide +kernel
theorem d_MOD_endOff_48 : decode b_MOD_endOff 48 = .ok (.iconst 1, 1) := by decide +kernel
theorem d_MOD_endOff_49 : decode b_MOD_endOff 49 = .ok (.goto 4, 3) := by decide +kernel
theorem d_MOD_endOff_52 : decode b_MOD_endOff 52 = .ok (.iconst 0, 1) := by decide +kernel
theorem d_MOD_endOff_53 : decode b_MOD_endOff 53 = .ok (.iadd, 1) := by decide +kernel
theorem d_MOD_endOff_54 : decode b_MOD_endOff 54 = .ok (.iastore, 1) := by decide +kernel
theorem d_MOD_endOff_55 : decode b_MOD_endOff 55 = .ok (.aload_n 0, 1) := by decide +kernel
theorem d_MOD_endOff_56 : decode b_MOD_endOff 56 = .ok (.getfield 38, 3) := by decide +kernel
theorem d_MOD_endOff_59 : decode b_MOD_endOff 59 = .ok (.iload_n 1, 1) := by decide +kernel
theorem d_MOD_endOff_60 : decode b_MOD_endOff 60 = .ok (.baload, 1) := by decide +kernel
theorem d_MOD_endOff_61 : decode b_MOD_endOff 61 = .ok (.ifCond .eq 27, 3) := by decide +kernel
theorem d_MOD_endOff_64 : decode b_MOD_endOff 64 = .ok (.aload_n 0, 1) := by decide +kernel
theorem d_MOD_endOff_65 : decode b_MOD_endOff 65 = .ok (.getfield 44, 3) := by decide +kernel
theorem d_MOD_endOff_68 : decode b_MOD_endOff 68 = .ok (.iload_n 1, 1) := by decide +kernel
theorem d_MOD_endOff_69 : decode b_MOD_endOff 69 = .ok (.iaload, 1) := by decide +kernel
theorem d_MOD_endOff_70 : decode b_MOD_endOff 70 = .ok (.iconst 3, 1) := by decide +kernel
theorem d_MOD_endOff_71 : decode b_MOD_endOff 71 = .ok (.if_icmp .lt 17, 3) := by decide +kernel
theorem d_MOD_endOff_74 : decode b_MOD_endOff 74 = .ok (.aload_n 0, 1) := by decide +kernel
theorem d_MOD_endOff_75 : decode b_MOD_endOff 75 = .ok (.getfield 38, 3) := by decide +kernel
theorem d_MOD_endOff_78 : decode b_MOD_endOff 78 = .ok (.iload_n 1, 1) := by decide +kernel
theorem d_MOD_endOff_79 : decode b_MOD_endOff 79 = .ok (.iconst 0, 1) := by decide +kernel
theorem d_MOD_endOff_80 : decode b_MOD_endOff 80 = .ok (.bastore, 1) := by decide +kernel
theorem d_MOD_endOff_81 : decode b_MOD_endOff 81 = .ok (.aload_n 0, 1) := by decide +kernel
theorem d_MOD_endOff_82 : decode b_MOD_endOff 82 = .ok (.getfield 50, 3) := by decide +kernel
theorem d_MOD_endOff_85 : decode b_MOD_endOff 85 = .ok (.iload_n 1, 1) := by decide +kernel
theorem d_MOD_endOff_86 : decode b_MOD_endOff 86 = .ok (.iconst 0, 1) := by decide +kernel
theorem d_MOD_endOff_87 : decode b_MOD_endOff 87 = .ok (.bastore, 1) := by decide +kernel
theorem d_MOD_endOff_88 : decode b_MOD_endOff 88 = .ok (.aload_n 0, 1) := by decide +kernel
theorem d_MOD_endOff_89 : decode b_MOD_endOff 89 = .ok (.getfield 41, 3) := by decide +kernel
theorem d_MOD_endOff_92 : decode b_MOD_endOff 92 = .ok (.iload_n 1, 1) := by decide +kernel
theorem d_MOD_endOff_93 : decode b_MOD_endOff 93 = .ok (.aload_n 0, 1) := by decide +kernel
theorem d_MOD_endOff_94 : decode b_MOD_endOff 94 = .ok (.getfield 41, 3) := by decide +kernel
theorem d_MOD_endOff_97 : decode b_MOD_endOff 97 = .ok (.iload_n 1, 1) := by decide +kernel
theorem d_MOD_endOff_98 : decode b_MOD_endOff 98 = .ok (.baload, 1) := by decide +kernel
theorem d_MOD_endOff_99 : decode b_MOD_endOff 99 = .ok (.ifCond .eq 17, 3) := by decide +kernel
theorem d_MOD_endOff_102 : decode b_MOD_endOff 102 = .ok (.aload_n 0, 1) := by decide +kernel
theorem d_MOD_endOff_103 : decode b_MOD_endOff 103 = .ok (.getfield 47, 3) := by decide +kernel
theorem d_MOD_endOff_106 : decode b_MOD_endOff 106 = .ok (.iload_n 1, 1) := by decide +kernel
theorem d_MOD_endOff_107 : decode b_MOD_endOff 107 = .ok (.iaload, 1) := by decide +kernel
theorem d_MOD_endOff_108 : decode b_MOD_endOff 108 = .ok (.iconst 3, 1) := by decide +kernel
theorem d_MOD_endOff_109 : decode b_MOD_endOff 109 = .ok (.if_icmp .ge 7, 3) := by decide +kernel
theorem d_MOD_endOff_112 : decode b_MOD_endOff 112 = .ok (.iconst 1, 1) := by decide +kernel
theorem d_MOD_endOff_113 : decode b_MOD_endOff 113 = .ok (.goto 4, 3) := by decide +kernel
theorem d_MOD_endOff_116 : decode b_MOD_endOff 116 = .ok (.iconst 0, 1) := by decide +kernel
theorem d_MOD_endOff_117 : decode b_MOD_endOff 117 = .ok (.bastore, 1) := by decide +kernel
theorem d_MOD_endOff_118 : decode b_MOD_endOff 118 = .ok (.return_, 1) := by decide +kernel
end
section
set_option maxHeartbeats 4000000 in
set_option maxRecDepth 100000 in
theorem c_isIn (l : Launch) (G : GG) (iv : Int64) (ia : Int64) (ib : Int64)  : Met l y_MOD_isIn w_MOD_isIn ({ frames := 0, cells := 0, slots := 0, locals := 0 }) (va_Pc [.long iv, .long ia, .long ib] (Rw G [])) (k2_QcV (.int (inF iv ia ib))) 0 0 (fun _ => False) := by
  refine Met.ofW (cc := b_MOD_isIn) (maxL := 6) (ret := (some .boolean)) (by decide) rfl ?_
  intro p e s m args below meth c s₁ B hml hv
  obtain ⟨rfl, hP, hGK⟩ := hv
  have hx := B.exec
  have hb := B.bytes
  have hr := B.returns
  have hts := atoms_spec (ws := w_MOD_isIn) B.pre
  have hT : ∀ w ∈ lwG, w.before _ s = true := fun w h => hts w (List.mem_cons_of_mem _ h)
  have hown : s.vm.findClass R_MOD = some m.cls := findClass_of_methodNamed B.named
  have hlocks := B.notSynchronized
  have hK := hGK.1
  have hN := hGK.2
  have hP : va_P G.1 vwCl [] s.heap := hP
  have hl := lv_entry ([.long iv, .long ia, .long ib]) (n := 6) (Nat.le_of_ble_eq_true rfl)
  rw [lg_entry_eq]
  generalize (lg_sl ([.long iv, .long ia, .long ib]) ++ List.replicate (6 - (lg_sl ([.long iv, .long ia, .long ib])).length) Slot.unset).toArray = ls at hl ⊢
  have hl : lv_has ls 6 [(0, .long iv), (2, .long ia), (4, .long ib)] := hl
  generalize hHe : s.heap = H at hP ⊢
  refine lv_lload_n hx hb d_MOD_isIn_0 rfl (lv_at hl 0 rfl) ?_
  refine lv_lload_n hx hb d_MOD_isIn_1 rfl (lv_at hl 1 rfl) ?_
  refine W.lcmp hx hb d_MOD_isIn_2 ?_
  refine lv_if_lt (tgt := 17) hx hb d_MOD_isIn_3 (by decide) (fun c_3 => ?_) (fun c_3 => ?_)
  · refine lv_iconst (v := 0) hx hb d_MOD_isIn_17 (by decide) ?_
    have hq9 : (.int (inF iv ia ib)) = (.int 0 : Value) := by first | (simp [inF, c_3]; done) | (simp_all [inF]; done)
    exact W.zret (v := 0) hx hb hr rfl (fun t ht _ => ⟨by rw [hq9], ht.trans hHe.symm⟩) (fun _ h => by cases h) d_MOD_isIn_18
  · refine lv_lload_n hx hb d_MOD_isIn_6 rfl (lv_at hl 0 rfl) ?_
    refine lv_lload hx hb d_MOD_isIn_7 (lv_at hl 2 rfl) ?_
    refine W.lcmp hx hb d_MOD_isIn_9 ?_
    refine lv_if_gt (tgt := 17) hx hb d_MOD_isIn_10 (by decide) (fun c_10 => ?_) (fun c_10 => ?_)
    · refine lv_iconst (v := 0) hx hb d_MOD_isIn_17 (by decide) ?_
      have hq9 : (.int (inF iv ia ib)) = (.int 0 : Value) := by first | (simp [inF, c_3, c_10]; done) | (simp_all [inF]; done)
      exact W.zret (v := 0) hx hb hr rfl (fun t ht _ => ⟨by rw [hq9], ht.trans hHe.symm⟩) (fun _ h => by cases h) d_MOD_isIn_18
    · refine lv_iconst (v := 1) hx hb d_MOD_isIn_13 (by decide) ?_
      refine lv_goto (tgt := 18) hx hb d_MOD_isIn_14 (by decide) ?_
      have hq9 : (.int (inF iv ia ib)) = (.int 1 : Value) := by first | (simp [inF, c_3, c_10]; done) | (simp_all [inF]; done)
      exact W.zret (v := 1) hx hb hr rfl (fun t ht _ => ⟨by rw [hq9], ht.trans hHe.symm⟩) (fun _ h => by cases h) d_MOD_isIn_18
set_option maxHeartbeats 4000000 in
set_option maxRecDepth 100000 in
theorem c_mholds (l : Launch) (G : GG) (ba : Int32) (bb : Int32)  : Met l y_MOD_holds w_MOD_holds ({ frames := 0, cells := 0, slots := 0, locals := 0 }) (va_Pc [.int ba, .int bb] (Rw G [])) (k2_QcV (.int (bitF ba bb))) 0 0 (fun _ => False) := by
  refine Met.ofW (cc := b_MOD_holds) (maxL := 2) (ret := (some .boolean)) (by decide) rfl ?_
  intro p e s m args below meth c s₁ B hml hv
  obtain ⟨rfl, hP, hGK⟩ := hv
  have hx := B.exec
  have hb := B.bytes
  have hr := B.returns
  have hts := atoms_spec (ws := w_MOD_holds) B.pre
  have hT : ∀ w ∈ lwG, w.before _ s = true := fun w h => hts w (List.mem_cons_of_mem _ h)
  have hown : s.vm.findClass R_MOD = some m.cls := findClass_of_methodNamed B.named
  have hlocks := B.notSynchronized
  have hK := hGK.1
  have hN := hGK.2
  have hP : va_P G.1 vwCl [] s.heap := hP
  have hl := lv_entry ([.int ba, .int bb]) (n := 2) (Nat.le_of_ble_eq_true rfl)
  rw [lg_entry_eq]
  generalize (lg_sl ([.int ba, .int bb]) ++ List.replicate (2 - (lg_sl ([.int ba, .int bb])).length) Slot.unset).toArray = ls at hl ⊢
  have hl : lv_has ls 2 [(0, .int ba), (1, .int bb)] := hl
  generalize hHe : s.heap = H at hP ⊢
  refine lv_iload_n hx hb d_MOD_holds_0 rfl (lv_at hl 0 rfl) ?_
  refine lv_iload_n hx hb d_MOD_holds_1 rfl (lv_at hl 1 rfl) ?_
  refine lv_ishr hx hb d_MOD_holds_2 ?_
  refine lv_iconst (v := 1) hx hb d_MOD_holds_3 (by decide) ?_
  refine lv_iand hx hb d_MOD_holds_4 ?_
  refine lv_iconst (v := 1) hx hb d_MOD_holds_5 (by decide) ?_
  refine lv_icmp_ne (tgt := 13) hx hb d_MOD_holds_6 (by decide) (fun c_6 => ?_) (fun c_6 => ?_)
  · refine lv_iconst (v := 0) hx hb d_MOD_holds_13 (by decide) ?_
    have hq9 : (.int (bitF ba bb)) = (.int 0 : Value) := by first | (simp [bitF, c_6]; done) | (simp_all [bitF]; done)
    exact W.zret (v := 0) hx hb hr rfl (fun t ht _ => ⟨by rw [hq9], ht.trans hHe.symm⟩) (fun _ h => by cases h) d_MOD_holds_14
  · refine lv_iconst (v := 1) hx hb d_MOD_holds_9 (by decide) ?_
    refine lv_goto (tgt := 14) hx hb d_MOD_holds_10 (by decide) ?_
    have hq9 : (.int (bitF ba bb)) = (.int 1 : Value) := by first | (simp [bitF, c_6]; done) | (simp_all [bitF]; done)
    exact W.zret (v := 1) hx hb hr rfl (fun t ht _ => ⟨by rw [hq9], ht.trans hHe.symm⟩) (fun _ h => by cases h) d_MOD_holds_14
set_option maxHeartbeats 4000000 in
set_option maxRecDepth 100000 in
theorem c_thrown (l : Launch) (G : GG) (z0 : Nat) (z1 : Nat) (z2 : Nat) (z3 : Nat) (z4 : Nat) (z5 : Nat) (z6 : Nat) (z7 : Nat) (z8 : Nat) (z9 : Nat) (z10 : Nat) (z11 : Nat) (z12 : Nat) (z13 : Nat) (z14 : Nat) (z15 : Nat) (z16 : Nat) (z17 : Nat) (cdv : Int32) (cyc : Int32) (li : Int32) (nM : Nat) (nC : Nat) (sn : Nat) (me : Int64) (mi : Int64)  : Met l y_MOD_thrown w_MOD_thrown ({ frames := 0, cells := 0, slots := 0, locals := 0 }) (va_Pc [.ref z0] (Rw G [(z0, .inr (6, [.int cdv, .int (nI nM), .ref z1, .ref z2, .ref z3, .ref z4, .ref z5, .ref z6, .int (nI nC), .ref z7, .ref z8, .ref z9, .ref z10, .ref z11, .ref z12, .ref z13, .ref z14, .ref z15, .ref z16, .int cyc, .int li, .long me, .long mi, .int (nI sn), .ref z17]))])) (k2_QcV (.int cdv)) 0 0 (fun _ => False) := by
  refine Met.ofW (cc := b_MOD_thrown) (maxL := 1) (ret := (some .int)) (by decide) rfl ?_
  intro p e s m args below meth c s₁ B hml hv
  obtain ⟨rfl, hP, hGK⟩ := hv
  have hx := B.exec
  have hb := B.bytes
  have hr := B.returns
  have hts := atoms_spec (ws := w_MOD_thrown) B.pre
  have hT : ∀ w ∈ lwG, w.before _ s = true := fun w h => hts w (List.mem_cons_of_mem _ h)
  have hown : s.vm.findClass R_MOD = some m.cls := findClass_of_methodNamed B.named
  have hlocks := B.notSynchronized
  have hK := hGK.1
  have hN := hGK.2
  have hP : va_P G.1 vwCl [(z0, .inr (6, [.int cdv, .int (nI nM), .ref z1, .ref z2, .ref z3, .ref z4, .ref z5, .ref z6, .int (nI nC), .ref z7, .ref z8, .ref z9, .ref z10, .ref z11, .ref z12, .ref z13, .ref z14, .ref z15, .ref z16, .int cyc, .int li, .long me, .long mi, .int (nI sn), .ref z17]))] s.heap := hP
  have hl := lv_entry ([.ref z0]) (n := 1) (Nat.le_of_ble_eq_true rfl)
  rw [lg_entry_eq]
  generalize (lg_sl ([.ref z0]) ++ List.replicate (1 - (lg_sl ([.ref z0])).length) Slot.unset).toArray = ls at hl ⊢
  have hl : lv_has ls 1 [(0, .ref z0)] := hl
  generalize hHe : s.heap = H at hP ⊢
  refine lv_aload_n hx hb d_MOD_thrown_0 rfl (lv_at hl 0 rfl) ?_
  refine va_get (D := G.1) (ci := 6) (v := .int cdv) (C := R_MOD) (T := T_MOD) (N := 25) hx hb hT in_MOD hown hK hP 0 rfl rfl 0 (by decide) (hT _ wd_582) (fun _ h9 => h9) rfl d_MOD_thrown_1 ?_
  exact W.iret (v := cdv) hx hb hr (fun t ht _ => ⟨rfl, ht.trans hHe.symm⟩) (fun _ h => by cases h) d_MOD_thrown_4
set_option maxHeartbeats 4000000 in
set_option maxRecDepth 100000 in
theorem c_mhasChance (l : Launch) (G : GG) (sz : Nat) (z0 : Nat) (z1 : Nat) (z2 : Nat) (z3 : Nat) (z4 : Nat) (z5 : Nat) (z6 : Nat) (z7 : Nat) (z8 : Nat) (z9 : Nat) (z10 : Nat) (z11 : Nat) (z12 : Nat) (z13 : Nat) (z14 : Nat) (z15 : Nat) (z16 : Nat) (z17 : Nat) (cdv : Int32) (cyc : Int32) (li : Int32) (nM : Nat) (nC : Nat) (sn : Nat) (me : Int64) (mi : Int64) (fK : Nat → Int32) (fC : Nat → Int32) (fE : Nat → Int32) (k : Nat) (cs : Int32) (hk : k < 16) : Met l y_MOD_hasChance w_MOD_hasChance ({ frames := 1, cells := 0, slots := 0, locals := 21 }) (va_Pc [.ref z0, .int (nI k), .int cs] (Pw G sz [(z0, .inr (6, [.int cdv, .int (nI nM), .ref z1, .ref z2, .ref z3, .ref z4, .ref z5, .ref z6, .int (nI nC), .ref z7, .ref z8, .ref z9, .ref z10, .ref z11, .ref z12, .ref z13, .ref z14, .ref z15, .ref z16, .int cyc, .int li, .long me, .long mi, .int (nI sn), .ref z17])), (z1, .inl (G.2 2, 16, .inl fK)), (z2, .inl (G.2 2, 16, .inl fC)), (z5, .inl (G.2 2, 16, .inl fE))])) (QW G (some (.int (mhR (fK k) (fC k) (fE k) cs))) [(z0, .inr (6, [.int cdv, .int (nI nM), .ref z1, .ref z2, .ref z3, .ref z4, .ref z5, .ref z6, .int (nI nC), .ref z7, .ref z8, .ref z9, .ref z10, .ref z11, .ref z12, .ref z13, .ref z14, .ref z15, .ref z16, .int cyc, .int li, .long me, .long mi, .int (nI sn), .ref z17])), (z1, .inl (G.2 2, 16, .inl fK)), (z2, .inl (G.2 2, 16, .inl fC)), (z5, .inl (G.2 2, 16, .inl fE))] [(z0, .inr (6, [.int cdv, .int (nI nM), .ref z1, .ref z2, .ref z3, .ref z4, .ref z5, .ref z6, .int (nI nC), .ref z7, .ref z8, .ref z9, .ref z10, .ref z11, .ref z12, .ref z13, .ref z14, .ref z15, .ref z16, .int cyc, .int li, .long me, .long mi, .int (nI sn), .ref z17])), (z1, .inl (G.2 2, 16, .inl fK)), (z2, .inl (G.2 2, 16, .inl fC)), (z5, .inl (G.2 2, 16, .inl (upd fE k (mhH (fK k) (fC k) (fE k) cs))))] sz) 0 0 (va_A [(z0, .inr (6, [.int cdv, .int (nI nM), .ref z1, .ref z2, .ref z3, .ref z4, .ref z5, .ref z6, .int (nI nC), .ref z7, .ref z8, .ref z9, .ref z10, .ref z11, .ref z12, .ref z13, .ref z14, .ref z15, .ref z16, .int cyc, .int li, .long me, .long mi, .int (nI sn), .ref z17])), (z1, .inl (G.2 2, 16, .inl fK)), (z2, .inl (G.2 2, 16, .inl fC)), (z5, .inl (G.2 2, 16, .inl fE))] sz) := by
  refine Met.ofW (cc := b_MOD_hasChance) (maxL := 4) (ret := (some .boolean)) (by decide) rfl ?_
  intro p e s m args below meth c s₁ B hml hv
  obtain ⟨rfl, hsz, hP, hGK, hD0⟩ := hv
  have hx := B.exec
  have hb := B.bytes
  have hr := B.returns
  have hts := atoms_spec (ws := w_MOD_hasChance) B.pre
  have hT : ∀ w ∈ lwG, w.before _ s = true := fun w h => hts w (List.mem_cons_of_mem _ h)
  have hown : s.vm.findClass R_MOD = some m.cls := findClass_of_methodNamed B.named
  have hlocks := B.notSynchronized
  have hK := hGK.1
  have hN := hGK.2
  subst hsz
  have hD := hD0.self (sz := s.heap.size)
  generalize hAe : va_A [(z0, .inr (6, [.int cdv, .int (nI nM), .ref z1, .ref z2, .ref z3, .ref z4, .ref z5, .ref z6, .int (nI nC), .ref z7, .ref z8, .ref z9, .ref z10, .ref z11, .ref z12, .ref z13, .ref z14, .ref z15, .ref z16, .int cyc, .int li, .long me, .long mi, .int (nI sn), .ref z17])), (z1, .inl (G.2 2, 16, .inl fK)), (z2, .inl (G.2 2, 16, .inl fC)), (z5, .inl (G.2 2, 16, .inl fE))] s.heap.size = A at hD ⊢
  have hA : ∀ q : Nat, s.heap.size ≤ q → A q := fun q h => by rw [← hAe]; exact Or.inr h
  have hS : va_S A s.heap s.heap [] := va_S.rf
  have hP : va_P G.1 vwCl [(z0, .inr (6, [.int cdv, .int (nI nM), .ref z1, .ref z2, .ref z3, .ref z4, .ref z5, .ref z6, .int (nI nC), .ref z7, .ref z8, .ref z9, .ref z10, .ref z11, .ref z12, .ref z13, .ref z14, .ref z15, .ref z16, .int cyc, .int li, .long me, .long mi, .int (nI sn), .ref z17])), (z1, .inl (G.2 2, 16, .inl fK)), (z2, .inl (G.2 2, 16, .inl fC)), (z5, .inl (G.2 2, 16, .inl fE))] s.heap := hP
  have hl := lv_entry ([.ref z0, .int (nI k), .int cs]) (n := 4) (Nat.le_of_ble_eq_true rfl)
  rw [lg_entry_eq]
  generalize (lg_sl ([.ref z0, .int (nI k), .int cs]) ++ List.replicate (4 - (lg_sl ([.ref z0, .int (nI k), .int cs])).length) Slot.unset).toArray = ls at hl ⊢
  have hl : lv_has ls 4 [(0, .ref z0), (1, .int (nI k)), (2, .int cs)] := hl
  refine lv_iload_n hx hb d_MOD_hasChance_0 rfl (lv_at hl 2 rfl) ?_
  refine lv_aload_n hx hb d_MOD_hasChance_1 rfl (lv_at hl 0 rfl) ?_
  refine va_get (D := G.1) (ci := 6) (v := .ref z2) (C := R_MOD) (T := T_MOD) (N := 25) hx hb hT in_MOD hown hK hP 0 rfl rfl 3 (by decide) (hT _ wd_585) (fun _ h9 => h9) rfl d_MOD_hasChance_2 ?_
  refine lv_iload_n hx hb d_MOD_hasChance_5 rfl (lv_at hl 1 rfl) ?_
  refine va_iald hx hb hK hP 2 2 rfl rfl (vp_in_nI (by omega) (by omega)) d_MOD_hasChance_6 ?_
  refine W.eq (g2 := F0 m 7 ls (.int (fC k) :: [.int cs])) (by rw [nI_clamp (by omega)]) ?_
  refine bx_callV (W.runS (As := [.int cs, .int (fC k)]) (rest := []) ⟨hx, hb, hml, hown, hts⟩ (c_mholds l G cs (fC k)) ⟨(callB_of 2 hts (gi_all wd_685) rfl rfl rfl (hT _ wd_51) (hT _ wd_683) (by decide +kernel) ⟨Nat.le_of_ble_eq_true rfl, Nat.le_of_ble_eq_true rfl⟩), (hT _ wd_684)⟩ (psR bx_nil hGK) rfl rfl hl.1 rfl (lv_room (Nat.le_of_ble_eq_true rfl)) d_MOD_hasChance_7 ⟨Nat.le_of_ble_eq_true rfl, Nat.le_of_ble_eq_true rfl⟩) ?_
  refine lv_istore_n (lv' := [(3, .int (bitF cs (fC k))), (0, .ref z0), (1, .int (nI k)), (2, .int cs)]) hx hb d_MOD_hasChance_10 rfl hl (by decide) rfl (fun ls hl => ?_)
  refine lv_aload_n hx hb d_MOD_hasChance_11 rfl (lv_at hl 1 rfl) ?_
  refine va_get (D := G.1) (ci := 6) (v := .ref z1) (C := R_MOD) (T := T_MOD) (N := 25) hx hb hT in_MOD hown hK hP 0 rfl rfl 2 (by decide) (hT _ wd_584) (fun _ h9 => h9) rfl d_MOD_hasChance_12 ?_
  refine lv_iload_n hx hb d_MOD_hasChance_15 rfl (lv_at hl 2 rfl) ?_
  refine va_iald hx hb hK hP 1 2 rfl rfl (vp_in_nI (by omega) (by omega)) d_MOD_hasChance_16 ?_
  refine W.eq (g2 := F0 m 17 ls (.int (fK k) :: [])) (by rw [nI_clamp (by omega)]) ?_
  refine lv_iconst (v := 2) hx hb d_MOD_hasChance_17 (by decide) ?_
  refine lv_icmp_ne (tgt := 35) hx hb d_MOD_hasChance_18 (by decide) (fun c_18 => ?_) (fun c_18 => ?_)
  · refine lv_aload_n hx hb d_MOD_hasChance_35 rfl (lv_at hl 1 rfl) ?_
    refine va_get (D := G.1) (ci := 6) (v := .ref z1) (C := R_MOD) (T := T_MOD) (N := 25) hx hb hT in_MOD hown hK hP 0 rfl rfl 2 (by decide) (hT _ wd_584) (fun _ h9 => h9) rfl d_MOD_hasChance_36 ?_
    refine lv_iload_n hx hb d_MOD_hasChance_39 rfl (lv_at hl 2 rfl) ?_
    refine va_iald hx hb hK hP 1 2 rfl rfl (vp_in_nI (by omega) (by omega)) d_MOD_hasChance_40 ?_
    refine W.eq (g2 := F0 m 41 ls (.int (fK k) :: [])) (by rw [nI_clamp (by omega)]) ?_
    refine lv_iconst (v := 1) hx hb d_MOD_hasChance_41 (by decide) ?_
    refine lv_icmp_ne (tgt := 85) hx hb d_MOD_hasChance_42 (by decide) (fun c_42 => ?_) (fun c_42 => ?_)
    · refine lv_aload_n hx hb d_MOD_hasChance_85 rfl (lv_at hl 1 rfl) ?_
      refine va_get (D := G.1) (ci := 6) (v := .ref z1) (C := R_MOD) (T := T_MOD) (N := 25) hx hb hT in_MOD hown hK hP 0 rfl rfl 2 (by decide) (hT _ wd_584) (fun _ h9 => h9) rfl d_MOD_hasChance_86 ?_
      refine lv_iload_n hx hb d_MOD_hasChance_89 rfl (lv_at hl 2 rfl) ?_
      refine va_iald hx hb hK hP 1 2 rfl rfl (vp_in_nI (by omega) (by omega)) d_MOD_hasChance_90 ?_
      refine W.eq (g2 := F0 m 91 ls (.int (fK k) :: [])) (by rw [nI_clamp (by omega)]) ?_
      refine lv_if_ne (tgt := 98) hx hb d_MOD_hasChance_91 (by decide) (fun c_91 => ?_) (fun c_91 => ?_)
      · refine lv_aload_n hx hb d_MOD_hasChance_98 rfl (lv_at hl 1 rfl) ?_
        refine va_get (D := G.1) (ci := 6) (v := .ref z1) (C := R_MOD) (T := T_MOD) (N := 25) hx hb hT in_MOD hown hK hP 0 rfl rfl 2 (by decide) (hT _ wd_584) (fun _ h9 => h9) rfl d_MOD_hasChance_99 ?_
        refine lv_iload_n hx hb d_MOD_hasChance_102 rfl (lv_at hl 2 rfl) ?_
        refine va_iald hx hb hK hP 1 2 rfl rfl (vp_in_nI (by omega) (by omega)) d_MOD_hasChance_103 ?_
        refine W.eq (g2 := F0 m 104 ls (.int (fK k) :: [])) (by rw [nI_clamp (by omega)]) ?_
        refine lv_iconst (v := 2) hx hb d_MOD_hasChance_104 (by decide) ?_
        refine lv_icmp_ne (tgt := 131) hx hb d_MOD_hasChance_105 (by decide) (fun c_105 => ?_) (fun c_105 => ?_)
        · refine lv_iload_n hx hb d_MOD_hasChance_131 rfl (lv_at hl 0 rfl) ?_
          refine lv_if_ne (tgt := 139) hx hb d_MOD_hasChance_132 (by decide) (fun c_132 => ?_) (fun c_132 => ?_)
          · refine lv_iconst (v := 0) hx hb d_MOD_hasChance_139 (by decide) ?_
            have hw9 : ([(z0, .inr (6, [.int cdv, .int (nI nM), .ref z1, .ref z2, .ref z3, .ref z4, .ref z5, .ref z6, .int (nI nC), .ref z7, .ref z8, .ref z9, .ref z10, .ref z11, .ref z12, .ref z13, .ref z14, .ref z15, .ref z16, .int cyc, .int li, .long me, .long mi, .int (nI sn), .ref z17])), (z1, .inl (G.2 2, 16, .inl fK)), (z2, .inl (G.2 2, 16, .inl fC)), (z5, .inl (G.2 2, 16, .inl (upd fE k (mhH (fK k) (fC k) (fE k) cs))))] : va_W) = [(z0, .inr (6, [.int cdv, .int (nI nM), .ref z1, .ref z2, .ref z3, .ref z4, .ref z5, .ref z6, .int (nI nC), .ref z7, .ref z8, .ref z9, .ref z10, .ref z11, .ref z12, .ref z13, .ref z14, .ref z15, .ref z16, .int cyc, .int li, .long me, .long mi, .int (nI sn), .ref z17])), (z1, .inl (G.2 2, 16, .inl fK)), (z2, .inl (G.2 2, 16, .inl fC)), (z5, .inl (G.2 2, 16, .inl fE))] := by first | (simp [mhR, mhH, pk_us, upd_upd, upd_id, upd_idv, c_18, c_42, c_91, c_105, c_132]; done) | (simp_all [mhR, mhH, pk_us, upd_upd, upd_id, upd_idv]; done)
            rw [← hw9] at hP hD
            have hq9 : (.int (mhR (fK k) (fC k) (fE k) cs)) = (.int 0 : Value) := by first | (simp [mhR, mhH, pk_us, upd_upd, upd_id, upd_idv, c_18, c_42, c_91, c_105, c_132]; done) | (simp_all [mhR, mhH, pk_us, upd_upd, upd_id, upd_idv]; done)
            exact W.zret (v := 0) hx hb hr rfl (fun t ht hW => ⟨⟨by rw [hq9], by rw [ht]; exact hP, by rw [hAe]; exact hD⟩, by rw [hAe]; exact hS.F ht⟩) hS.2.2 d_MOD_hasChance_140
          · refine lv_iconst (v := 1) hx hb d_MOD_hasChance_135 (by decide) ?_
            refine lv_goto (tgt := 140) hx hb d_MOD_hasChance_136 (by decide) ?_
            have hw9 : ([(z0, .inr (6, [.int cdv, .int (nI nM), .ref z1, .ref z2, .ref z3, .ref z4, .ref z5, .ref z6, .int (nI nC), .ref z7, .ref z8, .ref z9, .ref z10, .ref z11, .ref z12, .ref z13, .ref z14, .ref z15, .ref z16, .int cyc, .int li, .long me, .long mi, .int (nI sn), .ref z17])), (z1, .inl (G.2 2, 16, .inl fK)), (z2, .inl (G.2 2, 16, .inl fC)), (z5, .inl (G.2 2, 16, .inl (upd fE k (mhH (fK k) (fC k) (fE k) cs))))] : va_W) = [(z0, .inr (6, [.int cdv, .int (nI nM), .ref z1, .ref z2, .ref z3, .ref z4, .ref z5, .ref z6, .int (nI nC), .ref z7, .ref z8, .ref z9, .ref z10, .ref z11, .ref z12, .ref z13, .ref z14, .ref z15, .ref z16, .int cyc, .int li, .long me, .long mi, .int (nI sn), .ref z17])), (z1, .inl (G.2 2, 16, .inl fK)), (z2, .inl (G.2 2, 16, .inl fC)), (z5, .inl (G.2 2, 16, .inl fE))] := by first | (simp [mhR, mhH, pk_us, upd_upd, upd_id, upd_idv, c_18, c_42, c_91, c_105, c_132]; done) | (simp_all [mhR, mhH, pk_us, upd_upd, upd_id, upd_idv]; done)
            rw [← hw9] at hP hD
            have hq9 : (.int (mhR (fK k) (fC k) (fE k) cs)) = (.int 1 : Value) := by first | (simp [mhR, mhH, pk_us, upd_upd, upd_id, upd_idv, c_18, c_42, c_91, c_105, c_132]; done) | (simp_all [mhR, mhH, pk_us, upd_upd, upd_id, upd_idv]; done)
            exact W.zret (v := 1) hx hb hr rfl (fun t ht hW => ⟨⟨by rw [hq9], by rw [ht]; exact hP, by rw [hAe]; exact hD⟩, by rw [hAe]; exact hS.F ht⟩) hS.2.2 d_MOD_hasChance_140
        · exact absurd c_105 c_18
      · refine lv_iload_n hx hb d_MOD_hasChance_94 rfl (lv_at hl 0 rfl) ?_
        refine lv_goto (tgt := 140) hx hb d_MOD_hasChance_95 (by decide) ?_
        have hw9 : ([(z0, .inr (6, [.int cdv, .int (nI nM), .ref z1, .ref z2, .ref z3, .ref z4, .ref z5, .ref z6, .int (nI nC), .ref z7, .ref z8, .ref z9, .ref z10, .ref z11, .ref z12, .ref z13, .ref z14, .ref z15, .ref z16, .int cyc, .int li, .long me, .long mi, .int (nI sn), .ref z17])), (z1, .inl (G.2 2, 16, .inl fK)), (z2, .inl (G.2 2, 16, .inl fC)), (z5, .inl (G.2 2, 16, .inl (upd fE k (mhH (fK k) (fC k) (fE k) cs))))] : va_W) = [(z0, .inr (6, [.int cdv, .int (nI nM), .ref z1, .ref z2, .ref z3, .ref z4, .ref z5, .ref z6, .int (nI nC), .ref z7, .ref z8, .ref z9, .ref z10, .ref z11, .ref z12, .ref z13, .ref z14, .ref z15, .ref z16, .int cyc, .int li, .long me, .long mi, .int (nI sn), .ref z17])), (z1, .inl (G.2 2, 16, .inl fK)), (z2, .inl (G.2 2, 16, .inl fC)), (z5, .inl (G.2 2, 16, .inl fE))] := by first | (simp [mhR, mhH, pk_us, upd_upd, upd_id, upd_idv, c_18, c_42, c_91]; done) | (simp_all [mhR, mhH, pk_us, upd_upd, upd_id, upd_idv]; done)
        rw [← hw9] at hP hD
        have hq9 : (.int (mhR (fK k) (fC k) (fE k) cs)) = (.int (bitF cs (fC k)) : Value) := by first | (simp [mhR, mhH, pk_us, upd_upd, upd_id, upd_idv, c_18, c_42, c_91]; done) | (simp_all [mhR, mhH, pk_us, upd_upd, upd_id, upd_idv]; done)
        exact W.zret (v := bitF cs (fC k)) hx hb hr (bitF_bz _ _).n (fun t ht hW => ⟨⟨by rw [hq9], by rw [ht]; exact hP, by rw [hAe]; exact hD⟩, by rw [hAe]; exact hS.F ht⟩) hS.2.2 d_MOD_hasChance_140
    · refine lv_iload_n hx hb d_MOD_hasChance_45 rfl (lv_at hl 0 rfl) ?_
      refine lv_if_eq (tgt := 83) hx hb d_MOD_hasChance_46 (by decide) (fun c_46 => ?_) (fun c_46 => ?_)
      · refine lv_iconst (v := 0) hx hb d_MOD_hasChance_83 (by decide) ?_
        have hw9 : ([(z0, .inr (6, [.int cdv, .int (nI nM), .ref z1, .ref z2, .ref z3, .ref z4, .ref z5, .ref z6, .int (nI nC), .ref z7, .ref z8, .ref z9, .ref z10, .ref z11, .ref z12, .ref z13, .ref z14, .ref z15, .ref z16, .int cyc, .int li, .long me, .long mi, .int (nI sn), .ref z17])), (z1, .inl (G.2 2, 16, .inl fK)), (z2, .inl (G.2 2, 16, .inl fC)), (z5, .inl (G.2 2, 16, .inl (upd fE k (mhH (fK k) (fC k) (fE k) cs))))] : va_W) = [(z0, .inr (6, [.int cdv, .int (nI nM), .ref z1, .ref z2, .ref z3, .ref z4, .ref z5, .ref z6, .int (nI nC), .ref z7, .ref z8, .ref z9, .ref z10, .ref z11, .ref z12, .ref z13, .ref z14, .ref z15, .ref z16, .int cyc, .int li, .long me, .long mi, .int (nI sn), .ref z17])), (z1, .inl (G.2 2, 16, .inl fK)), (z2, .inl (G.2 2, 16, .inl fC)), (z5, .inl (G.2 2, 16, .inl fE))] := by first | (simp [mhR, mhH, pk_us, upd_upd, upd_id, upd_idv, c_18, c_42, c_46]; done) | (simp_all [mhR, mhH, pk_us, upd_upd, upd_id, upd_idv]; done)
        rw [← hw9] at hP hD
        have hq9 : (.int (mhR (fK k) (fC k) (fE k) cs)) = (.int 0 : Value) := by first | (simp [mhR, mhH, pk_us, upd_upd, upd_id, upd_idv, c_18, c_42, c_46]; done) | (simp_all [mhR, mhH, pk_us, upd_upd, upd_id, upd_idv]; done)
        exact W.zret (v := 0) hx hb hr rfl (fun t ht hW => ⟨⟨by rw [hq9], by rw [ht]; exact hP, by rw [hAe]; exact hD⟩, by rw [hAe]; exact hS.F ht⟩) hS.2.2 d_MOD_hasChance_84
      · refine lv_iload_n hx hb d_MOD_hasChance_49 rfl (lv_at hl 3 rfl) ?_
        refine lv_aload_n hx hb d_MOD_hasChance_50 rfl (lv_at hl 1 rfl) ?_
        refine va_get (D := G.1) (ci := 6) (v := .ref z2) (C := R_MOD) (T := T_MOD) (N := 25) hx hb hT in_MOD hown hK hP 0 rfl rfl 3 (by decide) (hT _ wd_585) (fun _ h9 => h9) rfl d_MOD_hasChance_51 ?_
        refine lv_iload_n hx hb d_MOD_hasChance_54 rfl (lv_at hl 2 rfl) ?_
        refine va_iald hx hb hK hP 2 2 rfl rfl (vp_in_nI (by omega) (by omega)) d_MOD_hasChance_55 ?_
        refine W.eq (g2 := F0 m 56 ls (.int (fC k) :: [.int cs])) (by rw [nI_clamp (by omega)]) ?_
        refine lv_bipush (v := 7) hx hb d_MOD_hasChance_56 (by decide) ?_
        refine lv_icmp_ne (tgt := 65) hx hb d_MOD_hasChance_58 (by decide) (fun c_58 => ?_) (fun c_58 => ?_)
        · refine lv_aload_n hx hb d_MOD_hasChance_65 rfl (lv_at hl 1 rfl) ?_
          refine va_get (D := G.1) (ci := 6) (v := .ref z2) (C := R_MOD) (T := T_MOD) (N := 25) hx hb hT in_MOD hown hK hP 0 rfl rfl 3 (by decide) (hT _ wd_585) (fun _ h9 => h9) rfl d_MOD_hasChance_66 ?_
          refine lv_iload_n hx hb d_MOD_hasChance_69 rfl (lv_at hl 2 rfl) ?_
          refine va_iald hx hb hK hP 2 2 rfl rfl (vp_in_nI (by omega) (by omega)) d_MOD_hasChance_70 ?_
          refine W.eq (g2 := F0 m 71 ls (.int (fC k) :: [.int cs])) (by rw [nI_clamp (by omega)]) ?_
          refine lv_iconst (v := 1) hx hb d_MOD_hasChance_71 (by decide) ?_
          refine lv_iadd hx hb d_MOD_hasChance_72 ?_
          refine bx_callV (W.runS (As := [.int cs, .int ((fC k) + 1)]) (rest := []) ⟨hx, hb, hml, hown, hts⟩ (c_mholds l G cs ((fC k) + 1)) ⟨(callB_of 2 hts (gi_all wd_685) rfl rfl rfl (hT _ wd_51) (hT _ wd_683) (by decide +kernel) ⟨Nat.le_of_ble_eq_true rfl, Nat.le_of_ble_eq_true rfl⟩), (hT _ wd_684)⟩ (psR bx_nil hGK) rfl rfl hl.1 rfl (lv_room (Nat.le_of_ble_eq_true rfl)) d_MOD_hasChance_73 ⟨Nat.le_of_ble_eq_true rfl, Nat.le_of_ble_eq_true rfl⟩) ?_
          refine lv_if_eq (tgt := 83) hx hb d_MOD_hasChance_76 (by decide) (fun c_76 => ?_) (fun c_76 => ?_)
          · refine lv_iconst (v := 0) hx hb d_MOD_hasChance_83 (by decide) ?_
            have hw9 : ([(z0, .inr (6, [.int cdv, .int (nI nM), .ref z1, .ref z2, .ref z3, .ref z4, .ref z5, .ref z6, .int (nI nC), .ref z7, .ref z8, .ref z9, .ref z10, .ref z11, .ref z12, .ref z13, .ref z14, .ref z15, .ref z16, .int cyc, .int li, .long me, .long mi, .int (nI sn), .ref z17])), (z1, .inl (G.2 2, 16, .inl fK)), (z2, .inl (G.2 2, 16, .inl fC)), (z5, .inl (G.2 2, 16, .inl (upd fE k (mhH (fK k) (fC k) (fE k) cs))))] : va_W) = [(z0, .inr (6, [.int cdv, .int (nI nM), .ref z1, .ref z2, .ref z3, .ref z4, .ref z5, .ref z6, .int (nI nC), .ref z7, .ref z8, .ref z9, .ref z10, .ref z11, .ref z12, .ref z13, .ref z14, .ref z15, .ref z16, .int cyc, .int li, .long me, .long mi, .int (nI sn), .ref z17])), (z1, .inl (G.2 2, 16, .inl fK)), (z2, .inl (G.2 2, 16, .inl fC)), (z5, .inl (G.2 2, 16, .inl fE))] := by first | (simp [mhR, mhH, pk_us, upd_upd, upd_id, upd_idv, c_18, c_42, c_46, c_58, c_76]; done) | (simp_all [mhR, mhH, pk_us, upd_upd, upd_id, upd_idv]; done)
            rw [← hw9] at hP hD
            have hq9 : (.int (mhR (fK k) (fC k) (fE k) cs)) = (.int 0 : Value) := by first | (simp [mhR, mhH, pk_us, upd_upd, upd_id, upd_idv, c_18, c_42, c_46, c_58, c_76]; done) | (simp_all [mhR, mhH, pk_us, upd_upd, upd_id, upd_idv]; done)
            exact W.zret (v := 0) hx hb hr rfl (fun t ht hW => ⟨⟨by rw [hq9], by rw [ht]; exact hP, by rw [hAe]; exact hD⟩, by rw [hAe]; exact hS.F ht⟩) hS.2.2 d_MOD_hasChance_84
          · refine lv_iconst (v := 1) hx hb d_MOD_hasChance_79 (by decide) ?_
            refine lv_goto (tgt := 84) hx hb d_MOD_hasChance_80 (by decide) ?_
            have hw9 : ([(z0, .inr (6, [.int cdv, .int (nI nM), .ref z1, .ref z2, .ref z3, .ref z4, .ref z5, .ref z6, .int (nI nC), .ref z7, .ref z8, .ref z9, .ref z10, .ref z11, .ref z12, .ref z13, .ref z14, .ref z15, .ref z16, .int cyc, .int li, .long me, .long mi, .int (nI sn), .ref z17])), (z1, .inl (G.2 2, 16, .inl fK)), (z2, .inl (G.2 2, 16, .inl fC)), (z5, .inl (G.2 2, 16, .inl (upd fE k (mhH (fK k) (fC k) (fE k) cs))))] : va_W) = [(z0, .inr (6, [.int cdv, .int (nI nM), .ref z1, .ref z2, .ref z3, .ref z4, .ref z5, .ref z6, .int (nI nC), .ref z7, .ref z8, .ref z9, .ref z10, .ref z11, .ref z12, .ref z13, .ref z14, .ref z15, .ref z16, .int cyc, .int li, .long me, .long mi, .int (nI sn), .ref z17])), (z1, .inl (G.2 2, 16, .inl fK)), (z2, .inl (G.2 2, 16, .inl fC)), (z5, .inl (G.2 2, 16, .inl fE))] := by first | (simp [mhR, mhH, pk_us, upd_upd, upd_id, upd_idv, c_18, c_42, c_46, c_58, c_76]; done) | (simp_all [mhR, mhH, pk_us, upd_upd, upd_id, upd_idv]; done)
            rw [← hw9] at hP hD
            have hq9 : (.int (mhR (fK k) (fC k) (fE k) cs)) = (.int 1 : Value) := by first | (simp [mhR, mhH, pk_us, upd_upd, upd_id, upd_idv, c_18, c_42, c_46, c_58, c_76]; done) | (simp_all [mhR, mhH, pk_us, upd_upd, upd_id, upd_idv]; done)
            exact W.zret (v := 1) hx hb hr rfl (fun t ht hW => ⟨⟨by rw [hq9], by rw [ht]; exact hP, by rw [hAe]; exact hD⟩, by rw [hAe]; exact hS.F ht⟩) hS.2.2 d_MOD_hasChance_84
        · refine lv_iconst (v := 0) hx hb d_MOD_hasChance_61 (by decide) ?_
          refine lv_goto (tgt := 73) hx hb d_MOD_hasChance_62 (by decide) ?_
          refine bx_callV (W.runS (As := [.int cs, .int 0]) (rest := []) ⟨hx, hb, hml, hown, hts⟩ (c_mholds l G cs 0) ⟨(callB_of 2 hts (gi_all wd_685) rfl rfl rfl (hT _ wd_51) (hT _ wd_683) (by decide +kernel) ⟨Nat.le_of_ble_eq_true rfl, Nat.le_of_ble_eq_true rfl⟩), (hT _ wd_684)⟩ (psR bx_nil hGK) rfl rfl hl.1 rfl (lv_room (Nat.le_of_ble_eq_true rfl)) d_MOD_hasChance_73 ⟨Nat.le_of_ble_eq_true rfl, Nat.le_of_ble_eq_true rfl⟩) ?_
          refine lv_if_eq (tgt := 83) hx hb d_MOD_hasChance_76 (by decide) (fun c_76 => ?_) (fun c_76 => ?_)
          · refine lv_iconst (v := 0) hx hb d_MOD_hasChance_83 (by decide) ?_
            have hw9 : ([(z0, .inr (6, [.int cdv, .int (nI nM), .ref z1, .ref z2, .ref z3, .ref z4, .ref z5, .ref z6, .int (nI nC), .ref z7, .ref z8, .ref z9, .ref z10, .ref z11, .ref z12, .ref z13, .ref z14, .ref z15, .ref z16, .int cyc, .int li, .long me, .long mi, .int (nI sn), .ref z17])), (z1, .inl (G.2 2, 16, .inl fK)), (z2, .inl (G.2 2, 16, .inl fC)), (z5, .inl (G.2 2, 16, .inl (upd fE k (mhH (fK k) (fC k) (fE k) cs))))] : va_W) = [(z0, .inr (6, [.int cdv, .int (nI nM), .ref z1, .ref z2, .ref z3, .ref z4, .ref z5, .ref z6, .int (nI nC), .ref z7, .ref z8, .ref z9, .ref z10, .ref z11, .ref z12, .ref z13, .ref z14, .ref z15, .ref z16, .int cyc, .int li, .long me, .long mi, .int (nI sn), .ref z17])), (z1, .inl (G.2 2, 16, .inl fK)), (z2, .inl (G.2 2, 16, .inl fC)), (z5, .inl (G.2 2, 16, .inl fE))] := by first | (simp [mhR, mhH, pk_us, upd_upd, upd_id, upd_idv, c_18, c_42, c_46, c_58, c_76]; done) | (simp_all [mhR, mhH, pk_us, upd_upd, upd_id, upd_idv]; done)
            rw [← hw9] at hP hD
            have hq9 : (.int (mhR (fK k) (fC k) (fE k) cs)) = (.int 0 : Value) := by first | (simp [mhR, mhH, pk_us, upd_upd, upd_id, upd_idv, c_18, c_42, c_46, c_58, c_76]; done) | (simp_all [mhR, mhH, pk_us, upd_upd, upd_id, upd_idv]; done)
            exact W.zret (v := 0) hx hb hr rfl (fun t ht hW => ⟨⟨by rw [hq9], by rw [ht]; exact hP, by rw [hAe]; exact hD⟩, by rw [hAe]; exact hS.F ht⟩) hS.2.2 d_MOD_hasChance_84
          · refine lv_iconst (v := 1) hx hb d_MOD_hasChance_79 (by decide) ?_
            refine lv_goto (tgt := 84) hx hb d_MOD_hasChance_80 (by decide) ?_
            have hw9 : ([(z0, .inr (6, [.int cdv, .int (nI nM), .ref z1, .ref z2, .ref z3, .ref z4, .ref z5, .ref z6, .int (nI nC), .ref z7, .ref z8, .ref z9, .ref z10, .ref z11, .ref z12, .ref z13, .ref z14, .ref z15, .ref z16, .int cyc, .int li, .long me, .long mi, .int (nI sn), .ref z17])), (z1, .inl (G.2 2, 16, .inl fK)), (z2, .inl (G.2 2, 16, .inl fC)), (z5, .inl (G.2 2, 16, .inl (upd fE k (mhH (fK k) (fC k) (fE k) cs))))] : va_W) = [(z0, .inr (6, [.int cdv, .int (nI nM), .ref z1, .ref z2, .ref z3, .ref z4, .ref z5, .ref z6, .int (nI nC), .ref z7, .ref z8, .ref z9, .ref z10, .ref z11, .ref z12, .ref z13, .ref z14, .ref z15, .ref z16, .int cyc, .int li, .long me, .long mi, .int (nI sn), .ref z17])), (z1, .inl (G.2 2, 16, .inl fK)), (z2, .inl (G.2 2, 16, .inl fC)), (z5, .inl (G.2 2, 16, .inl fE))] := by first | (simp [mhR, mhH, pk_us, upd_upd, upd_id, upd_idv, c_18, c_42, c_46, c_58, c_76]; done) | (simp_all [mhR, mhH, pk_us, upd_upd, upd_id, upd_idv]; done)
            rw [← hw9] at hP hD
            have hq9 : (.int (mhR (fK k) (fC k) (fE k) cs)) = (.int 1 : Value) := by first | (simp [mhR, mhH, pk_us, upd_upd, upd_id, upd_idv, c_18, c_42, c_46, c_58, c_76]; done) | (simp_all [mhR, mhH, pk_us, upd_upd, upd_id, upd_idv]; done)
            exact W.zret (v := 1) hx hb hr rfl (fun t ht hW => ⟨⟨by rw [hq9], by rw [ht]; exact hP, by rw [hAe]; exact hD⟩, by rw [hAe]; exact hS.F ht⟩) hS.2.2 d_MOD_hasChance_84
  · refine lv_iload_n hx hb d_MOD_hasChance_21 rfl (lv_at hl 0 rfl) ?_
    refine lv_if_eq (tgt := 35) hx hb d_MOD_hasChance_22 (by decide) (fun c_22 => ?_) (fun c_22 => ?_)
    · refine lv_aload_n hx hb d_MOD_hasChance_35 rfl (lv_at hl 1 rfl) ?_
      refine va_get (D := G.1) (ci := 6) (v := .ref z1) (C := R_MOD) (T := T_MOD) (N := 25) hx hb hT in_MOD hown hK hP 0 rfl rfl 2 (by decide) (hT _ wd_584) (fun _ h9 => h9) rfl d_MOD_hasChance_36 ?_
      refine lv_iload_n hx hb d_MOD_hasChance_39 rfl (lv_at hl 2 rfl) ?_
      refine va_iald hx hb hK hP 1 2 rfl rfl (vp_in_nI (by omega) (by omega)) d_MOD_hasChance_40 ?_
      refine W.eq (g2 := F0 m 41 ls (.int (fK k) :: [])) (by rw [nI_clamp (by omega)]) ?_
      refine lv_iconst (v := 1) hx hb d_MOD_hasChance_41 (by decide) ?_
      refine lv_icmp_ne (tgt := 85) hx hb d_MOD_hasChance_42 (by decide) (fun c_42 => ?_) (fun c_42 => ?_)
      · refine lv_aload_n hx hb d_MOD_hasChance_85 rfl (lv_at hl 1 rfl) ?_
        refine va_get (D := G.1) (ci := 6) (v := .ref z1) (C := R_MOD) (T := T_MOD) (N := 25) hx hb hT in_MOD hown hK hP 0 rfl rfl 2 (by decide) (hT _ wd_584) (fun _ h9 => h9) rfl d_MOD_hasChance_86 ?_
        refine lv_iload_n hx hb d_MOD_hasChance_89 rfl (lv_at hl 2 rfl) ?_
        refine va_iald hx hb hK hP 1 2 rfl rfl (vp_in_nI (by omega) (by omega)) d_MOD_hasChance_90 ?_
        refine W.eq (g2 := F0 m 91 ls (.int (fK k) :: [])) (by rw [nI_clamp (by omega)]) ?_
        refine lv_if_ne (tgt := 98) hx hb d_MOD_hasChance_91 (by decide) (fun c_91 => ?_) (fun c_91 => ?_)
        · refine lv_aload_n hx hb d_MOD_hasChance_98 rfl (lv_at hl 1 rfl) ?_
          refine va_get (D := G.1) (ci := 6) (v := .ref z1) (C := R_MOD) (T := T_MOD) (N := 25) hx hb hT in_MOD hown hK hP 0 rfl rfl 2 (by decide) (hT _ wd_584) (fun _ h9 => h9) rfl d_MOD_hasChance_99 ?_
          refine lv_iload_n hx hb d_MOD_hasChance_102 rfl (lv_at hl 2 rfl) ?_
          refine va_iald hx hb hK hP 1 2 rfl rfl (vp_in_nI (by omega) (by omega)) d_MOD_hasChance_103 ?_
          refine W.eq (g2 := F0 m 104 ls (.int (fK k) :: [])) (by rw [nI_clamp (by omega)]) ?_
          refine lv_iconst (v := 2) hx hb d_MOD_hasChance_104 (by decide) ?_
          refine lv_icmp_ne (tgt := 131) hx hb d_MOD_hasChance_105 (by decide) (fun c_105 => ?_) (fun c_105 => ?_)
          · exact absurd c_18 c_105
          · refine lv_iload_n hx hb d_MOD_hasChance_108 rfl (lv_at hl 0 rfl) ?_
            refine lv_if_eq (tgt := 127) hx hb d_MOD_hasChance_109 (by decide) (fun c_109 => ?_) (fun c_109 => ?_)
            · refine lv_iconst (v := 0) hx hb d_MOD_hasChance_127 (by decide) ?_
              refine lv_goto (tgt := 140) hx hb d_MOD_hasChance_128 (by decide) ?_
              have hw9 : ([(z0, .inr (6, [.int cdv, .int (nI nM), .ref z1, .ref z2, .ref z3, .ref z4, .ref z5, .ref z6, .int (nI nC), .ref z7, .ref z8, .ref z9, .ref z10, .ref z11, .ref z12, .ref z13, .ref z14, .ref z15, .ref z16, .int cyc, .int li, .long me, .long mi, .int (nI sn), .ref z17])), (z1, .inl (G.2 2, 16, .inl fK)), (z2, .inl (G.2 2, 16, .inl fC)), (z5, .inl (G.2 2, 16, .inl (upd fE k (mhH (fK k) (fC k) (fE k) cs))))] : va_W) = [(z0, .inr (6, [.int cdv, .int (nI nM), .ref z1, .ref z2, .ref z3, .ref z4, .ref z5, .ref z6, .int (nI nC), .ref z7, .ref z8, .ref z9, .ref z10, .ref z11, .ref z12, .ref z13, .ref z14, .ref z15, .ref z16, .int cyc, .int li, .long me, .long mi, .int (nI sn), .ref z17])), (z1, .inl (G.2 2, 16, .inl fK)), (z2, .inl (G.2 2, 16, .inl fC)), (z5, .inl (G.2 2, 16, .inl fE))] := by first | (simp [mhR, mhH, pk_us, upd_upd, upd_id, upd_idv, c_18, c_22, c_42, c_91, c_105, c_109]; done) | (simp_all [mhR, mhH, pk_us, upd_upd, upd_id, upd_idv]; done)
              rw [← hw9] at hP hD
              have hq9 : (.int (mhR (fK k) (fC k) (fE k) cs)) = (.int 0 : Value) := by first | (simp [mhR, mhH, pk_us, upd_upd, upd_id, upd_idv, c_18, c_22, c_42, c_91, c_105, c_109]; done) | (simp_all [mhR, mhH, pk_us, upd_upd, upd_id, upd_idv]; done)
              exact W.zret (v := 0) hx hb hr rfl (fun t ht hW => ⟨⟨by rw [hq9], by rw [ht]; exact hP, by rw [hAe]; exact hD⟩, by rw [hAe]; exact hS.F ht⟩) hS.2.2 d_MOD_hasChance_140
            · exact absurd c_22 c_109
        · exact absurd (c_18.symm.trans c_91) (by decide)
      · exact absurd (c_18.symm.trans c_42) (by decide)
    · refine lv_aload_n hx hb d_MOD_hasChance_25 rfl (lv_at hl 1 rfl) ?_
      refine va_get (D := G.1) (ci := 6) (v := .ref z5) (C := R_MOD) (T := T_MOD) (N := 25) hx hb hT in_MOD hown hK hP 0 rfl rfl 6 (by decide) (hT _ wd_588) (fun _ h9 => h9) rfl d_MOD_hasChance_26 ?_
      refine lv_iload_n hx hb d_MOD_hasChance_29 rfl (lv_at hl 2 rfl) ?_
      refine lv_dup2_11 hx hb d_MOD_hasChance_30 rfl rfl ?_
      refine va_iald hx hb hK hP 3 2 rfl rfl (vp_in_nI (by omega) (by omega)) d_MOD_hasChance_31 ?_
      refine W.eq (g2 := F0 m 32 ls (.int (fE k) :: [.int (nI k), .ref z5])) (by rw [nI_clamp (by omega)]) ?_
      refine lv_iconst (v := 1) hx hb d_MOD_hasChance_32 (by decide) ?_
      refine lv_iadd hx hb d_MOD_hasChance_33 ?_
      refine va_iast hx hb hK hP hD hS 3 2 rfl rfl (vp_in_nI (by omega) (by omega)) d_MOD_hasChance_34 (fun H locs hP hD hS => ?_)
      rw [nI_clamp (by omega)] at hP hD
      have hP : va_P G.1 vwCl [(z0, .inr (6, [.int cdv, .int (nI nM), .ref z1, .ref z2, .ref z3, .ref z4, .ref z5, .ref z6, .int (nI nC), .ref z7, .ref z8, .ref z9, .ref z10, .ref z11, .ref z12, .ref z13, .ref z14, .ref z15, .ref z16, .int cyc, .int li, .long me, .long mi, .int (nI sn), .ref z17])), (z1, .inl (G.2 2, 16, .inl fK)), (z2, .inl (G.2 2, 16, .inl fC)), (z5, .inl (G.2 2, 16, .inl (upd fE k ((fE k) + 1))))] H := hP
      have hD : va_D A [(z0, .inr (6, [.int cdv, .int (nI nM), .ref z1, .ref z2, .ref z3, .ref z4, .ref z5, .ref z6, .int (nI nC), .ref z7, .ref z8, .ref z9, .ref z10, .ref z11, .ref z12, .ref z13, .ref z14, .ref z15, .ref z16, .int cyc, .int li, .long me, .long mi, .int (nI sn), .ref z17])), (z1, .inl (G.2 2, 16, .inl fK)), (z2, .inl (G.2 2, 16, .inl fC)), (z5, .inl (G.2 2, 16, .inl (upd fE k ((fE k) + 1))))] := hD
      refine lv_aload_n hx hb d_MOD_hasChance_35 rfl (lv_at hl 1 rfl) ?_
      refine va_get (D := G.1) (ci := 6) (v := .ref z1) (C := R_MOD) (T := T_MOD) (N := 25) hx hb hT in_MOD hown hK hP 0 rfl rfl 2 (by decide) (hT _ wd_584) (fun _ h9 => h9) rfl d_MOD_hasChance_36 ?_
      refine lv_iload_n hx hb d_MOD_hasChance_39 rfl (lv_at hl 2 rfl) ?_
      refine va_iald hx hb hK hP 1 2 rfl rfl (vp_in_nI (by omega) (by omega)) d_MOD_hasChance_40 ?_
      refine W.eq (g2 := F0 m 41 ls (.int (fK k) :: [])) (by rw [nI_clamp (by omega)]) ?_
      refine lv_iconst (v := 1) hx hb d_MOD_hasChance_41 (by decide) ?_
      refine lv_icmp_ne (tgt := 85) hx hb d_MOD_hasChance_42 (by decide) (fun c_42 => ?_) (fun c_42 => ?_)
      · refine lv_aload_n hx hb d_MOD_hasChance_85 rfl (lv_at hl 1 rfl) ?_
        refine va_get (D := G.1) (ci := 6) (v := .ref z1) (C := R_MOD) (T := T_MOD) (N := 25) hx hb hT in_MOD hown hK hP 0 rfl rfl 2 (by decide) (hT _ wd_584) (fun _ h9 => h9) rfl d_MOD_hasChance_86 ?_
        refine lv_iload_n hx hb d_MOD_hasChance_89 rfl (lv_at hl 2 rfl) ?_
        refine va_iald hx hb hK hP 1 2 rfl rfl (vp_in_nI (by omega) (by omega)) d_MOD_hasChance_90 ?_
        refine W.eq (g2 := F0 m 91 ls (.int (fK k) :: [])) (by rw [nI_clamp (by omega)]) ?_
        refine lv_if_ne (tgt := 98) hx hb d_MOD_hasChance_91 (by decide) (fun c_91 => ?_) (fun c_91 => ?_)
        · refine lv_aload_n hx hb d_MOD_hasChance_98 rfl (lv_at hl 1 rfl) ?_
          refine va_get (D := G.1) (ci := 6) (v := .ref z1) (C := R_MOD) (T := T_MOD) (N := 25) hx hb hT in_MOD hown hK hP 0 rfl rfl 2 (by decide) (hT _ wd_584) (fun _ h9 => h9) rfl d_MOD_hasChance_99 ?_
          refine lv_iload_n hx hb d_MOD_hasChance_102 rfl (lv_at hl 2 rfl) ?_
          refine va_iald hx hb hK hP 1 2 rfl rfl (vp_in_nI (by omega) (by omega)) d_MOD_hasChance_103 ?_
          refine W.eq (g2 := F0 m 104 ls (.int (fK k) :: [])) (by rw [nI_clamp (by omega)]) ?_
          refine lv_iconst (v := 2) hx hb d_MOD_hasChance_104 (by decide) ?_
          refine lv_icmp_ne (tgt := 131) hx hb d_MOD_hasChance_105 (by decide) (fun c_105 => ?_) (fun c_105 => ?_)
          · exact absurd c_18 c_105
          · refine lv_iload_n hx hb d_MOD_hasChance_108 rfl (lv_at hl 0 rfl) ?_
            refine lv_if_eq (tgt := 127) hx hb d_MOD_hasChance_109 (by decide) (fun c_109 => ?_) (fun c_109 => ?_)
            · exact absurd c_109 c_22
            · refine lv_aload_n hx hb d_MOD_hasChance_112 rfl (lv_at hl 1 rfl) ?_
              refine va_get (D := G.1) (ci := 6) (v := .ref z5) (C := R_MOD) (T := T_MOD) (N := 25) hx hb hT in_MOD hown hK hP 0 rfl rfl 6 (by decide) (hT _ wd_588) (fun _ h9 => h9) rfl d_MOD_hasChance_113 ?_
              refine lv_iload_n hx hb d_MOD_hasChance_116 rfl (lv_at hl 2 rfl) ?_
              refine va_iald hx hb hK hP 3 2 rfl rfl (vp_in_nI (by omega) (by omega)) d_MOD_hasChance_117 ?_
              refine W.eq (g2 := F0 m 118 ls (.int ((fE k) + 1) :: [])) (by rw [nI_clamp (by omega), pk_us]) ?_
              refine lv_iconst (v := 2) hx hb d_MOD_hasChance_118 (by decide) ?_
              refine lv_irem hx hb d_MOD_hasChance_119 (by decide) ?_
              refine lv_if_ne (tgt := 127) hx hb d_MOD_hasChance_120 (by decide) (fun c_120 => ?_) (fun c_120 => ?_)
              · refine lv_iconst (v := 0) hx hb d_MOD_hasChance_127 (by decide) ?_
                refine lv_goto (tgt := 140) hx hb d_MOD_hasChance_128 (by decide) ?_
                have hw9 : ([(z0, .inr (6, [.int cdv, .int (nI nM), .ref z1, .ref z2, .ref z3, .ref z4, .ref z5, .ref z6, .int (nI nC), .ref z7, .ref z8, .ref z9, .ref z10, .ref z11, .ref z12, .ref z13, .ref z14, .ref z15, .ref z16, .int cyc, .int li, .long me, .long mi, .int (nI sn), .ref z17])), (z1, .inl (G.2 2, 16, .inl fK)), (z2, .inl (G.2 2, 16, .inl fC)), (z5, .inl (G.2 2, 16, .inl (upd fE k (mhH (fK k) (fC k) (fE k) cs))))] : va_W) = [(z0, .inr (6, [.int cdv, .int (nI nM), .ref z1, .ref z2, .ref z3, .ref z4, .ref z5, .ref z6, .int (nI nC), .ref z7, .ref z8, .ref z9, .ref z10, .ref z11, .ref z12, .ref z13, .ref z14, .ref z15, .ref z16, .int cyc, .int li, .long me, .long mi, .int (nI sn), .ref z17])), (z1, .inl (G.2 2, 16, .inl fK)), (z2, .inl (G.2 2, 16, .inl fC)), (z5, .inl (G.2 2, 16, .inl (upd fE k ((fE k) + 1))))] := by first | (simp [mhR, mhH, pk_us, upd_upd, upd_id, upd_idv, c_18, c_22, c_42, c_91, c_105, c_109, c_120]; done) | (simp_all [mhR, mhH, pk_us, upd_upd, upd_id, upd_idv]; done)
                rw [← hw9] at hP hD
                have hq9 : (.int (mhR (fK k) (fC k) (fE k) cs)) = (.int 0 : Value) := by first | (simp [mhR, mhH, pk_us, upd_upd, upd_id, upd_idv, c_18, c_22, c_42, c_91, c_105, c_109, c_120]; done) | (simp_all [mhR, mhH, pk_us, upd_upd, upd_id, upd_idv]; done)
                exact W.zret (v := 0) hx hb hr rfl (fun t ht hW => ⟨⟨by rw [hq9], by rw [ht]; exact hP, by rw [hAe]; exact hD⟩, by rw [hAe]; exact hS.F ht⟩) hS.2.2 d_MOD_hasChance_140
              · refine lv_iconst (v := 1) hx hb d_MOD_hasChance_123 (by decide) ?_
                refine lv_goto (tgt := 140) hx hb d_MOD_hasChance_124 (by decide) ?_
                have hw9 : ([(z0, .inr (6, [.int cdv, .int (nI nM), .ref z1, .ref z2, .ref z3, .ref z4, .ref z5, .ref z6, .int (nI nC), .ref z7, .ref z8, .ref z9, .ref z10, .ref z11, .ref z12, .ref z13, .ref z14, .ref z15, .ref z16, .int cyc, .int li, .long me, .long mi, .int (nI sn), .ref z17])), (z1, .inl (G.2 2, 16, .inl fK)), (z2, .inl (G.2 2, 16, .inl fC)), (z5, .inl (G.2 2, 16, .inl (upd fE k (mhH (fK k) (fC k) (fE k) cs))))] : va_W) = [(z0, .inr (6, [.int cdv, .int (nI nM), .ref z1, .ref z2, .ref z3, .ref z4, .ref z5, .ref z6, .int (nI nC), .ref z7, .ref z8, .ref z9, .ref z10, .ref z11, .ref z12, .ref z13, .ref z14, .ref z15, .ref z16, .int cyc, .int li, .long me, .long mi, .int (nI sn), .ref z17])), (z1, .inl (G.2 2, 16, .inl fK)), (z2, .inl (G.2 2, 16, .inl fC)), (z5, .inl (G.2 2, 16, .inl (upd fE k ((fE k) + 1))))] := by first | (simp [mhR, mhH, pk_us, upd_upd, upd_id, upd_idv, c_18, c_22, c_42, c_91, c_105, c_109, c_120]; done) | (simp_all [mhR, mhH, pk_us, upd_upd, upd_id, upd_idv]; done)
                rw [← hw9] at hP hD
                have hq9 : (.int (mhR (fK k) (fC k) (fE k) cs)) = (.int 1 : Value) := by first | (simp [mhR, mhH, pk_us, upd_upd, upd_id, upd_idv, c_18, c_22, c_42, c_91, c_105, c_109, c_120]; done) | (simp_all [mhR, mhH, pk_us, upd_upd, upd_id, upd_idv]; done)
                exact W.zret (v := 1) hx hb hr rfl (fun t ht hW => ⟨⟨by rw [hq9], by rw [ht]; exact hP, by rw [hAe]; exact hD⟩, by rw [hAe]; exact hS.F ht⟩) hS.2.2 d_MOD_hasChance_140
        · exact absurd (c_18.symm.trans c_91) (by decide)
      · exact absurd (c_18.symm.trans c_42) (by decide)
set_option maxHeartbeats 4000000 in
set_option maxRecDepth 100000 in
theorem c_mcount (l : Launch) (G : GG) (sz : Nat) (z0 : Nat) (z1 : Nat) (z2 : Nat) (z3 : Nat) (z4 : Nat) (z5 : Nat) (z6 : Nat) (z7 : Nat) (z8 : Nat) (z9 : Nat) (z10 : Nat) (z11 : Nat) (z12 : Nat) (z13 : Nat) (z14 : Nat) (z15 : Nat) (z16 : Nat) (z17 : Nat) (cdv : Int32) (cyc : Int32) (li : Int32) (nM : Nat) (nC : Nat) (sn : Nat) (me : Int64) (mi : Int64) (fR : Nat → Int32) (fH : Nat → Int32) (k : Nat) (tr : Int32) (hk : k < 16) : Met l y_MOD_count_1 w_MOD_count_1 ({ frames := 0, cells := 0, slots := 0, locals := 0 }) (va_Pc [.ref z0, .int (nI k), .int tr] (Pw G sz [(z0, .inr (6, [.int cdv, .int (nI nM), .ref z1, .ref z2, .ref z3, .ref z4, .ref z5, .ref z6, .int (nI nC), .ref z7, .ref z8, .ref z9, .ref z10, .ref z11, .ref z12, .ref z13, .ref z14, .ref z15, .ref z16, .int cyc, .int li, .long me, .long mi, .int (nI sn), .ref z17])), (z3, .inl (G.2 2, 16, .inl fR)), (z4, .inl (G.2 2, 16, .inl fH))])) (QW G none [(z0, .inr (6, [.int cdv, .int (nI nM), .ref z1, .ref z2, .ref z3, .ref z4, .ref z5, .ref z6, .int (nI nC), .ref z7, .ref z8, .ref z9, .ref z10, .ref z11, .ref z12, .ref z13, .ref z14, .ref z15, .ref z16, .int cyc, .int li, .long me, .long mi, .int (nI sn), .ref z17])), (z3, .inl (G.2 2, 16, .inl fR)), (z4, .inl (G.2 2, 16, .inl fH))] [(z0, .inr (6, [.int cdv, .int (nI nM), .ref z1, .ref z2, .ref z3, .ref z4, .ref z5, .ref z6, .int (nI nC), .ref z7, .ref z8, .ref z9, .ref z10, .ref z11, .ref z12, .ref z13, .ref z14, .ref z15, .ref z16, .int cyc, .int li, .long me, .long mi, .int (nI sn), .ref z17])), (z3, .inl (G.2 2, 16, .inl (upd fR k (mcR (fR k) (fH k) tr)))), (z4, .inl (G.2 2, 16, .inl (upd fH k (mcC (fH k)))))] sz) 0 0 (va_A [(z0, .inr (6, [.int cdv, .int (nI nM), .ref z1, .ref z2, .ref z3, .ref z4, .ref z5, .ref z6, .int (nI nC), .ref z7, .ref z8, .ref z9, .ref z10, .ref z11, .ref z12, .ref z13, .ref z14, .ref z15, .ref z16, .int cyc, .int li, .long me, .long mi, .int (nI sn), .ref z17])), (z3, .inl (G.2 2, 16, .inl fR)), (z4, .inl (G.2 2, 16, .inl fH))] sz) := by
  refine Met.ofW (cc := b_MOD_count_1) (maxL := 3) (ret := none) (by decide) rfl ?_
  intro p e s m args below meth c s₁ B hml hv
  obtain ⟨rfl, hsz, hP, hGK, hD0⟩ := hv
  have hx := B.exec
  have hb := B.bytes
  have hr := B.returns
  have hts := atoms_spec (ws := w_MOD_count_1) B.pre
  have hT : ∀ w ∈ lwG, w.before _ s = true := fun w h => hts w (List.mem_cons_of_mem _ h)
  have hown : s.vm.findClass R_MOD = some m.cls := findClass_of_methodNamed B.named
  have hlocks := B.notSynchronized
  have hK := hGK.1
  have hN := hGK.2
  subst hsz
  have hD := hD0.self (sz := s.heap.size)
  generalize hAe : va_A [(z0, .inr (6, [.int cdv, .int (nI nM), .ref z1, .ref z2, .ref z3, .ref z4, .ref z5, .ref z6, .int (nI nC), .ref z7, .ref z8, .ref z9, .ref z10, .ref z11, .ref z12, .ref z13, .ref z14, .ref z15, .ref z16, .int cyc, .int li, .long me, .long mi, .int (nI sn), .ref z17])), (z3, .inl (G.2 2, 16, .inl fR)), (z4, .inl (G.2 2, 16, .inl fH))] s.heap.size = A at hD ⊢
  have hA : ∀ q : Nat, s.heap.size ≤ q → A q := fun q h => by rw [← hAe]; exact Or.inr h
  have hS : va_S A s.heap s.heap [] := va_S.rf
  have hP : va_P G.1 vwCl [(z0, .inr (6, [.int cdv, .int (nI nM), .ref z1, .ref z2, .ref z3, .ref z4, .ref z5, .ref z6, .int (nI nC), .ref z7, .ref z8, .ref z9, .ref z10, .ref z11, .ref z12, .ref z13, .ref z14, .ref z15, .ref z16, .int cyc, .int li, .long me, .long mi, .int (nI sn), .ref z17])), (z3, .inl (G.2 2, 16, .inl fR)), (z4, .inl (G.2 2, 16, .inl fH))] s.heap := hP
  have hl := lv_entry ([.ref z0, .int (nI k), .int tr]) (n := 3) (Nat.le_of_ble_eq_true rfl)
  rw [lg_entry_eq]
  generalize (lg_sl ([.ref z0, .int (nI k), .int tr]) ++ List.replicate (3 - (lg_sl ([.ref z0, .int (nI k), .int tr])).length) Slot.unset).toArray = ls at hl ⊢
  have hl : lv_has ls 3 [(0, .ref z0), (1, .int (nI k)), (2, .int tr)] := hl
  refine lv_aload_n hx hb d_MOD_count_1_0 rfl (lv_at hl 0 rfl) ?_
  refine va_get (D := G.1) (ci := 6) (v := .ref z4) (C := R_MOD) (T := T_MOD) (N := 25) hx hb hT in_MOD hown hK hP 0 rfl rfl 5 (by decide) (hT _ wd_587) (fun _ h9 => h9) rfl d_MOD_count_1_1 ?_
  refine lv_iload_n hx hb d_MOD_count_1_4 rfl (lv_at hl 1 rfl) ?_
  refine va_iald hx hb hK hP 2 2 rfl rfl (vp_in_nI (by omega) (by omega)) d_MOD_count_1_5 ?_
  refine W.eq (g2 := F0 m 6 ls (.int (fH k) :: [])) (by rw [nI_clamp (by omega)]) ?_
  refine lv_bipush (v := 100) hx hb d_MOD_count_1_6 (by decide) ?_
  refine lv_icmp_ne (tgt := 39) hx hb d_MOD_count_1_8 (by decide) (fun c_8 => ?_) (fun c_8 => ?_)
  · refine lv_aload_n hx hb d_MOD_count_1_39 rfl (lv_at hl 0 rfl) ?_
    refine va_get (D := G.1) (ci := 6) (v := .ref z4) (C := R_MOD) (T := T_MOD) (N := 25) hx hb hT in_MOD hown hK hP 0 rfl rfl 5 (by decide) (hT _ wd_587) (fun _ h9 => h9) rfl d_MOD_count_1_40 ?_
    refine lv_iload_n hx hb d_MOD_count_1_43 rfl (lv_at hl 1 rfl) ?_
    refine lv_dup2_11 hx hb d_MOD_count_1_44 rfl rfl ?_
    refine va_iald hx hb hK hP 2 2 rfl rfl (vp_in_nI (by omega) (by omega)) d_MOD_count_1_45 ?_
    refine W.eq (g2 := F0 m 46 ls (.int (fH k) :: [.int (nI k), .ref z4])) (by rw [nI_clamp (by omega)]) ?_
    refine lv_iconst (v := 1) hx hb d_MOD_count_1_46 (by decide) ?_
    refine lv_iadd hx hb d_MOD_count_1_47 ?_
    refine va_iast hx hb hK hP hD hS 2 2 rfl rfl (vp_in_nI (by omega) (by omega)) d_MOD_count_1_48 (fun H locs hP hD hS => ?_)
    rw [nI_clamp (by omega)] at hP hD
    have hP : va_P G.1 vwCl [(z0, .inr (6, [.int cdv, .int (nI nM), .ref z1, .ref z2, .ref z3, .ref z4, .ref z5, .ref z6, .int (nI nC), .ref z7, .ref z8, .ref z9, .ref z10, .ref z11, .ref z12, .ref z13, .ref z14, .ref z15, .ref z16, .int cyc, .int li, .long me, .long mi, .int (nI sn), .ref z17])), (z3, .inl (G.2 2, 16, .inl fR)), (z4, .inl (G.2 2, 16, .inl (upd fH k ((fH k) + 1))))] H := hP
    have hD : va_D A [(z0, .inr (6, [.int cdv, .int (nI nM), .ref z1, .ref z2, .ref z3, .ref z4, .ref z5, .ref z6, .int (nI nC), .ref z7, .ref z8, .ref z9, .ref z10, .ref z11, .ref z12, .ref z13, .ref z14, .ref z15, .ref z16, .int cyc, .int li, .long me, .long mi, .int (nI sn), .ref z17])), (z3, .inl (G.2 2, 16, .inl fR)), (z4, .inl (G.2 2, 16, .inl (upd fH k ((fH k) + 1))))] := hD
    refine lv_aload_n hx hb d_MOD_count_1_49 rfl (lv_at hl 0 rfl) ?_
    refine va_get (D := G.1) (ci := 6) (v := .ref z3) (C := R_MOD) (T := T_MOD) (N := 25) hx hb hT in_MOD hown hK hP 0 rfl rfl 4 (by decide) (hT _ wd_586) (fun _ h9 => h9) rfl d_MOD_count_1_50 ?_
    refine lv_iload_n hx hb d_MOD_count_1_53 rfl (lv_at hl 1 rfl) ?_
    refine lv_dup2_11 hx hb d_MOD_count_1_54 rfl rfl ?_
    refine va_iald hx hb hK hP 1 2 rfl rfl (vp_in_nI (by omega) (by omega)) d_MOD_count_1_55 ?_
    refine W.eq (g2 := F0 m 56 ls (.int (fR k) :: [.int (nI k), .ref z3])) (by rw [nI_clamp (by omega)]) ?_
    refine lv_iload_n hx hb d_MOD_count_1_56 rfl (lv_at hl 2 rfl) ?_
    refine lv_if_eq (tgt := 64) hx hb d_MOD_count_1_57 (by decide) (fun c_57 => ?_) (fun c_57 => ?_)
    · refine lv_iconst (v := 0) hx hb d_MOD_count_1_64 (by decide) ?_
      refine lv_iadd hx hb d_MOD_count_1_65 ?_
      refine W.eq (g2 := F0 m 66 ls (.int (fR k) :: [.int (nI k), .ref z3])) (by rw [Int32.add_zero]) ?_
      refine va_iast hx hb hK hP hD hS 1 2 rfl rfl (vp_in_nI (by omega) (by omega)) d_MOD_count_1_66 (fun H locs hP hD hS => ?_)
      rw [nI_clamp (by omega)] at hP hD
      have hP : va_P G.1 vwCl [(z0, .inr (6, [.int cdv, .int (nI nM), .ref z1, .ref z2, .ref z3, .ref z4, .ref z5, .ref z6, .int (nI nC), .ref z7, .ref z8, .ref z9, .ref z10, .ref z11, .ref z12, .ref z13, .ref z14, .ref z15, .ref z16, .int cyc, .int li, .long me, .long mi, .int (nI sn), .ref z17])), (z3, .inl (G.2 2, 16, .inl (upd fR k (fR k)))), (z4, .inl (G.2 2, 16, .inl (upd fH k ((fH k) + 1))))] H := hP
      have hD : va_D A [(z0, .inr (6, [.int cdv, .int (nI nM), .ref z1, .ref z2, .ref z3, .ref z4, .ref z5, .ref z6, .int (nI nC), .ref z7, .ref z8, .ref z9, .ref z10, .ref z11, .ref z12, .ref z13, .ref z14, .ref z15, .ref z16, .int cyc, .int li, .long me, .long mi, .int (nI sn), .ref z17])), (z3, .inl (G.2 2, 16, .inl (upd fR k (fR k)))), (z4, .inl (G.2 2, 16, .inl (upd fH k ((fH k) + 1))))] := hD
      have hw9 : ([(z0, .inr (6, [.int cdv, .int (nI nM), .ref z1, .ref z2, .ref z3, .ref z4, .ref z5, .ref z6, .int (nI nC), .ref z7, .ref z8, .ref z9, .ref z10, .ref z11, .ref z12, .ref z13, .ref z14, .ref z15, .ref z16, .int cyc, .int li, .long me, .long mi, .int (nI sn), .ref z17])), (z3, .inl (G.2 2, 16, .inl (upd fR k (mcR (fR k) (fH k) tr)))), (z4, .inl (G.2 2, 16, .inl (upd fH k (mcC (fH k)))))] : va_W) = [(z0, .inr (6, [.int cdv, .int (nI nM), .ref z1, .ref z2, .ref z3, .ref z4, .ref z5, .ref z6, .int (nI nC), .ref z7, .ref z8, .ref z9, .ref z10, .ref z11, .ref z12, .ref z13, .ref z14, .ref z15, .ref z16, .int cyc, .int li, .long me, .long mi, .int (nI sn), .ref z17])), (z3, .inl (G.2 2, 16, .inl (upd fR k (fR k)))), (z4, .inl (G.2 2, 16, .inl (upd fH k ((fH k) + 1))))] := by first | (simp [mcR, mcC, pk_us, upd_upd, upd_id, upd_idv, c_8, c_57]; done) | (simp_all [mcR, mcC, pk_us, upd_upd, upd_id, upd_idv]; done)
      rw [← hw9] at hP hD
      exact W.vret hx hb hr (fun t ht hW => ⟨⟨rfl, by rw [ht]; exact hP, by rw [hAe]; exact hD⟩, by rw [hAe]; exact hS.F ht⟩) hS.2.2 d_MOD_count_1_67
    · refine lv_iconst (v := 1) hx hb d_MOD_count_1_60 (by decide) ?_
      refine lv_goto (tgt := 65) hx hb d_MOD_count_1_61 (by decide) ?_
      refine lv_iadd hx hb d_MOD_count_1_65 ?_
      refine va_iast hx hb hK hP hD hS 1 2 rfl rfl (vp_in_nI (by omega) (by omega)) d_MOD_count_1_66 (fun H locs hP hD hS => ?_)
      rw [nI_clamp (by omega)] at hP hD
      have hP : va_P G.1 vwCl [(z0, .inr (6, [.int cdv, .int (nI nM), .ref z1, .ref z2, .ref z3, .ref z4, .ref z5, .ref z6, .int (nI nC), .ref z7, .ref z8, .ref z9, .ref z10, .ref z11, .ref z12, .ref z13, .ref z14, .ref z15, .ref z16, .int cyc, .int li, .long me, .long mi, .int (nI sn), .ref z17])), (z3, .inl (G.2 2, 16, .inl (upd fR k ((fR k) + 1)))), (z4, .inl (G.2 2, 16, .inl (upd fH k ((fH k) + 1))))] H := hP
      have hD : va_D A [(z0, .inr (6, [.int cdv, .int (nI nM), .ref z1, .ref z2, .ref z3, .ref z4, .ref z5, .ref z6, .int (nI nC), .ref z7, .ref z8, .ref z9, .ref z10, .ref z11, .ref z12, .ref z13, .ref z14, .ref z15, .ref z16, .int cyc, .int li, .long me, .long mi, .int (nI sn), .ref z17])), (z3, .inl (G.2 2, 16, .inl (upd fR k ((fR k) + 1)))), (z4, .inl (G.2 2, 16, .inl (upd fH k ((fH k) + 1))))] := hD
      have hw9 : ([(z0, .inr (6, [.int cdv, .int (nI nM), .ref z1, .ref z2, .ref z3, .ref z4, .ref z5, .ref z6, .int (nI nC), .ref z7, .ref z8, .ref z9, .ref z10, .ref z11, .ref z12, .ref z13, .ref z14, .ref z15, .ref z16, .int cyc, .int li, .long me, .long mi, .int (nI sn), .ref z17])), (z3, .inl (G.2 2, 16, .inl (upd fR k (mcR (fR k) (fH k) tr)))), (z4, .inl (G.2 2, 16, .inl (upd fH k (mcC (fH k)))))] : va_W) = [(z0, .inr (6, [.int cdv, .int (nI nM), .ref z1, .ref z2, .ref z3, .ref z4, .ref z5, .ref z6, .int (nI nC), .ref z7, .ref z8, .ref z9, .ref z10, .ref z11, .ref z12, .ref z13, .ref z14, .ref z15, .ref z16, .int cyc, .int li, .long me, .long mi, .int (nI sn), .ref z17])), (z3, .inl (G.2 2, 16, .inl (upd fR k ((fR k) + 1)))), (z4, .inl (G.2 2, 16, .inl (upd fH k ((fH k) + 1))))] := by first | (simp [mcR, mcC, pk_us, upd_upd, upd_id, upd_idv, c_8, c_57]; done) | (simp_all [mcR, mcC, pk_us, upd_upd, upd_id, upd_idv]; done)
      rw [← hw9] at hP hD
      exact W.vret hx hb hr (fun t ht hW => ⟨⟨rfl, by rw [ht]; exact hP, by rw [hAe]; exact hD⟩, by rw [hAe]; exact hS.F ht⟩) hS.2.2 d_MOD_count_1_67
  · refine lv_aload_n hx hb d_MOD_count_1_11 rfl (lv_at hl 0 rfl) ?_
    refine va_get (D := G.1) (ci := 6) (v := .ref z4) (C := R_MOD) (T := T_MOD) (N := 25) hx hb hT in_MOD hown hK hP 0 rfl rfl 5 (by decide) (hT _ wd_587) (fun _ h9 => h9) rfl d_MOD_count_1_12 ?_
    refine lv_iload_n hx hb d_MOD_count_1_15 rfl (lv_at hl 1 rfl) ?_
    refine lv_aload_n hx hb d_MOD_count_1_16 rfl (lv_at hl 0 rfl) ?_
    refine va_get (D := G.1) (ci := 6) (v := .ref z4) (C := R_MOD) (T := T_MOD) (N := 25) hx hb hT in_MOD hown hK hP 0 rfl rfl 5 (by decide) (hT _ wd_587) (fun _ h9 => h9) rfl d_MOD_count_1_17 ?_
    refine lv_iload_n hx hb d_MOD_count_1_20 rfl (lv_at hl 1 rfl) ?_
    refine va_iald hx hb hK hP 2 2 rfl rfl (vp_in_nI (by omega) (by omega)) d_MOD_count_1_21 ?_
    refine W.eq (g2 := F0 m 22 ls (.int (fH k) :: [.int (nI k), .ref z4])) (by rw [nI_clamp (by omega)]) ?_
    refine lv_iconst (v := 2) hx hb d_MOD_count_1_22 (by decide) ?_
    refine lv_idiv hx hb d_MOD_count_1_23 (by decide) ?_
    refine va_iast hx hb hK hP hD hS 2 2 rfl rfl (vp_in_nI (by omega) (by omega)) d_MOD_count_1_24 (fun H locs hP hD hS => ?_)
    rw [nI_clamp (by omega)] at hP hD
    have hP : va_P G.1 vwCl [(z0, .inr (6, [.int cdv, .int (nI nM), .ref z1, .ref z2, .ref z3, .ref z4, .ref z5, .ref z6, .int (nI nC), .ref z7, .ref z8, .ref z9, .ref z10, .ref z11, .ref z12, .ref z13, .ref z14, .ref z15, .ref z16, .int cyc, .int li, .long me, .long mi, .int (nI sn), .ref z17])), (z3, .inl (G.2 2, 16, .inl fR)), (z4, .inl (G.2 2, 16, .inl (upd fH k ((fH k) / 2))))] H := hP
    have hD : va_D A [(z0, .inr (6, [.int cdv, .int (nI nM), .ref z1, .ref z2, .ref z3, .ref z4, .ref z5, .ref z6, .int (nI nC), .ref z7, .ref z8, .ref z9, .ref z10, .ref z11, .ref z12, .ref z13, .ref z14, .ref z15, .ref z16, .int cyc, .int li, .long me, .long mi, .int (nI sn), .ref z17])), (z3, .inl (G.2 2, 16, .inl fR)), (z4, .inl (G.2 2, 16, .inl (upd fH k ((fH k) / 2))))] := hD
    refine lv_aload_n hx hb d_MOD_count_1_25 rfl (lv_at hl 0 rfl) ?_
    refine va_get (D := G.1) (ci := 6) (v := .ref z3) (C := R_MOD) (T := T_MOD) (N := 25) hx hb hT in_MOD hown hK hP 0 rfl rfl 4 (by decide) (hT _ wd_586) (fun _ h9 => h9) rfl d_MOD_count_1_26 ?_
    refine lv_iload_n hx hb d_MOD_count_1_29 rfl (lv_at hl 1 rfl) ?_
    refine lv_aload_n hx hb d_MOD_count_1_30 rfl (lv_at hl 0 rfl) ?_
    refine va_get (D := G.1) (ci := 6) (v := .ref z3) (C := R_MOD) (T := T_MOD) (N := 25) hx hb hT in_MOD hown hK hP 0 rfl rfl 4 (by decide) (hT _ wd_586) (fun _ h9 => h9) rfl d_MOD_count_1_31 ?_
    refine lv_iload_n hx hb d_MOD_count_1_34 rfl (lv_at hl 1 rfl) ?_
    refine va_iald hx hb hK hP 1 2 rfl rfl (vp_in_nI (by omega) (by omega)) d_MOD_count_1_35 ?_
    refine W.eq (g2 := F0 m 36 ls (.int (fR k) :: [.int (nI k), .ref z3])) (by rw [nI_clamp (by omega)]) ?_
    refine lv_iconst (v := 2) hx hb d_MOD_count_1_36 (by decide) ?_
    refine lv_idiv hx hb d_MOD_count_1_37 (by decide) ?_
    refine va_iast hx hb hK hP hD hS 1 2 rfl rfl (vp_in_nI (by omega) (by omega)) d_MOD_count_1_38 (fun H locs hP hD hS => ?_)
    rw [nI_clamp (by omega)] at hP hD
    have hP : va_P G.1 vwCl [(z0, .inr (6, [.int cdv, .int (nI nM), .ref z1, .ref z2, .ref z3, .ref z4, .ref z5, .ref z6, .int (nI nC), .ref z7, .ref z8, .ref z9, .ref z10, .ref z11, .ref z12, .ref z13, .ref z14, .ref z15, .ref z16, .int cyc, .int li, .long me, .long mi, .int (nI sn), .ref z17])), (z3, .inl (G.2 2, 16, .inl (upd fR k ((fR k) / 2)))), (z4, .inl (G.2 2, 16, .inl (upd fH k ((fH k) / 2))))] H := hP
    have hD : va_D A [(z0, .inr (6, [.int cdv, .int (nI nM), .ref z1, .ref z2, .ref z3, .ref z4, .ref z5, .ref z6, .int (nI nC), .ref z7, .ref z8, .ref z9, .ref z10, .ref z11, .ref z12, .ref z13, .ref z14, .ref z15, .ref z16, .int cyc, .int li, .long me, .long mi, .int (nI sn), .ref z17])), (z3, .inl (G.2 2, 16, .inl (upd fR k ((fR k) / 2)))), (z4, .inl (G.2 2, 16, .inl (upd fH k ((fH k) / 2))))] := hD
    refine lv_aload_n hx hb d_MOD_count_1_39 rfl (lv_at hl 0 rfl) ?_
    refine va_get (D := G.1) (ci := 6) (v := .ref z4) (C := R_MOD) (T := T_MOD) (N := 25) hx hb hT in_MOD hown hK hP 0 rfl rfl 5 (by decide) (hT _ wd_587) (fun _ h9 => h9) rfl d_MOD_count_1_40 ?_
    refine lv_iload_n hx hb d_MOD_count_1_43 rfl (lv_at hl 1 rfl) ?_
    refine lv_dup2_11 hx hb d_MOD_count_1_44 rfl rfl ?_
    refine va_iald hx hb hK hP 2 2 rfl rfl (vp_in_nI (by omega) (by omega)) d_MOD_count_1_45 ?_
    refine W.eq (g2 := F0 m 46 ls (.int ((fH k) / 2) :: [.int (nI k), .ref z4])) (by rw [nI_clamp (by omega), pk_us]) ?_
    refine lv_iconst (v := 1) hx hb d_MOD_count_1_46 (by decide) ?_
    refine lv_iadd hx hb d_MOD_count_1_47 ?_
    refine va_iast hx hb hK hP hD hS 2 2 rfl rfl (vp_in_nI (by omega) (by omega)) d_MOD_count_1_48 (fun H locs hP hD hS => ?_)
    rw [nI_clamp (by omega)] at hP hD
    have hP : va_P G.1 vwCl [(z0, .inr (6, [.int cdv, .int (nI nM), .ref z1, .ref z2, .ref z3, .ref z4, .ref z5, .ref z6, .int (nI nC), .ref z7, .ref z8, .ref z9, .ref z10, .ref z11, .ref z12, .ref z13, .ref z14, .ref z15, .ref z16, .int cyc, .int li, .long me, .long mi, .int (nI sn), .ref z17])), (z3, .inl (G.2 2, 16, .inl (upd fR k ((fR k) / 2)))), (z4, .inl (G.2 2, 16, .inl (upd (upd fH k ((fH k) / 2)) k (((fH k) / 2) + 1))))] H := hP
    have hD : va_D A [(z0, .inr (6, [.int cdv, .int (nI nM), .ref z1, .ref z2, .ref z3, .ref z4, .ref z5, .ref z6, .int (nI nC), .ref z7, .ref z8, .ref z9, .ref z10, .ref z11, .ref z12, .ref z13, .ref z14, .ref z15, .ref z16, .int cyc, .int li, .long me, .long mi, .int (nI sn), .ref z17])), (z3, .inl (G.2 2, 16, .inl (upd fR k ((fR k) / 2)))), (z4, .inl (G.2 2, 16, .inl (upd (upd fH k ((fH k) / 2)) k (((fH k) / 2) + 1))))] := hD
    refine lv_aload_n hx hb d_MOD_count_1_49 rfl (lv_at hl 0 rfl) ?_
    refine va_get (D := G.1) (ci := 6) (v := .ref z3) (C := R_MOD) (T := T_MOD) (N := 25) hx hb hT in_MOD hown hK hP 0 rfl rfl 4 (by decide) (hT _ wd_586) (fun _ h9 => h9) rfl d_MOD_count_1_50 ?_
    refine lv_iload_n hx hb d_MOD_count_1_53 rfl (lv_at hl 1 rfl) ?_
    refine lv_dup2_11 hx hb d_MOD_count_1_54 rfl rfl ?_
    refine va_iald hx hb hK hP 1 2 rfl rfl (vp_in_nI (by omega) (by omega)) d_MOD_count_1_55 ?_
    refine W.eq (g2 := F0 m 56 ls (.int ((fR k) / 2) :: [.int (nI k), .ref z3])) (by rw [nI_clamp (by omega), pk_us]) ?_
    refine lv_iload_n hx hb d_MOD_count_1_56 rfl (lv_at hl 2 rfl) ?_
    refine lv_if_eq (tgt := 64) hx hb d_MOD_count_1_57 (by decide) (fun c_57 => ?_) (fun c_57 => ?_)
    · refine lv_iconst (v := 0) hx hb d_MOD_count_1_64 (by decide) ?_
      refine lv_iadd hx hb d_MOD_count_1_65 ?_
      refine W.eq (g2 := F0 m 66 ls (.int ((fR k) / 2) :: [.int (nI k), .ref z3])) (by rw [Int32.add_zero]) ?_
      refine va_iast hx hb hK hP hD hS 1 2 rfl rfl (vp_in_nI (by omega) (by omega)) d_MOD_count_1_66 (fun H locs hP hD hS => ?_)
      rw [nI_clamp (by omega)] at hP hD
      have hP : va_P G.1 vwCl [(z0, .inr (6, [.int cdv, .int (nI nM), .ref z1, .ref z2, .ref z3, .ref z4, .ref z5, .ref z6, .int (nI nC), .ref z7, .ref z8, .ref z9, .ref z10, .ref z11, .ref z12, .ref z13, .ref z14, .ref z15, .ref z16, .int cyc, .int li, .long me, .long mi, .int (nI sn), .ref z17])), (z3, .inl (G.2 2, 16, .inl (upd (upd fR k ((fR k) / 2)) k ((fR k) / 2)))), (z4, .inl (G.2 2, 16, .inl (upd (upd fH k ((fH k) / 2)) k (((fH k) / 2) + 1))))] H := hP
      have hD : va_D A [(z0, .inr (6, [.int cdv, .int (nI nM), .ref z1, .ref z2, .ref z3, .ref z4, .ref z5, .ref z6, .int (nI nC), .ref z7, .ref z8, .ref z9, .ref z10, .ref z11, .ref z12, .ref z13, .ref z14, .ref z15, .ref z16, .int cyc, .int li, .long me, .long mi, .int (nI sn), .ref z17])), (z3, .inl (G.2 2, 16, .inl (upd (upd fR k ((fR k) / 2)) k ((fR k) / 2)))), (z4, .inl (G.2 2, 16, .inl (upd (upd fH k ((fH k) / 2)) k (((fH k) / 2) + 1))))] := hD
      have hw9 : ([(z0, .inr (6, [.int cdv, .int (nI nM), .ref z1, .ref z2, .ref z3, .ref z4, .ref z5, .ref z6, .int (nI nC), .ref z7, .ref z8, .ref z9, .ref z10, .ref z11, .ref z12, .ref z13, .ref z14, .ref z15, .ref z16, .int cyc, .int li, .long me, .long mi, .int (nI sn), .ref z17])), (z3, .inl (G.2 2, 16, .inl (upd fR k (mcR (fR k) (fH k) tr)))), (z4, .inl (G.2 2, 16, .inl (upd fH k (mcC (fH k)))))] : va_W) = [(z0, .inr (6, [.int cdv, .int (nI nM), .ref z1, .ref z2, .ref z3, .ref z4, .ref z5, .ref z6, .int (nI nC), .ref z7, .ref z8, .ref z9, .ref z10, .ref z11, .ref z12, .ref z13, .ref z14, .ref z15, .ref z16, .int cyc, .int li, .long me, .long mi, .int (nI sn), .ref z17])), (z3, .inl (G.2 2, 16, .inl (upd (upd fR k ((fR k) / 2)) k ((fR k) / 2)))), (z4, .inl (G.2 2, 16, .inl (upd (upd fH k ((fH k) / 2)) k (((fH k) / 2) + 1))))] := by first | (simp [mcR, mcC, pk_us, upd_upd, upd_id, upd_idv, c_8, c_57]; done) | (simp_all [mcR, mcC, pk_us, upd_upd, upd_id, upd_idv]; done)
      rw [← hw9] at hP hD
      exact W.vret hx hb hr (fun t ht hW => ⟨⟨rfl, by rw [ht]; exact hP, by rw [hAe]; exact hD⟩, by rw [hAe]; exact hS.F ht⟩) hS.2.2 d_MOD_count_1_67
    · refine lv_iconst (v := 1) hx hb d_MOD_count_1_60 (by decide) ?_
      refine lv_goto (tgt := 65) hx hb d_MOD_count_1_61 (by decide) ?_
      refine lv_iadd hx hb d_MOD_count_1_65 ?_
      refine va_iast hx hb hK hP hD hS 1 2 rfl rfl (vp_in_nI (by omega) (by omega)) d_MOD_count_1_66 (fun H locs hP hD hS => ?_)
      rw [nI_clamp (by omega)] at hP hD
      have hP : va_P G.1 vwCl [(z0, .inr (6, [.int cdv, .int (nI nM), .ref z1, .ref z2, .ref z3, .ref z4, .ref z5, .ref z6, .int (nI nC), .ref z7, .ref z8, .ref z9, .ref z10, .ref z11, .ref z12, .ref z13, .ref z14, .ref z15, .ref z16, .int cyc, .int li, .long me, .long mi, .int (nI sn), .ref z17])), (z3, .inl (G.2 2, 16, .inl (upd (upd fR k ((fR k) / 2)) k (((fR k) / 2) + 1)))), (z4, .inl (G.2 2, 16, .inl (upd (upd fH k ((fH k) / 2)) k (((fH k) / 2) + 1))))] H := hP
      have hD : va_D A [(z0, .inr (6, [.int cdv, .int (nI nM), .ref z1, .ref z2, .ref z3, .ref z4, .ref z5, .ref z6, .int (nI nC), .ref z7, .ref z8, .ref z9, .ref z10, .ref z11, .ref z12, .ref z13, .ref z14, .ref z15, .ref z16, .int cyc, .int li, .long me, .long mi, .int (nI sn), .ref z17])), (z3, .inl (G.2 2, 16, .inl (upd (upd fR k ((fR k) / 2)) k (((fR k) / 2) + 1)))), (z4, .inl (G.2 2, 16, .inl (upd (upd fH k ((fH k) / 2)) k (((fH k) / 2) + 1))))] := hD
      have hw9 : ([(z0, .inr (6, [.int cdv, .int (nI nM), .ref z1, .ref z2, .ref z3, .ref z4, .ref z5, .ref z6, .int (nI nC), .ref z7, .ref z8, .ref z9, .ref z10, .ref z11, .ref z12, .ref z13, .ref z14, .ref z15, .ref z16, .int cyc, .int li, .long me, .long mi, .int (nI sn), .ref z17])), (z3, .inl (G.2 2, 16, .inl (upd fR k (mcR (fR k) (fH k) tr)))), (z4, .inl (G.2 2, 16, .inl (upd fH k (mcC (fH k)))))] : va_W) = [(z0, .inr (6, [.int cdv, .int (nI nM), .ref z1, .ref z2, .ref z3, .ref z4, .ref z5, .ref z6, .int (nI nC), .ref z7, .ref z8, .ref z9, .ref z10, .ref z11, .ref z12, .ref z13, .ref z14, .ref z15, .ref z16, .int cyc, .int li, .long me, .long mi, .int (nI sn), .ref z17])), (z3, .inl (G.2 2, 16, .inl (upd (upd fR k ((fR k) / 2)) k (((fR k) / 2) + 1)))), (z4, .inl (G.2 2, 16, .inl (upd (upd fH k ((fH k) / 2)) k (((fH k) / 2) + 1))))] := by first | (simp [mcR, mcC, pk_us, upd_upd, upd_id, upd_idv, c_8, c_57]; done) | (simp_all [mcR, mcC, pk_us, upd_upd, upd_id, upd_idv]; done)
      rw [← hw9] at hP hD
      exact W.vret hx hb hr (fun t ht hW => ⟨⟨rfl, by rw [ht]; exact hP, by rw [hAe]; exact hD⟩, by rw [hAe]; exact hS.F ht⟩) hS.2.2 d_MOD_count_1_67
set_option maxHeartbeats 4000000 in
set_option maxRecDepth 100000 in
theorem c_mendOn (l : Launch) (G : GG) (sz : Nat) (z0 : Nat) (z1 : Nat) (z2 : Nat) (z3 : Nat) (z4 : Nat) (z5 : Nat) (z6 : Nat) (z7 : Nat) (z8 : Nat) (z9 : Nat) (z10 : Nat) (z11 : Nat) (z12 : Nat) (z13 : Nat) (z14 : Nat) (z15 : Nat) (z16 : Nat) (z17 : Nat) (cdv : Int32) (cyc : Int32) (li : Int32) (nM : Nat) (nC : Nat) (sn : Nat) (me : Int64) (mi : Int64) (gP : Nat → Int32) (gQ : Nat → Int32) (gL : Nat → Int32) (gF : Nat → Int32) (gZ : Nat → Int32) (gW : Nat → Int32) (gC : Nat → Int32) (gD : Nat → Int32) (k : Nat) (cs : Int32) (hk : k < 20) : Met l y_MOD_endOn w_MOD_endOn ({ frames := 0, cells := 0, slots := 0, locals := 0 }) (va_Pc [.ref z0, .int (nI k), .int cs] (Pw G sz [(z0, .inr (6, [.int cdv, .int (nI nM), .ref z1, .ref z2, .ref z3, .ref z4, .ref z5, .ref z6, .int (nI nC), .ref z7, .ref z8, .ref z9, .ref z10, .ref z11, .ref z12, .ref z13, .ref z14, .ref z15, .ref z16, .int cyc, .int li, .long me, .long mi, .int (nI sn), .ref z17])), (z9, .inl (G.2 3, 20, .inl gP)), (z10, .inl (G.2 3, 20, .inl gQ)), (z11, .inl (G.2 3, 20, .inl gL)), (z12, .inl (G.2 2, 20, .inl gF)), (z13, .inl (G.2 2, 20, .inl gZ)), (z14, .inl (G.2 3, 20, .inl gW)), (z15, .inl (G.2 2, 20, .inl gC)), (z16, .inl (G.2 2, 20, .inl gD))])) (QW G none [(z0, .inr (6, [.int cdv, .int (nI nM), .ref z1, .ref z2, .ref z3, .ref z4, .ref z5, .ref z6, .int (nI nC), .ref z7, .ref z8, .ref z9, .ref z10, .ref z11, .ref z12, .ref z13, .ref z14, .ref z15, .ref z16, .int cyc, .int li, .long me, .long mi, .int (nI sn), .ref z17])), (z9, .inl (G.2 3, 20, .inl gP)), (z10, .inl (G.2 3, 20, .inl gQ)), (z11, .inl (G.2 3, 20, .inl gL)), (z12, .inl (G.2 2, 20, .inl gF)), (z13, .inl (G.2 2, 20, .inl gZ)), (z14, .inl (G.2 3, 20, .inl gW)), (z15, .inl (G.2 2, 20, .inl gC)), (z16, .inl (G.2 2, 20, .inl gD))] [(z0, .inr (6, [.int cdv, .int (nI nM), .ref z1, .ref z2, .ref z3, .ref z4, .ref z5, .ref z6, .int (nI nC), .ref z7, .ref z8, .ref z9, .ref z10, .ref z11, .ref z12, .ref z13, .ref z14, .ref z15, .ref z16, .int cyc, .int li, .long me, .long mi, .int (nI sn), .ref z17])), (z9, .inl (G.2 3, 20, .inl (upd gP k (moP (gP k) (gQ k))))), (z10, .inl (G.2 3, 20, .inl (upd gQ k (moK (gP k) (gQ k))))), (z11, .inl (G.2 3, 20, .inl (upd gL k (moK (gP k) (gL k))))), (z12, .inl (G.2 2, 20, .inl (upd gF k 0))), (z13, .inl (G.2 2, 20, .inl (upd gZ k 0))), (z14, .inl (G.2 3, 20, .inl (upd gW k (moF (gP k) (gQ k) (gW k) 1)))), (z15, .inl (G.2 2, 20, .inl (upd gC k (moF (gP k) (gQ k) (gC k) cyc)))), (z16, .inl (G.2 2, 20, .inl (upd gD k (moF (gP k) (gQ k) (gD k) cs))))] sz) 0 0 (va_A [(z0, .inr (6, [.int cdv, .int (nI nM), .ref z1, .ref z2, .ref z3, .ref z4, .ref z5, .ref z6, .int (nI nC), .ref z7, .ref z8, .ref z9, .ref z10, .ref z11, .ref z12, .ref z13, .ref z14, .ref z15, .ref z16, .int cyc, .int li, .long me, .long mi, .int (nI sn), .ref z17])), (z9, .inl (G.2 3, 20, .inl gP)), (z10, .inl (G.2 3, 20, .inl gQ)), (z11, .inl (G.2 3, 20, .inl gL)), (z12, .inl (G.2 2, 20, .inl gF)), (z13, .inl (G.2 2, 20, .inl gZ)), (z14, .inl (G.2 3, 20, .inl gW)), (z15, .inl (G.2 2, 20, .inl gC)), (z16, .inl (G.2 2, 20, .inl gD))] sz) := by
  refine Met.ofW (cc := b_MOD_endOn) (maxL := 3) (ret := none) (by decide) rfl ?_
  intro p e s m args below meth c s₁ B hml hv
  obtain ⟨rfl, hsz, hP, hGK, hD0⟩ := hv
  have hx := B.exec
  have hb := B.bytes
  have hr := B.returns
  have hts := atoms_spec (ws := w_MOD_endOn) B.pre
  have hT : ∀ w ∈ lwG, w.before _ s = true := fun w h => hts w (List.mem_cons_of_mem _ h)
  have hown : s.vm.findClass R_MOD = some m.cls := findClass_of_methodNamed B.named
  have hlocks := B.notSynchronized
  have hK := hGK.1
  have hN := hGK.2
  subst hsz
  have hD := hD0.self (sz := s.heap.size)
  generalize hAe : va_A [(z0, .inr (6, [.int cdv, .int (nI nM), .ref z1, .ref z2, .ref z3, .ref z4, .ref z5, .ref z6, .int (nI nC), .ref z7, .ref z8, .ref z9, .ref z10, .ref z11, .ref z12, .ref z13, .ref z14, .ref z15, .ref z16, .int cyc, .int li, .long me, .long mi, .int (nI sn), .ref z17])), (z9, .inl (G.2 3, 20, .inl gP)), (z10, .inl (G.2 3, 20, .inl gQ)), (z11, .inl (G.2 3, 20, .inl gL)), (z12, .inl (G.2 2, 20, .inl gF)), (z13, .inl (G.2 2, 20, .inl gZ)), (z14, .inl (G.2 3, 20, .inl gW)), (z15, .inl (G.2 2, 20, .inl gC)), (z16, .inl (G.2 2, 20, .inl gD))] s.heap.size = A at hD ⊢
  have hA : ∀ q : Nat, s.heap.size ≤ q → A q := fun q h => by rw [← hAe]; exact Or.inr h
  have hS : va_S A s.heap s.heap [] := va_S.rf
  have hP : va_P G.1 vwCl [(z0, .inr (6, [.int cdv, .int (nI nM), .ref z1, .ref z2, .ref z3, .ref z4, .ref z5, .ref z6, .int (nI nC), .ref z7, .ref z8, .ref z9, .ref z10, .ref z11, .ref z12, .ref z13, .ref z14, .ref z15, .ref z16, .int cyc, .int li, .long me, .long mi, .int (nI sn), .ref z17])), (z9, .inl (G.2 3, 20, .inl gP)), (z10, .inl (G.2 3, 20, .inl gQ)), (z11, .inl (G.2 3, 20, .inl gL)), (z12, .inl (G.2 2, 20, .inl gF)), (z13, .inl (G.2 2, 20, .inl gZ)), (z14, .inl (G.2 3, 20, .inl gW)), (z15, .inl (G.2 2, 20, .inl gC)), (z16, .inl (G.2 2, 20, .inl gD))] s.heap := hP
  have hl := lv_entry ([.ref z0, .int (nI k), .int cs]) (n := 3) (Nat.le_of_ble_eq_true rfl)
  rw [lg_entry_eq]
  generalize (lg_sl ([.ref z0, .int (nI k), .int cs]) ++ List.replicate (3 - (lg_sl ([.ref z0, .int (nI k), .int cs])).length) Slot.unset).toArray = ls at hl ⊢
  have hl : lv_has ls 3 [(0, .ref z0), (1, .int (nI k)), (2, .int cs)] := hl
  refine lv_aload_n hx hb d_MOD_endOn_0 rfl (lv_at hl 0 rfl) ?_
  refine va_get (D := G.1) (ci := 6) (v := .ref z12) (C := R_MOD) (T := T_MOD) (N := 25) hx hb hT in_MOD hown hK hP 0 rfl rfl 14 (by decide) (hT _ wd_596) (fun _ h9 => h9) rfl d_MOD_endOn_1 ?_
  refine lv_iload_n hx hb d_MOD_endOn_4 rfl (lv_at hl 1 rfl) ?_
  refine lv_iconst (v := 0) hx hb d_MOD_endOn_5 (by decide) ?_
  refine va_iast hx hb hK hP hD hS 4 2 rfl rfl (vp_in_nI (by omega) (by omega)) d_MOD_endOn_6 (fun H locs hP hD hS => ?_)
  rw [nI_clamp (by omega)] at hP hD
  have hP : va_P G.1 vwCl [(z0, .inr (6, [.int cdv, .int (nI nM), .ref z1, .ref z2, .ref z3, .ref z4, .ref z5, .ref z6, .int (nI nC), .ref z7, .ref z8, .ref z9, .ref z10, .ref z11, .ref z12, .ref z13, .ref z14, .ref z15, .ref z16, .int cyc, .int li, .long me, .long mi, .int (nI sn), .ref z17])), (z9, .inl (G.2 3, 20, .inl gP)), (z10, .inl (G.2 3, 20, .inl gQ)), (z11, .inl (G.2 3, 20, .inl gL)), (z12, .inl (G.2 2, 20, .inl (upd gF k 0))), (z13, .inl (G.2 2, 20, .inl gZ)), (z14, .inl (G.2 3, 20, .inl gW)), (z15, .inl (G.2 2, 20, .inl gC)), (z16, .inl (G.2 2, 20, .inl gD))] H := hP
  have hD : va_D A [(z0, .inr (6, [.int cdv, .int (nI nM), .ref z1, .ref z2, .ref z3, .ref z4, .ref z5, .ref z6, .int (nI nC), .ref z7, .ref z8, .ref z9, .ref z10, .ref z11, .ref z12, .ref z13, .ref z14, .ref z15, .ref z16, .int cyc, .int li, .long me, .long mi, .int (nI sn), .ref z17])), (z9, .inl (G.2 3, 20, .inl gP)), (z10, .inl (G.2 3, 20, .inl gQ)), (z11, .inl (G.2 3, 20, .inl gL)), (z12, .inl (G.2 2, 20, .inl (upd gF k 0))), (z13, .inl (G.2 2, 20, .inl gZ)), (z14, .inl (G.2 3, 20, .inl gW)), (z15, .inl (G.2 2, 20, .inl gC)), (z16, .inl (G.2 2, 20, .inl gD))] := hD
  refine lv_aload_n hx hb d_MOD_endOn_7 rfl (lv_at hl 0 rfl) ?_
  refine va_get (D := G.1) (ci := 6) (v := .ref z13) (C := R_MOD) (T := T_MOD) (N := 25) hx hb hT in_MOD hown hK hP 0 rfl rfl 15 (by decide) (hT _ wd_597) (fun _ h9 => h9) rfl d_MOD_endOn_8 ?_
  refine lv_iload_n hx hb d_MOD_endOn_11 rfl (lv_at hl 1 rfl) ?_
  refine lv_iconst (v := 0) hx hb d_MOD_endOn_12 (by decide) ?_
  refine va_iast hx hb hK hP hD hS 5 2 rfl rfl (vp_in_nI (by omega) (by omega)) d_MOD_endOn_13 (fun H locs hP hD hS => ?_)
  rw [nI_clamp (by omega)] at hP hD
  have hP : va_P G.1 vwCl [(z0, .inr (6, [.int cdv, .int (nI nM), .ref z1, .ref z2, .ref z3, .ref z4, .ref z5, .ref z6, .int (nI nC), .ref z7, .ref z8, .ref z9, .ref z10, .ref z11, .ref z12, .ref z13, .ref z14, .ref z15, .ref z16, .int cyc, .int li, .long me, .long mi, .int (nI sn), .ref z17])), (z9, .inl (G.2 3, 20, .inl gP)), (z10, .inl (G.2 3, 20, .inl gQ)), (z11, .inl (G.2 3, 20, .inl gL)), (z12, .inl (G.2 2, 20, .inl (upd gF k 0))), (z13, .inl (G.2 2, 20, .inl (upd gZ k 0))), (z14, .inl (G.2 3, 20, .inl gW)), (z15, .inl (G.2 2, 20, .inl gC)), (z16, .inl (G.2 2, 20, .inl gD))] H := hP
  have hD : va_D A [(z0, .inr (6, [.int cdv, .int (nI nM), .ref z1, .ref z2, .ref z3, .ref z4, .ref z5, .ref z6, .int (nI nC), .ref z7, .ref z8, .ref z9, .ref z10, .ref z11, .ref z12, .ref z13, .ref z14, .ref z15, .ref z16, .int cyc, .int li, .long me, .long mi, .int (nI sn), .ref z17])), (z9, .inl (G.2 3, 20, .inl gP)), (z10, .inl (G.2 3, 20, .inl gQ)), (z11, .inl (G.2 3, 20, .inl gL)), (z12, .inl (G.2 2, 20, .inl (upd gF k 0))), (z13, .inl (G.2 2, 20, .inl (upd gZ k 0))), (z14, .inl (G.2 3, 20, .inl gW)), (z15, .inl (G.2 2, 20, .inl gC)), (z16, .inl (G.2 2, 20, .inl gD))] := hD
  refine lv_aload_n hx hb d_MOD_endOn_14 rfl (lv_at hl 0 rfl) ?_
  refine va_get (D := G.1) (ci := 6) (v := .ref z9) (C := R_MOD) (T := T_MOD) (N := 25) hx hb hT in_MOD hown hK hP 0 rfl rfl 11 (by decide) (hT _ wd_593) (fun _ h9 => h9) rfl d_MOD_endOn_15 ?_
  refine lv_iload_n hx hb d_MOD_endOn_18 rfl (lv_at hl 1 rfl) ?_
  refine va_zald hx hb hK hP 1 3 rfl rfl (vp_in_nI (by omega) (by omega)) d_MOD_endOn_19 ?_
  refine W.eq (g2 := F0 m 20 ls (.int (gP k) :: [])) (by rw [nI_clamp (by omega)]) ?_
  refine lv_if_eq (tgt := 47) hx hb d_MOD_endOn_20 (by decide) (fun c_20 => ?_) (fun c_20 => ?_)
  · refine lv_aload_n hx hb d_MOD_endOn_47 rfl (lv_at hl 0 rfl) ?_
    refine va_get (D := G.1) (ci := 6) (v := .ref z10) (C := R_MOD) (T := T_MOD) (N := 25) hx hb hT in_MOD hown hK hP 0 rfl rfl 12 (by decide) (hT _ wd_594) (fun _ h9 => h9) rfl d_MOD_endOn_48 ?_
    refine lv_iload_n hx hb d_MOD_endOn_51 rfl (lv_at hl 1 rfl) ?_
    refine va_zald hx hb hK hP 2 3 rfl rfl (vp_in_nI (by omega) (by omega)) d_MOD_endOn_52 ?_
    refine W.eq (g2 := F0 m 53 ls (.int (gQ k) :: [])) (by rw [nI_clamp (by omega)]) ?_
    refine lv_if_ne (tgt := 87) hx hb d_MOD_endOn_53 (by decide) (fun c_53 => ?_) (fun c_53 => ?_)
    · have hw9 : ([(z0, .inr (6, [.int cdv, .int (nI nM), .ref z1, .ref z2, .ref z3, .ref z4, .ref z5, .ref z6, .int (nI nC), .ref z7, .ref z8, .ref z9, .ref z10, .ref z11, .ref z12, .ref z13, .ref z14, .ref z15, .ref z16, .int cyc, .int li, .long me, .long mi, .int (nI sn), .ref z17])), (z9, .inl (G.2 3, 20, .inl (upd gP k (moP (gP k) (gQ k))))), (z10, .inl (G.2 3, 20, .inl (upd gQ k (moK (gP k) (gQ k))))), (z11, .inl (G.2 3, 20, .inl (upd gL k (moK (gP k) (gL k))))), (z12, .inl (G.2 2, 20, .inl (upd gF k 0))), (z13, .inl (G.2 2, 20, .inl (upd gZ k 0))), (z14, .inl (G.2 3, 20, .inl (upd gW k (moF (gP k) (gQ k) (gW k) 1)))), (z15, .inl (G.2 2, 20, .inl (upd gC k (moF (gP k) (gQ k) (gC k) cyc)))), (z16, .inl (G.2 2, 20, .inl (upd gD k (moF (gP k) (gQ k) (gD k) cs))))] : va_W) = [(z0, .inr (6, [.int cdv, .int (nI nM), .ref z1, .ref z2, .ref z3, .ref z4, .ref z5, .ref z6, .int (nI nC), .ref z7, .ref z8, .ref z9, .ref z10, .ref z11, .ref z12, .ref z13, .ref z14, .ref z15, .ref z16, .int cyc, .int li, .long me, .long mi, .int (nI sn), .ref z17])), (z9, .inl (G.2 3, 20, .inl gP)), (z10, .inl (G.2 3, 20, .inl gQ)), (z11, .inl (G.2 3, 20, .inl gL)), (z12, .inl (G.2 2, 20, .inl (upd gF k 0))), (z13, .inl (G.2 2, 20, .inl (upd gZ k 0))), (z14, .inl (G.2 3, 20, .inl gW)), (z15, .inl (G.2 2, 20, .inl gC)), (z16, .inl (G.2 2, 20, .inl gD))] := by first | (simp [moP, moK, moF, pk_us, upd_upd, upd_id, upd_idv, c_20, c_53]; done) | (simp_all [moP, moK, moF, pk_us, upd_upd, upd_id, upd_idv]; done)
      rw [← hw9] at hP hD
      exact W.vret hx hb hr (fun t ht hW => ⟨⟨rfl, by rw [ht]; exact hP, by rw [hAe]; exact hD⟩, by rw [hAe]; exact hS.F ht⟩) hS.2.2 d_MOD_endOn_87
    · refine lv_aload_n hx hb d_MOD_endOn_56 rfl (lv_at hl 0 rfl) ?_
      refine va_get (D := G.1) (ci := 6) (v := .ref z9) (C := R_MOD) (T := T_MOD) (N := 25) hx hb hT in_MOD hown hK hP 0 rfl rfl 11 (by decide) (hT _ wd_593) (fun _ h9 => h9) rfl d_MOD_endOn_57 ?_
      refine lv_iload_n hx hb d_MOD_endOn_60 rfl (lv_at hl 1 rfl) ?_
      refine lv_iconst (v := 1) hx hb d_MOD_endOn_61 (by decide) ?_
      refine va_zast hx hb hK hP hD hS 1 3 rfl rfl (vp_in_nI (by omega) (by omega)) d_MOD_endOn_62 (fun H locs hP hD hS => ?_)
      rw [nI_clamp (by omega), vn1] at hP hD
      have hP : va_P G.1 vwCl [(z0, .inr (6, [.int cdv, .int (nI nM), .ref z1, .ref z2, .ref z3, .ref z4, .ref z5, .ref z6, .int (nI nC), .ref z7, .ref z8, .ref z9, .ref z10, .ref z11, .ref z12, .ref z13, .ref z14, .ref z15, .ref z16, .int cyc, .int li, .long me, .long mi, .int (nI sn), .ref z17])), (z9, .inl (G.2 3, 20, .inl (upd gP k 1))), (z10, .inl (G.2 3, 20, .inl gQ)), (z11, .inl (G.2 3, 20, .inl gL)), (z12, .inl (G.2 2, 20, .inl (upd gF k 0))), (z13, .inl (G.2 2, 20, .inl (upd gZ k 0))), (z14, .inl (G.2 3, 20, .inl gW)), (z15, .inl (G.2 2, 20, .inl gC)), (z16, .inl (G.2 2, 20, .inl gD))] H := hP
      have hD : va_D A [(z0, .inr (6, [.int cdv, .int (nI nM), .ref z1, .ref z2, .ref z3, .ref z4, .ref z5, .ref z6, .int (nI nC), .ref z7, .ref z8, .ref z9, .ref z10, .ref z11, .ref z12, .ref z13, .ref z14, .ref z15, .ref z16, .int cyc, .int li, .long me, .long mi, .int (nI sn), .ref z17])), (z9, .inl (G.2 3, 20, .inl (upd gP k 1))), (z10, .inl (G.2 3, 20, .inl gQ)), (z11, .inl (G.2 3, 20, .inl gL)), (z12, .inl (G.2 2, 20, .inl (upd gF k 0))), (z13, .inl (G.2 2, 20, .inl (upd gZ k 0))), (z14, .inl (G.2 3, 20, .inl gW)), (z15, .inl (G.2 2, 20, .inl gC)), (z16, .inl (G.2 2, 20, .inl gD))] := hD
      refine lv_aload_n hx hb d_MOD_endOn_63 rfl (lv_at hl 0 rfl) ?_
      refine va_get (D := G.1) (ci := 6) (v := .ref z14) (C := R_MOD) (T := T_MOD) (N := 25) hx hb hT in_MOD hown hK hP 0 rfl rfl 16 (by decide) (hT _ wd_598) (fun _ h9 => h9) rfl d_MOD_endOn_64 ?_
      refine lv_iload_n hx hb d_MOD_endOn_67 rfl (lv_at hl 1 rfl) ?_
      refine lv_iconst (v := 1) hx hb d_MOD_endOn_68 (by decide) ?_
      refine va_zast hx hb hK hP hD hS 6 3 rfl rfl (vp_in_nI (by omega) (by omega)) d_MOD_endOn_69 (fun H locs hP hD hS => ?_)
      rw [nI_clamp (by omega), vn1] at hP hD
      have hP : va_P G.1 vwCl [(z0, .inr (6, [.int cdv, .int (nI nM), .ref z1, .ref z2, .ref z3, .ref z4, .ref z5, .ref z6, .int (nI nC), .ref z7, .ref z8, .ref z9, .ref z10, .ref z11, .ref z12, .ref z13, .ref z14, .ref z15, .ref z16, .int cyc, .int li, .long me, .long mi, .int (nI sn), .ref z17])), (z9, .inl (G.2 3, 20, .inl (upd gP k 1))), (z10, .inl (G.2 3, 20, .inl gQ)), (z11, .inl (G.2 3, 20, .inl gL)), (z12, .inl (G.2 2, 20, .inl (upd gF k 0))), (z13, .inl (G.2 2, 20, .inl (upd gZ k 0))), (z14, .inl (G.2 3, 20, .inl (upd gW k 1))), (z15, .inl (G.2 2, 20, .inl gC)), (z16, .inl (G.2 2, 20, .inl gD))] H := hP
      have hD : va_D A [(z0, .inr (6, [.int cdv, .int (nI nM), .ref z1, .ref z2, .ref z3, .ref z4, .ref z5, .ref z6, .int (nI nC), .ref z7, .ref z8, .ref z9, .ref z10, .ref z11, .ref z12, .ref z13, .ref z14, .ref z15, .ref z16, .int cyc, .int li, .long me, .long mi, .int (nI sn), .ref z17])), (z9, .inl (G.2 3, 20, .inl (upd gP k 1))), (z10, .inl (G.2 3, 20, .inl gQ)), (z11, .inl (G.2 3, 20, .inl gL)), (z12, .inl (G.2 2, 20, .inl (upd gF k 0))), (z13, .inl (G.2 2, 20, .inl (upd gZ k 0))), (z14, .inl (G.2 3, 20, .inl (upd gW k 1))), (z15, .inl (G.2 2, 20, .inl gC)), (z16, .inl (G.2 2, 20, .inl gD))] := hD
      refine lv_aload_n hx hb d_MOD_endOn_70 rfl (lv_at hl 0 rfl) ?_
      refine va_get (D := G.1) (ci := 6) (v := .ref z15) (C := R_MOD) (T := T_MOD) (N := 25) hx hb hT in_MOD hown hK hP 0 rfl rfl 17 (by decide) (hT _ wd_599) (fun _ h9 => h9) rfl d_MOD_endOn_71 ?_
      refine lv_iload_n hx hb d_MOD_endOn_74 rfl (lv_at hl 1 rfl) ?_
      refine lv_aload_n hx hb d_MOD_endOn_75 rfl (lv_at hl 0 rfl) ?_
      refine va_get (D := G.1) (ci := 6) (v := .int cyc) (C := R_MOD) (T := T_MOD) (N := 25) hx hb hT in_MOD hown hK hP 0 rfl rfl 19 (by decide) (hT _ wd_601) (fun _ h9 => h9) rfl d_MOD_endOn_76 ?_
      refine va_iast hx hb hK hP hD hS 7 2 rfl rfl (vp_in_nI (by omega) (by omega)) d_MOD_endOn_79 (fun H locs hP hD hS => ?_)
      rw [nI_clamp (by omega)] at hP hD
      have hP : va_P G.1 vwCl [(z0, .inr (6, [.int cdv, .int (nI nM), .ref z1, .ref z2, .ref z3, .ref z4, .ref z5, .ref z6, .int (nI nC), .ref z7, .ref z8, .ref z9, .ref z10, .ref z11, .ref z12, .ref z13, .ref z14, .ref z15, .ref z16, .int cyc, .int li, .long me, .long mi, .int (nI sn), .ref z17])), (z9, .inl (G.2 3, 20, .inl (upd gP k 1))), (z10, .inl (G.2 3, 20, .inl gQ)), (z11, .inl (G.2 3, 20, .inl gL)), (z12, .inl (G.2 2, 20, .inl (upd gF k 0))), (z13, .inl (G.2 2, 20, .inl (upd gZ k 0))), (z14, .inl (G.2 3, 20, .inl (upd gW k 1))), (z15, .inl (G.2 2, 20, .inl (upd gC k cyc))), (z16, .inl (G.2 2, 20, .inl gD))] H := hP
      have hD : va_D A [(z0, .inr (6, [.int cdv, .int (nI nM), .ref z1, .ref z2, .ref z3, .ref z4, .ref z5, .ref z6, .int (nI nC), .ref z7, .ref z8, .ref z9, .ref z10, .ref z11, .ref z12, .ref z13, .ref z14, .ref z15, .ref z16, .int cyc, .int li, .long me, .long mi, .int (nI sn), .ref z17])), (z9, .inl (G.2 3, 20, .inl (upd gP k 1))), (z10, .inl (G.2 3, 20, .inl gQ)), (z11, .inl (G.2 3, 20, .inl gL)), (z12, .inl (G.2 2, 20, .inl (upd gF k 0))), (z13, .inl (G.2 2, 20, .inl (upd gZ k 0))), (z14, .inl (G.2 3, 20, .inl (upd gW k 1))), (z15, .inl (G.2 2, 20, .inl (upd gC k cyc))), (z16, .inl (G.2 2, 20, .inl gD))] := hD
      refine lv_aload_n hx hb d_MOD_endOn_80 rfl (lv_at hl 0 rfl) ?_
      refine va_get (D := G.1) (ci := 6) (v := .ref z16) (C := R_MOD) (T := T_MOD) (N := 25) hx hb hT in_MOD hown hK hP 0 rfl rfl 18 (by decide) (hT _ wd_600) (fun _ h9 => h9) rfl d_MOD_endOn_81 ?_
      refine lv_iload_n hx hb d_MOD_endOn_84 rfl (lv_at hl 1 rfl) ?_
      refine lv_iload_n hx hb d_MOD_endOn_85 rfl (lv_at hl 2 rfl) ?_
      refine va_iast hx hb hK hP hD hS 8 2 rfl rfl (vp_in_nI (by omega) (by omega)) d_MOD_endOn_86 (fun H locs hP hD hS => ?_)
      rw [nI_clamp (by omega)] at hP hD
      have hP : va_P G.1 vwCl [(z0, .inr (6, [.int cdv, .int (nI nM), .ref z1, .ref z2, .ref z3, .ref z4, .ref z5, .ref z6, .int (nI nC), .ref z7, .ref z8, .ref z9, .ref z10, .ref z11, .ref z12, .ref z13, .ref z14, .ref z15, .ref z16, .int cyc, .int li, .long me, .long mi, .int (nI sn), .ref z17])), (z9, .inl (G.2 3, 20, .inl (upd gP k 1))), (z10, .inl (G.2 3, 20, .inl gQ)), (z11, .inl (G.2 3, 20, .inl gL)), (z12, .inl (G.2 2, 20, .inl (upd gF k 0))), (z13, .inl (G.2 2, 20, .inl (upd gZ k 0))), (z14, .inl (G.2 3, 20, .inl (upd gW k 1))), (z15, .inl (G.2 2, 20, .inl (upd gC k cyc))), (z16, .inl (G.2 2, 20, .inl (upd gD k cs)))] H := hP
      have hD : va_D A [(z0, .inr (6, [.int cdv, .int (nI nM), .ref z1, .ref z2, .ref z3, .ref z4, .ref z5, .ref z6, .int (nI nC), .ref z7, .ref z8, .ref z9, .ref z10, .ref z11, .ref z12, .ref z13, .ref z14, .ref z15, .ref z16, .int cyc, .int li, .long me, .long mi, .int (nI sn), .ref z17])), (z9, .inl (G.2 3, 20, .inl (upd gP k 1))), (z10, .inl (G.2 3, 20, .inl gQ)), (z11, .inl (G.2 3, 20, .inl gL)), (z12, .inl (G.2 2, 20, .inl (upd gF k 0))), (z13, .inl (G.2 2, 20, .inl (upd gZ k 0))), (z14, .inl (G.2 3, 20, .inl (upd gW k 1))), (z15, .inl (G.2 2, 20, .inl (upd gC k cyc))), (z16, .inl (G.2 2, 20, .inl (upd gD k cs)))] := hD
      have hw9 : ([(z0, .inr (6, [.int cdv, .int (nI nM), .ref z1, .ref z2, .ref z3, .ref z4, .ref z5, .ref z6, .int (nI nC), .ref z7, .ref z8, .ref z9, .ref z10, .ref z11, .ref z12, .ref z13, .ref z14, .ref z15, .ref z16, .int cyc, .int li, .long me, .long mi, .int (nI sn), .ref z17])), (z9, .inl (G.2 3, 20, .inl (upd gP k (moP (gP k) (gQ k))))), (z10, .inl (G.2 3, 20, .inl (upd gQ k (moK (gP k) (gQ k))))), (z11, .inl (G.2 3, 20, .inl (upd gL k (moK (gP k) (gL k))))), (z12, .inl (G.2 2, 20, .inl (upd gF k 0))), (z13, .inl (G.2 2, 20, .inl (upd gZ k 0))), (z14, .inl (G.2 3, 20, .inl (upd gW k (moF (gP k) (gQ k) (gW k) 1)))), (z15, .inl (G.2 2, 20, .inl (upd gC k (moF (gP k) (gQ k) (gC k) cyc)))), (z16, .inl (G.2 2, 20, .inl (upd gD k (moF (gP k) (gQ k) (gD k) cs))))] : va_W) = [(z0, .inr (6, [.int cdv, .int (nI nM), .ref z1, .ref z2, .ref z3, .ref z4, .ref z5, .ref z6, .int (nI nC), .ref z7, .ref z8, .ref z9, .ref z10, .ref z11, .ref z12, .ref z13, .ref z14, .ref z15, .ref z16, .int cyc, .int li, .long me, .long mi, .int (nI sn), .ref z17])), (z9, .inl (G.2 3, 20, .inl (upd gP k 1))), (z10, .inl (G.2 3, 20, .inl gQ)), (z11, .inl (G.2 3, 20, .inl gL)), (z12, .inl (G.2 2, 20, .inl (upd gF k 0))), (z13, .inl (G.2 2, 20, .inl (upd gZ k 0))), (z14, .inl (G.2 3, 20, .inl (upd gW k 1))), (z15, .inl (G.2 2, 20, .inl (upd gC k cyc))), (z16, .inl (G.2 2, 20, .inl (upd gD k cs)))] := by first | (simp [moP, moK, moF, pk_us, upd_upd, upd_id, upd_idv, c_20, c_53]; done) | (simp_all [moP, moK, moF, pk_us, upd_upd, upd_id, upd_idv]; done)
      rw [← hw9] at hP hD
      exact W.vret hx hb hr (fun t ht hW => ⟨⟨rfl, by rw [ht]; exact hP, by rw [hAe]; exact hD⟩, by rw [hAe]; exact hS.F ht⟩) hS.2.2 d_MOD_endOn_87
  · refine lv_aload_n hx hb d_MOD_endOn_23 rfl (lv_at hl 0 rfl) ?_
    refine va_get (D := G.1) (ci := 6) (v := .ref z9) (C := R_MOD) (T := T_MOD) (N := 25) hx hb hT in_MOD hown hK hP 0 rfl rfl 11 (by decide) (hT _ wd_593) (fun _ h9 => h9) rfl d_MOD_endOn_24 ?_
    refine lv_iload_n hx hb d_MOD_endOn_27 rfl (lv_at hl 1 rfl) ?_
    refine lv_iconst (v := 0) hx hb d_MOD_endOn_28 (by decide) ?_
    refine va_zast hx hb hK hP hD hS 1 3 rfl rfl (vp_in_nI (by omega) (by omega)) d_MOD_endOn_29 (fun H locs hP hD hS => ?_)
    rw [nI_clamp (by omega), vn0] at hP hD
    have hP : va_P G.1 vwCl [(z0, .inr (6, [.int cdv, .int (nI nM), .ref z1, .ref z2, .ref z3, .ref z4, .ref z5, .ref z6, .int (nI nC), .ref z7, .ref z8, .ref z9, .ref z10, .ref z11, .ref z12, .ref z13, .ref z14, .ref z15, .ref z16, .int cyc, .int li, .long me, .long mi, .int (nI sn), .ref z17])), (z9, .inl (G.2 3, 20, .inl (upd gP k 0))), (z10, .inl (G.2 3, 20, .inl gQ)), (z11, .inl (G.2 3, 20, .inl gL)), (z12, .inl (G.2 2, 20, .inl (upd gF k 0))), (z13, .inl (G.2 2, 20, .inl (upd gZ k 0))), (z14, .inl (G.2 3, 20, .inl gW)), (z15, .inl (G.2 2, 20, .inl gC)), (z16, .inl (G.2 2, 20, .inl gD))] H := hP
    have hD : va_D A [(z0, .inr (6, [.int cdv, .int (nI nM), .ref z1, .ref z2, .ref z3, .ref z4, .ref z5, .ref z6, .int (nI nC), .ref z7, .ref z8, .ref z9, .ref z10, .ref z11, .ref z12, .ref z13, .ref z14, .ref z15, .ref z16, .int cyc, .int li, .long me, .long mi, .int (nI sn), .ref z17])), (z9, .inl (G.2 3, 20, .inl (upd gP k 0))), (z10, .inl (G.2 3, 20, .inl gQ)), (z11, .inl (G.2 3, 20, .inl gL)), (z12, .inl (G.2 2, 20, .inl (upd gF k 0))), (z13, .inl (G.2 2, 20, .inl (upd gZ k 0))), (z14, .inl (G.2 3, 20, .inl gW)), (z15, .inl (G.2 2, 20, .inl gC)), (z16, .inl (G.2 2, 20, .inl gD))] := hD
    refine lv_aload_n hx hb d_MOD_endOn_30 rfl (lv_at hl 0 rfl) ?_
    refine va_get (D := G.1) (ci := 6) (v := .ref z10) (C := R_MOD) (T := T_MOD) (N := 25) hx hb hT in_MOD hown hK hP 0 rfl rfl 12 (by decide) (hT _ wd_594) (fun _ h9 => h9) rfl d_MOD_endOn_31 ?_
    refine lv_iload_n hx hb d_MOD_endOn_34 rfl (lv_at hl 1 rfl) ?_
    refine lv_iconst (v := 1) hx hb d_MOD_endOn_35 (by decide) ?_
    refine va_zast hx hb hK hP hD hS 2 3 rfl rfl (vp_in_nI (by omega) (by omega)) d_MOD_endOn_36 (fun H locs hP hD hS => ?_)
    rw [nI_clamp (by omega), vn1] at hP hD
    have hP : va_P G.1 vwCl [(z0, .inr (6, [.int cdv, .int (nI nM), .ref z1, .ref z2, .ref z3, .ref z4, .ref z5, .ref z6, .int (nI nC), .ref z7, .ref z8, .ref z9, .ref z10, .ref z11, .ref z12, .ref z13, .ref z14, .ref z15, .ref z16, .int cyc, .int li, .long me, .long mi, .int (nI sn), .ref z17])), (z9, .inl (G.2 3, 20, .inl (upd gP k 0))), (z10, .inl (G.2 3, 20, .inl (upd gQ k 1))), (z11, .inl (G.2 3, 20, .inl gL)), (z12, .inl (G.2 2, 20, .inl (upd gF k 0))), (z13, .inl (G.2 2, 20, .inl (upd gZ k 0))), (z14, .inl (G.2 3, 20, .inl gW)), (z15, .inl (G.2 2, 20, .inl gC)), (z16, .inl (G.2 2, 20, .inl gD))] H := hP
    have hD : va_D A [(z0, .inr (6, [.int cdv, .int (nI nM), .ref z1, .ref z2, .ref z3, .ref z4, .ref z5, .ref z6, .int (nI nC), .ref z7, .ref z8, .ref z9, .ref z10, .ref z11, .ref z12, .ref z13, .ref z14, .ref z15, .ref z16, .int cyc, .int li, .long me, .long mi, .int (nI sn), .ref z17])), (z9, .inl (G.2 3, 20, .inl (upd gP k 0))), (z10, .inl (G.2 3, 20, .inl (upd gQ k 1))), (z11, .inl (G.2 3, 20, .inl gL)), (z12, .inl (G.2 2, 20, .inl (upd gF k 0))), (z13, .inl (G.2 2, 20, .inl (upd gZ k 0))), (z14, .inl (G.2 3, 20, .inl gW)), (z15, .inl (G.2 2, 20, .inl gC)), (z16, .inl (G.2 2, 20, .inl gD))] := hD
    refine lv_aload_n hx hb d_MOD_endOn_37 rfl (lv_at hl 0 rfl) ?_
    refine va_get (D := G.1) (ci := 6) (v := .ref z11) (C := R_MOD) (T := T_MOD) (N := 25) hx hb hT in_MOD hown hK hP 0 rfl rfl 13 (by decide) (hT _ wd_595) (fun _ h9 => h9) rfl d_MOD_endOn_38 ?_
    refine lv_iload_n hx hb d_MOD_endOn_41 rfl (lv_at hl 1 rfl) ?_
    refine lv_iconst (v := 1) hx hb d_MOD_endOn_42 (by decide) ?_
    refine va_zast hx hb hK hP hD hS 3 3 rfl rfl (vp_in_nI (by omega) (by omega)) d_MOD_endOn_43 (fun H locs hP hD hS => ?_)
    rw [nI_clamp (by omega), vn1] at hP hD
    have hP : va_P G.1 vwCl [(z0, .inr (6, [.int cdv, .int (nI nM), .ref z1, .ref z2, .ref z3, .ref z4, .ref z5, .ref z6, .int (nI nC), .ref z7, .ref z8, .ref z9, .ref z10, .ref z11, .ref z12, .ref z13, .ref z14, .ref z15, .ref z16, .int cyc, .int li, .long me, .long mi, .int (nI sn), .ref z17])), (z9, .inl (G.2 3, 20, .inl (upd gP k 0))), (z10, .inl (G.2 3, 20, .inl (upd gQ k 1))), (z11, .inl (G.2 3, 20, .inl (upd gL k 1))), (z12, .inl (G.2 2, 20, .inl (upd gF k 0))), (z13, .inl (G.2 2, 20, .inl (upd gZ k 0))), (z14, .inl (G.2 3, 20, .inl gW)), (z15, .inl (G.2 2, 20, .inl gC)), (z16, .inl (G.2 2, 20, .inl gD))] H := hP
    have hD : va_D A [(z0, .inr (6, [.int cdv, .int (nI nM), .ref z1, .ref z2, .ref z3, .ref z4, .ref z5, .ref z6, .int (nI nC), .ref z7, .ref z8, .ref z9, .ref z10, .ref z11, .ref z12, .ref z13, .ref z14, .ref z15, .ref z16, .int cyc, .int li, .long me, .long mi, .int (nI sn), .ref z17])), (z9, .inl (G.2 3, 20, .inl (upd gP k 0))), (z10, .inl (G.2 3, 20, .inl (upd gQ k 1))), (z11, .inl (G.2 3, 20, .inl (upd gL k 1))), (z12, .inl (G.2 2, 20, .inl (upd gF k 0))), (z13, .inl (G.2 2, 20, .inl (upd gZ k 0))), (z14, .inl (G.2 3, 20, .inl gW)), (z15, .inl (G.2 2, 20, .inl gC)), (z16, .inl (G.2 2, 20, .inl gD))] := hD
    refine lv_goto (tgt := 87) hx hb d_MOD_endOn_44 (by decide) ?_
    have hw9 : ([(z0, .inr (6, [.int cdv, .int (nI nM), .ref z1, .ref z2, .ref z3, .ref z4, .ref z5, .ref z6, .int (nI nC), .ref z7, .ref z8, .ref z9, .ref z10, .ref z11, .ref z12, .ref z13, .ref z14, .ref z15, .ref z16, .int cyc, .int li, .long me, .long mi, .int (nI sn), .ref z17])), (z9, .inl (G.2 3, 20, .inl (upd gP k (moP (gP k) (gQ k))))), (z10, .inl (G.2 3, 20, .inl (upd gQ k (moK (gP k) (gQ k))))), (z11, .inl (G.2 3, 20, .inl (upd gL k (moK (gP k) (gL k))))), (z12, .inl (G.2 2, 20, .inl (upd gF k 0))), (z13, .inl (G.2 2, 20, .inl (upd gZ k 0))), (z14, .inl (G.2 3, 20, .inl (upd gW k (moF (gP k) (gQ k) (gW k) 1)))), (z15, .inl (G.2 2, 20, .inl (upd gC k (moF (gP k) (gQ k) (gC k) cyc)))), (z16, .inl (G.2 2, 20, .inl (upd gD k (moF (gP k) (gQ k) (gD k) cs))))] : va_W) = [(z0, .inr (6, [.int cdv, .int (nI nM), .ref z1, .ref z2, .ref z3, .ref z4, .ref z5, .ref z6, .int (nI nC), .ref z7, .ref z8, .ref z9, .ref z10, .ref z11, .ref z12, .ref z13, .ref z14, .ref z15, .ref z16, .int cyc, .int li, .long me, .long mi, .int (nI sn), .ref z17])), (z9, .inl (G.2 3, 20, .inl (upd gP k 0))), (z10, .inl (G.2 3, 20, .inl (upd gQ k 1))), (z11, .inl (G.2 3, 20, .inl (upd gL k 1))), (z12, .inl (G.2 2, 20, .inl (upd gF k 0))), (z13, .inl (G.2 2, 20, .inl (upd gZ k 0))), (z14, .inl (G.2 3, 20, .inl gW)), (z15, .inl (G.2 2, 20, .inl gC)), (z16, .inl (G.2 2, 20, .inl gD))] := by first | (simp [moP, moK, moF, pk_us, upd_upd, upd_id, upd_idv, c_20]; done) | (simp_all [moP, moK, moF, pk_us, upd_upd, upd_id, upd_idv]; done)
    rw [← hw9] at hP hD
    exact W.vret hx hb hr (fun t ht hW => ⟨⟨rfl, by rw [ht]; exact hP, by rw [hAe]; exact hD⟩, by rw [hAe]; exact hS.F ht⟩) hS.2.2 d_MOD_endOn_87
set_option maxHeartbeats 4000000 in
set_option maxRecDepth 100000 in
theorem c_mendOff (l : Launch) (G : GG) (sz : Nat) (z0 : Nat) (z1 : Nat) (z2 : Nat) (z3 : Nat) (z4 : Nat) (z5 : Nat) (z6 : Nat) (z7 : Nat) (z8 : Nat) (z9 : Nat) (z10 : Nat) (z11 : Nat) (z12 : Nat) (z13 : Nat) (z14 : Nat) (z15 : Nat) (z16 : Nat) (z17 : Nat) (cdv : Int32) (cyc : Int32) (li : Int32) (nM : Nat) (nC : Nat) (sn : Nat) (me : Int64) (mi : Int64) (gP : Nat → Int32) (gQ : Nat → Int32) (gL : Nat → Int32) (gF : Nat → Int32) (gZ : Nat → Int32) (gW : Nat → Int32) (k : Nat) (cs : Int32) (hk : k < 20) : Met l y_MOD_endOff w_MOD_endOff ({ frames := 1, cells := 0, slots := 0, locals := 21 }) (va_Pc [.ref z0, .int (nI k), .int cs] (Pw G sz [(z0, .inr (6, [.int cdv, .int (nI nM), .ref z1, .ref z2, .ref z3, .ref z4, .ref z5, .ref z6, .int (nI nC), .ref z7, .ref z8, .ref z9, .ref z10, .ref z11, .ref z12, .ref z13, .ref z14, .ref z15, .ref z16, .int cyc, .int li, .long me, .long mi, .int (nI sn), .ref z17])), (z9, .inl (G.2 3, 20, .inl gP)), (z10, .inl (G.2 3, 20, .inl gQ)), (z11, .inl (G.2 3, 20, .inl gL)), (z12, .inl (G.2 2, 20, .inl gF)), (z13, .inl (G.2 2, 20, .inl gZ)), (z14, .inl (G.2 3, 20, .inl gW))])) (QW G none [(z0, .inr (6, [.int cdv, .int (nI nM), .ref z1, .ref z2, .ref z3, .ref z4, .ref z5, .ref z6, .int (nI nC), .ref z7, .ref z8, .ref z9, .ref z10, .ref z11, .ref z12, .ref z13, .ref z14, .ref z15, .ref z16, .int cyc, .int li, .long me, .long mi, .int (nI sn), .ref z17])), (z9, .inl (G.2 3, 20, .inl gP)), (z10, .inl (G.2 3, 20, .inl gQ)), (z11, .inl (G.2 3, 20, .inl gL)), (z12, .inl (G.2 2, 20, .inl gF)), (z13, .inl (G.2 2, 20, .inl gZ)), (z14, .inl (G.2 3, 20, .inl gW))] [(z0, .inr (6, [.int cdv, .int (nI nM), .ref z1, .ref z2, .ref z3, .ref z4, .ref z5, .ref z6, .int (nI nC), .ref z7, .ref z8, .ref z9, .ref z10, .ref z11, .ref z12, .ref z13, .ref z14, .ref z15, .ref z16, .int cyc, .int li, .long me, .long mi, .int (nI sn), .ref z17])), (z9, .inl (G.2 3, 20, .inl (upd gP k (mfP (gP k))))), (z10, .inl (G.2 3, 20, .inl (upd gQ k (mfQ (gQ k) (gF k))))), (z11, .inl (G.2 3, 20, .inl (upd gL k (mfL (gL k) (gZ k) cs)))), (z12, .inl (G.2 2, 20, .inl (upd gF k (gF k + 1)))), (z13, .inl (G.2 2, 20, .inl (upd gZ k (mfZ (gZ k) cs)))), (z14, .inl (G.2 3, 20, .inl (upd gW k (mfW (gP k) (gW k) (gQ k) (gF k)))))] sz) 0 0 (va_A [(z0, .inr (6, [.int cdv, .int (nI nM), .ref z1, .ref z2, .ref z3, .ref z4, .ref z5, .ref z6, .int (nI nC), .ref z7, .ref z8, .ref z9, .ref z10, .ref z11, .ref z12, .ref z13, .ref z14, .ref z15, .ref z16, .int cyc, .int li, .long me, .long mi, .int (nI sn), .ref z17])), (z9, .inl (G.2 3, 20, .inl gP)), (z10, .inl (G.2 3, 20, .inl gQ)), (z11, .inl (G.2 3, 20, .inl gL)), (z12, .inl (G.2 2, 20, .inl gF)), (z13, .inl (G.2 2, 20, .inl gZ)), (z14, .inl (G.2 3, 20, .inl gW))] sz) := by
  refine Met.ofW (cc := b_MOD_endOff) (maxL := 3) (ret := none) (by decide) rfl ?_
  intro p e s m args below meth c s₁ B hml hv
  obtain ⟨rfl, hsz, hP, hGK, hD0⟩ := hv
  have hx := B.exec
  have hb := B.bytes
  have hr := B.returns
  have hts := atoms_spec (ws := w_MOD_endOff) B.pre
  have hT : ∀ w ∈ lwG, w.before _ s = true := fun w h => hts w (List.mem_cons_of_mem _ h)
  have hown : s.vm.findClass R_MOD = some m.cls := findClass_of_methodNamed B.named
  have hlocks := B.notSynchronized
  have hK := hGK.1
  have hN := hGK.2
  subst hsz
  have hD := hD0.self (sz := s.heap.size)
  generalize hAe : va_A [(z0, .inr (6, [.int cdv, .int (nI nM), .ref z1, .ref z2, .ref z3, .ref z4, .ref z5, .ref z6, .int (nI nC), .ref z7, .ref z8, .ref z9, .ref z10, .ref z11, .ref z12, .ref z13, .ref z14, .ref z15, .ref z16, .int cyc, .int li, .long me, .long mi, .int (nI sn), .ref z17])), (z9, .inl (G.2 3, 20, .inl gP)), (z10, .inl (G.2 3, 20, .inl gQ)), (z11, .inl (G.2 3, 20, .inl gL)), (z12, .inl (G.2 2, 20, .inl gF)), (z13, .inl (G.2 2, 20, .inl gZ)), (z14, .inl (G.2 3, 20, .inl gW))] s.heap.size = A at hD ⊢
  have hA : ∀ q : Nat, s.heap.size ≤ q → A q := fun q h => by rw [← hAe]; exact Or.inr h
  have hS : va_S A s.heap s.heap [] := va_S.rf
  have hP : va_P G.1 vwCl [(z0, .inr (6, [.int cdv, .int (nI nM), .ref z1, .ref z2, .ref z3, .ref z4, .ref z5, .ref z6, .int (nI nC), .ref z7, .ref z8, .ref z9, .ref z10, .ref z11, .ref z12, .ref z13, .ref z14, .ref z15, .ref z16, .int cyc, .int li, .long me, .long mi, .int (nI sn), .ref z17])), (z9, .inl (G.2 3, 20, .inl gP)), (z10, .inl (G.2 3, 20, .inl gQ)), (z11, .inl (G.2 3, 20, .inl gL)), (z12, .inl (G.2 2, 20, .inl gF)), (z13, .inl (G.2 2, 20, .inl gZ)), (z14, .inl (G.2 3, 20, .inl gW))] s.heap := hP
  have hl := lv_entry ([.ref z0, .int (nI k), .int cs]) (n := 3) (Nat.le_of_ble_eq_true rfl)
  rw [lg_entry_eq]
  generalize (lg_sl ([.ref z0, .int (nI k), .int cs]) ++ List.replicate (3 - (lg_sl ([.ref z0, .int (nI k), .int cs])).length) Slot.unset).toArray = ls at hl ⊢
  have hl : lv_has ls 3 [(0, .ref z0), (1, .int (nI k)), (2, .int cs)] := hl
  refine lv_aload_n hx hb d_MOD_endOff_0 rfl (lv_at hl 0 rfl) ?_
  refine va_get (D := G.1) (ci := 6) (v := .ref z9) (C := R_MOD) (T := T_MOD) (N := 25) hx hb hT in_MOD hown hK hP 0 rfl rfl 11 (by decide) (hT _ wd_593) (fun _ h9 => h9) rfl d_MOD_endOff_1 ?_
  refine lv_iload_n hx hb d_MOD_endOff_4 rfl (lv_at hl 1 rfl) ?_
  refine va_zald hx hb hK hP 1 3 rfl rfl (vp_in_nI (by omega) (by omega)) d_MOD_endOff_5 ?_
  refine W.eq (g2 := F0 m 6 ls (.int (gP k) :: [])) (by rw [nI_clamp (by omega)]) ?_
  refine lv_if_eq (tgt := 23) hx hb d_MOD_endOff_6 (by decide) (fun c_6 => ?_) (fun c_6 => ?_)
  · refine lv_aload_n hx hb d_MOD_endOff_23 rfl (lv_at hl 0 rfl) ?_
    refine va_get (D := G.1) (ci := 6) (v := .ref z12) (C := R_MOD) (T := T_MOD) (N := 25) hx hb hT in_MOD hown hK hP 0 rfl rfl 14 (by decide) (hT _ wd_596) (fun _ h9 => h9) rfl d_MOD_endOff_24 ?_
    refine lv_iload_n hx hb d_MOD_endOff_27 rfl (lv_at hl 1 rfl) ?_
    refine lv_dup2_11 hx hb d_MOD_endOff_28 rfl rfl ?_
    refine va_iald hx hb hK hP 4 2 rfl rfl (vp_in_nI (by omega) (by omega)) d_MOD_endOff_29 ?_
    refine W.eq (g2 := F0 m 30 ls (.int (gF k) :: [.int (nI k), .ref z12])) (by rw [nI_clamp (by omega)]) ?_
    refine lv_iconst (v := 1) hx hb d_MOD_endOff_30 (by decide) ?_
    refine lv_iadd hx hb d_MOD_endOff_31 ?_
    refine va_iast hx hb hK hP hD hS 4 2 rfl rfl (vp_in_nI (by omega) (by omega)) d_MOD_endOff_32 (fun H locs hP hD hS => ?_)
    rw [nI_clamp (by omega)] at hP hD
    have hP : va_P G.1 vwCl [(z0, .inr (6, [.int cdv, .int (nI nM), .ref z1, .ref z2, .ref z3, .ref z4, .ref z5, .ref z6, .int (nI nC), .ref z7, .ref z8, .ref z9, .ref z10, .ref z11, .ref z12, .ref z13, .ref z14, .ref z15, .ref z16, .int cyc, .int li, .long me, .long mi, .int (nI sn), .ref z17])), (z9, .inl (G.2 3, 20, .inl gP)), (z10, .inl (G.2 3, 20, .inl gQ)), (z11, .inl (G.2 3, 20, .inl gL)), (z12, .inl (G.2 2, 20, .inl (upd gF k ((gF k) + 1)))), (z13, .inl (G.2 2, 20, .inl gZ)), (z14, .inl (G.2 3, 20, .inl gW))] H := hP
    have hD : va_D A [(z0, .inr (6, [.int cdv, .int (nI nM), .ref z1, .ref z2, .ref z3, .ref z4, .ref z5, .ref z6, .int (nI nC), .ref z7, .ref z8, .ref z9, .ref z10, .ref z11, .ref z12, .ref z13, .ref z14, .ref z15, .ref z16, .int cyc, .int li, .long me, .long mi, .int (nI sn), .ref z17])), (z9, .inl (G.2 3, 20, .inl gP)), (z10, .inl (G.2 3, 20, .inl gQ)), (z11, .inl (G.2 3, 20, .inl gL)), (z12, .inl (G.2 2, 20, .inl (upd gF k ((gF k) + 1)))), (z13, .inl (G.2 2, 20, .inl gZ)), (z14, .inl (G.2 3, 20, .inl gW))] := hD
    refine lv_aload_n hx hb d_MOD_endOff_33 rfl (lv_at hl 0 rfl) ?_
    refine va_get (D := G.1) (ci := 6) (v := .ref z13) (C := R_MOD) (T := T_MOD) (N := 25) hx hb hT in_MOD hown hK hP 0 rfl rfl 15 (by decide) (hT _ wd_597) (fun _ h9 => h9) rfl d_MOD_endOff_34 ?_
    refine lv_iload_n hx hb d_MOD_endOff_37 rfl (lv_at hl 1 rfl) ?_
    refine lv_dup2_11 hx hb d_MOD_endOff_38 rfl rfl ?_
    refine va_iald hx hb hK hP 5 2 rfl rfl (vp_in_nI (by omega) (by omega)) d_MOD_endOff_39 ?_
    refine W.eq (g2 := F0 m 40 ls (.int (gZ k) :: [.int (nI k), .ref z13])) (by rw [nI_clamp (by omega)]) ?_
    refine lv_iload_n hx hb d_MOD_endOff_40 rfl (lv_at hl 2 rfl) ?_
    refine lv_iconst (v := 0) hx hb d_MOD_endOff_41 (by decide) ?_
    refine bx_callV (W.runS (As := [.int cs, .int 0]) (rest := [.int (gZ k), .int (nI k), .ref z13]) ⟨hx, hb, hml, hown, hts⟩ (c_mholds l G cs 0) ⟨(callB_of 2 hts (gi_all wd_685) rfl rfl rfl (hT _ wd_51) (hT _ wd_683) (by decide +kernel) ⟨Nat.le_of_ble_eq_true rfl, Nat.le_of_ble_eq_true rfl⟩), (hT _ wd_684)⟩ (psR bx_nil hGK) rfl rfl hl.1 rfl (lv_room (Nat.le_of_ble_eq_true rfl)) d_MOD_endOff_42 ⟨Nat.le_of_ble_eq_true rfl, Nat.le_of_ble_eq_true rfl⟩) ?_
    refine lv_if_eq (tgt := 52) hx hb d_MOD_endOff_45 (by decide) (fun c_45 => ?_) (fun c_45 => ?_)
    · refine lv_iconst (v := 0) hx hb d_MOD_endOff_52 (by decide) ?_
      refine lv_iadd hx hb d_MOD_endOff_53 ?_
      refine W.eq (g2 := F0 m 54 ls (.int (gZ k) :: [.int (nI k), .ref z13])) (by rw [Int32.add_zero]) ?_
      refine va_iast hx hb hK hP hD hS 5 2 rfl rfl (vp_in_nI (by omega) (by omega)) d_MOD_endOff_54 (fun H locs hP hD hS => ?_)
      rw [nI_clamp (by omega)] at hP hD
      have hP : va_P G.1 vwCl [(z0, .inr (6, [.int cdv, .int (nI nM), .ref z1, .ref z2, .ref z3, .ref z4, .ref z5, .ref z6, .int (nI nC), .ref z7, .ref z8, .ref z9, .ref z10, .ref z11, .ref z12, .ref z13, .ref z14, .ref z15, .ref z16, .int cyc, .int li, .long me, .long mi, .int (nI sn), .ref z17])), (z9, .inl (G.2 3, 20, .inl gP)), (z10, .inl (G.2 3, 20, .inl gQ)), (z11, .inl (G.2 3, 20, .inl gL)), (z12, .inl (G.2 2, 20, .inl (upd gF k ((gF k) + 1)))), (z13, .inl (G.2 2, 20, .inl (upd gZ k (gZ k)))), (z14, .inl (G.2 3, 20, .inl gW))] H := hP
      have hD : va_D A [(z0, .inr (6, [.int cdv, .int (nI nM), .ref z1, .ref z2, .ref z3, .ref z4, .ref z5, .ref z6, .int (nI nC), .ref z7, .ref z8, .ref z9, .ref z10, .ref z11, .ref z12, .ref z13, .ref z14, .ref z15, .ref z16, .int cyc, .int li, .long me, .long mi, .int (nI sn), .ref z17])), (z9, .inl (G.2 3, 20, .inl gP)), (z10, .inl (G.2 3, 20, .inl gQ)), (z11, .inl (G.2 3, 20, .inl gL)), (z12, .inl (G.2 2, 20, .inl (upd gF k ((gF k) + 1)))), (z13, .inl (G.2 2, 20, .inl (upd gZ k (gZ k)))), (z14, .inl (G.2 3, 20, .inl gW))] := hD
      refine lv_aload_n hx hb d_MOD_endOff_55 rfl (lv_at hl 0 rfl) ?_
      refine va_get (D := G.1) (ci := 6) (v := .ref z10) (C := R_MOD) (T := T_MOD) (N := 25) hx hb hT in_MOD hown hK hP 0 rfl rfl 12 (by decide) (hT _ wd_594) (fun _ h9 => h9) rfl d_MOD_endOff_56 ?_
      refine lv_iload_n hx hb d_MOD_endOff_59 rfl (lv_at hl 1 rfl) ?_
      refine va_zald hx hb hK hP 2 3 rfl rfl (vp_in_nI (by omega) (by omega)) d_MOD_endOff_60 ?_
      refine W.eq (g2 := F0 m 61 ls (.int (gQ k) :: [])) (by rw [nI_clamp (by omega)]) ?_
      refine lv_if_eq (tgt := 88) hx hb d_MOD_endOff_61 (by decide) (fun c_61 => ?_) (fun c_61 => ?_)
      · refine lv_aload_n hx hb d_MOD_endOff_88 rfl (lv_at hl 0 rfl) ?_
        refine va_get (D := G.1) (ci := 6) (v := .ref z11) (C := R_MOD) (T := T_MOD) (N := 25) hx hb hT in_MOD hown hK hP 0 rfl rfl 13 (by decide) (hT _ wd_595) (fun _ h9 => h9) rfl d_MOD_endOff_89 ?_
        refine lv_iload_n hx hb d_MOD_endOff_92 rfl (lv_at hl 1 rfl) ?_
        refine lv_aload_n hx hb d_MOD_endOff_93 rfl (lv_at hl 0 rfl) ?_
        refine va_get (D := G.1) (ci := 6) (v := .ref z11) (C := R_MOD) (T := T_MOD) (N := 25) hx hb hT in_MOD hown hK hP 0 rfl rfl 13 (by decide) (hT _ wd_595) (fun _ h9 => h9) rfl d_MOD_endOff_94 ?_
        refine lv_iload_n hx hb d_MOD_endOff_97 rfl (lv_at hl 1 rfl) ?_
        refine va_zald hx hb hK hP 3 3 rfl rfl (vp_in_nI (by omega) (by omega)) d_MOD_endOff_98 ?_
        refine W.eq (g2 := F0 m 99 ls (.int (gL k) :: [.int (nI k), .ref z11])) (by rw [nI_clamp (by omega)]) ?_
        refine lv_if_eq (tgt := 116) hx hb d_MOD_endOff_99 (by decide) (fun c_99 => ?_) (fun c_99 => ?_)
        · refine lv_iconst (v := 0) hx hb d_MOD_endOff_116 (by decide) ?_
          refine va_zast hx hb hK hP hD hS 3 3 rfl rfl (vp_in_nI (by omega) (by omega)) d_MOD_endOff_117 (fun H locs hP hD hS => ?_)
          rw [nI_clamp (by omega), vn0] at hP hD
          have hP : va_P G.1 vwCl [(z0, .inr (6, [.int cdv, .int (nI nM), .ref z1, .ref z2, .ref z3, .ref z4, .ref z5, .ref z6, .int (nI nC), .ref z7, .ref z8, .ref z9, .ref z10, .ref z11, .ref z12, .ref z13, .ref z14, .ref z15, .ref z16, .int cyc, .int li, .long me, .long mi, .int (nI sn), .ref z17])), (z9, .inl (G.2 3, 20, .inl gP)), (z10, .inl (G.2 3, 20, .inl gQ)), (z11, .inl (G.2 3, 20, .inl (upd gL k 0))), (z12, .inl (G.2 2, 20, .inl (upd gF k ((gF k) + 1)))), (z13, .inl (G.2 2, 20, .inl (upd gZ k (gZ k)))), (z14, .inl (G.2 3, 20, .inl gW))] H := hP
          have hD : va_D A [(z0, .inr (6, [.int cdv, .int (nI nM), .ref z1, .ref z2, .ref z3, .ref z4, .ref z5, .ref z6, .int (nI nC), .ref z7, .ref z8, .ref z9, .ref z10, .ref z11, .ref z12, .ref z13, .ref z14, .ref z15, .ref z16, .int cyc, .int li, .long me, .long mi, .int (nI sn), .ref z17])), (z9, .inl (G.2 3, 20, .inl gP)), (z10, .inl (G.2 3, 20, .inl gQ)), (z11, .inl (G.2 3, 20, .inl (upd gL k 0))), (z12, .inl (G.2 2, 20, .inl (upd gF k ((gF k) + 1)))), (z13, .inl (G.2 2, 20, .inl (upd gZ k (gZ k)))), (z14, .inl (G.2 3, 20, .inl gW))] := hD
          have hw9 : ([(z0, .inr (6, [.int cdv, .int (nI nM), .ref z1, .ref z2, .ref z3, .ref z4, .ref z5, .ref z6, .int (nI nC), .ref z7, .ref z8, .ref z9, .ref z10, .ref z11, .ref z12, .ref z13, .ref z14, .ref z15, .ref z16, .int cyc, .int li, .long me, .long mi, .int (nI sn), .ref z17])), (z9, .inl (G.2 3, 20, .inl (upd gP k (mfP (gP k))))), (z10, .inl (G.2 3, 20, .inl (upd gQ k (mfQ (gQ k) (gF k))))), (z11, .inl (G.2 3, 20, .inl (upd gL k (mfL (gL k) (gZ k) cs)))), (z12, .inl (G.2 2, 20, .inl (upd gF k (gF k + 1)))), (z13, .inl (G.2 2, 20, .inl (upd gZ k (mfZ (gZ k) cs)))), (z14, .inl (G.2 3, 20, .inl (upd gW k (mfW (gP k) (gW k) (gQ k) (gF k)))))] : va_W) = [(z0, .inr (6, [.int cdv, .int (nI nM), .ref z1, .ref z2, .ref z3, .ref z4, .ref z5, .ref z6, .int (nI nC), .ref z7, .ref z8, .ref z9, .ref z10, .ref z11, .ref z12, .ref z13, .ref z14, .ref z15, .ref z16, .int cyc, .int li, .long me, .long mi, .int (nI sn), .ref z17])), (z9, .inl (G.2 3, 20, .inl gP)), (z10, .inl (G.2 3, 20, .inl gQ)), (z11, .inl (G.2 3, 20, .inl (upd gL k 0))), (z12, .inl (G.2 2, 20, .inl (upd gF k ((gF k) + 1)))), (z13, .inl (G.2 2, 20, .inl (upd gZ k (gZ k)))), (z14, .inl (G.2 3, 20, .inl gW))] := by first | (simp [mfP, mfQ, mfL, mfZ, mfW, mfW1, pk_us, upd_upd, upd_id, upd_idv, c_6, c_45, c_61, c_99]; done) | (simp_all [mfP, mfQ, mfL, mfZ, mfW, mfW1, pk_us, upd_upd, upd_id, upd_idv]; done)
          rw [← hw9] at hP hD
          exact W.vret hx hb hr (fun t ht hW => ⟨⟨rfl, by rw [ht]; exact hP, by rw [hAe]; exact hD⟩, by rw [hAe]; exact hS.F ht⟩) hS.2.2 d_MOD_endOff_118
        · refine lv_aload_n hx hb d_MOD_endOff_102 rfl (lv_at hl 0 rfl) ?_
          refine va_get (D := G.1) (ci := 6) (v := .ref z13) (C := R_MOD) (T := T_MOD) (N := 25) hx hb hT in_MOD hown hK hP 0 rfl rfl 15 (by decide) (hT _ wd_597) (fun _ h9 => h9) rfl d_MOD_endOff_103 ?_
          refine lv_iload_n hx hb d_MOD_endOff_106 rfl (lv_at hl 1 rfl) ?_
          refine va_iald hx hb hK hP 5 2 rfl rfl (vp_in_nI (by omega) (by omega)) d_MOD_endOff_107 ?_
          refine W.eq (g2 := F0 m 108 ls (.int (gZ k) :: [.int (nI k), .ref z11])) (by rw [nI_clamp (by omega), pk_us]) ?_
          refine lv_iconst (v := 3) hx hb d_MOD_endOff_108 (by decide) ?_
          refine lv_icmp_ge (tgt := 116) hx hb d_MOD_endOff_109 (by decide) (fun c_109 => ?_) (fun c_109 => ?_)
          · refine lv_iconst (v := 0) hx hb d_MOD_endOff_116 (by decide) ?_
            refine va_zast hx hb hK hP hD hS 3 3 rfl rfl (vp_in_nI (by omega) (by omega)) d_MOD_endOff_117 (fun H locs hP hD hS => ?_)
            rw [nI_clamp (by omega), vn0] at hP hD
            have hP : va_P G.1 vwCl [(z0, .inr (6, [.int cdv, .int (nI nM), .ref z1, .ref z2, .ref z3, .ref z4, .ref z5, .ref z6, .int (nI nC), .ref z7, .ref z8, .ref z9, .ref z10, .ref z11, .ref z12, .ref z13, .ref z14, .ref z15, .ref z16, .int cyc, .int li, .long me, .long mi, .int (nI sn), .ref z17])), (z9, .inl (G.2 3, 20, .inl gP)), (z10, .inl (G.2 3, 20, .inl gQ)), (z11, .inl (G.2 3, 20, .inl (upd gL k 0))), (z12, .inl (G.2 2, 20, .inl (upd gF k ((gF k) + 1)))), (z13, .inl (G.2 2, 20, .inl (upd gZ k (gZ k)))), (z14, .inl (G.2 3, 20, .inl gW))] H := hP
            have hD : va_D A [(z0, .inr (6, [.int cdv, .int (nI nM), .ref z1, .ref z2, .ref z3, .ref z4, .ref z5, .ref z6, .int (nI nC), .ref z7, .ref z8, .ref z9, .ref z10, .ref z11, .ref z12, .ref z13, .ref z14, .ref z15, .ref z16, .int cyc, .int li, .long me, .long mi, .int (nI sn), .ref z17])), (z9, .inl (G.2 3, 20, .inl gP)), (z10, .inl (G.2 3, 20, .inl gQ)), (z11, .inl (G.2 3, 20, .inl (upd gL k 0))), (z12, .inl (G.2 2, 20, .inl (upd gF k ((gF k) + 1)))), (z13, .inl (G.2 2, 20, .inl (upd gZ k (gZ k)))), (z14, .inl (G.2 3, 20, .inl gW))] := hD
            have hw9 : ([(z0, .inr (6, [.int cdv, .int (nI nM), .ref z1, .ref z2, .ref z3, .ref z4, .ref z5, .ref z6, .int (nI nC), .ref z7, .ref z8, .ref z9, .ref z10, .ref z11, .ref z12, .ref z13, .ref z14, .ref z15, .ref z16, .int cyc, .int li, .long me, .long mi, .int (nI sn), .ref z17])), (z9, .inl (G.2 3, 20, .inl (upd gP k (mfP (gP k))))), (z10, .inl (G.2 3, 20, .inl (upd gQ k (mfQ (gQ k) (gF k))))), (z11, .inl (G.2 3, 20, .inl (upd gL k (mfL (gL k) (gZ k) cs)))), (z12, .inl (G.2 2, 20, .inl (upd gF k (gF k + 1)))), (z13, .inl (G.2 2, 20, .inl (upd gZ k (mfZ (gZ k) cs)))), (z14, .inl (G.2 3, 20, .inl (upd gW k (mfW (gP k) (gW k) (gQ k) (gF k)))))] : va_W) = [(z0, .inr (6, [.int cdv, .int (nI nM), .ref z1, .ref z2, .ref z3, .ref z4, .ref z5, .ref z6, .int (nI nC), .ref z7, .ref z8, .ref z9, .ref z10, .ref z11, .ref z12, .ref z13, .ref z14, .ref z15, .ref z16, .int cyc, .int li, .long me, .long mi, .int (nI sn), .ref z17])), (z9, .inl (G.2 3, 20, .inl gP)), (z10, .inl (G.2 3, 20, .inl gQ)), (z11, .inl (G.2 3, 20, .inl (upd gL k 0))), (z12, .inl (G.2 2, 20, .inl (upd gF k ((gF k) + 1)))), (z13, .inl (G.2 2, 20, .inl (upd gZ k (gZ k)))), (z14, .inl (G.2 3, 20, .inl gW))] := by first | (simp [mfP, mfQ, mfL, mfZ, mfW, mfW1, pk_us, upd_upd, upd_id, upd_idv, c_6, c_45, c_61, c_99, c_109]; done) | (simp_all [mfP, mfQ, mfL, mfZ, mfW, mfW1, pk_us, upd_upd, upd_id, upd_idv]; done)
            rw [← hw9] at hP hD
            exact W.vret hx hb hr (fun t ht hW => ⟨⟨rfl, by rw [ht]; exact hP, by rw [hAe]; exact hD⟩, by rw [hAe]; exact hS.F ht⟩) hS.2.2 d_MOD_endOff_118
          · refine lv_iconst (v := 1) hx hb d_MOD_endOff_112 (by decide) ?_
            refine lv_goto (tgt := 117) hx hb d_MOD_endOff_113 (by decide) ?_
            refine va_zast hx hb hK hP hD hS 3 3 rfl rfl (vp_in_nI (by omega) (by omega)) d_MOD_endOff_117 (fun H locs hP hD hS => ?_)
            rw [nI_clamp (by omega), vn1] at hP hD
            have hP : va_P G.1 vwCl [(z0, .inr (6, [.int cdv, .int (nI nM), .ref z1, .ref z2, .ref z3, .ref z4, .ref z5, .ref z6, .int (nI nC), .ref z7, .ref z8, .ref z9, .ref z10, .ref z11, .ref z12, .ref z13, .ref z14, .ref z15, .ref z16, .int cyc, .int li, .long me, .long mi, .int (nI sn), .ref z17])), (z9, .inl (G.2 3, 20, .inl gP)), (z10, .inl (G.2 3, 20, .inl gQ)), (z11, .inl (G.2 3, 20, .inl (upd gL k 1))), (z12, .inl (G.2 2, 20, .inl (upd gF k ((gF k) + 1)))), (z13, .inl (G.2 2, 20, .inl (upd gZ k (gZ k)))), (z14, .inl (G.2 3, 20, .inl gW))] H := hP
            have hD : va_D A [(z0, .inr (6, [.int cdv, .int (nI nM), .ref z1, .ref z2, .ref z3, .ref z4, .ref z5, .ref z6, .int (nI nC), .ref z7, .ref z8, .ref z9, .ref z10, .ref z11, .ref z12, .ref z13, .ref z14, .ref z15, .ref z16, .int cyc, .int li, .long me, .long mi, .int (nI sn), .ref z17])), (z9, .inl (G.2 3, 20, .inl gP)), (z10, .inl (G.2 3, 20, .inl gQ)), (z11, .inl (G.2 3, 20, .inl (upd gL k 1))), (z12, .inl (G.2 2, 20, .inl (upd gF k ((gF k) + 1)))), (z13, .inl (G.2 2, 20, .inl (upd gZ k (gZ k)))), (z14, .inl (G.2 3, 20, .inl gW))] := hD
            have hw9 : ([(z0, .inr (6, [.int cdv, .int (nI nM), .ref z1, .ref z2, .ref z3, .ref z4, .ref z5, .ref z6, .int (nI nC), .ref z7, .ref z8, .ref z9, .ref z10, .ref z11, .ref z12, .ref z13, .ref z14, .ref z15, .ref z16, .int cyc, .int li, .long me, .long mi, .int (nI sn), .ref z17])), (z9, .inl (G.2 3, 20, .inl (upd gP k (mfP (gP k))))), (z10, .inl (G.2 3, 20, .inl (upd gQ k (mfQ (gQ k) (gF k))))), (z11, .inl (G.2 3, 20, .inl (upd gL k (mfL (gL k) (gZ k) cs)))), (z12, .inl (G.2 2, 20, .inl (upd gF k (gF k + 1)))), (z13, .inl (G.2 2, 20, .inl (upd gZ k (mfZ (gZ k) cs)))), (z14, .inl (G.2 3, 20, .inl (upd gW k (mfW (gP k) (gW k) (gQ k) (gF k)))))] : va_W) = [(z0, .inr (6, [.int cdv, .int (nI nM), .ref z1, .ref z2, .ref z3, .ref z4, .ref z5, .ref z6, .int (nI nC), .ref z7, .ref z8, .ref z9, .ref z10, .ref z11, .ref z12, .ref z13, .ref z14, .ref z15, .ref z16, .int cyc, .int li, .long me, .long mi, .int (nI sn), .ref z17])), (z9, .inl (G.2 3, 20, .inl gP)), (z10, .inl (G.2 3, 20, .inl gQ)), (z11, .inl (G.2 3, 20, .inl (upd gL k 1))), (z12, .inl (G.2 2, 20, .inl (upd gF k ((gF k) + 1)))), (z13, .inl (G.2 2, 20, .inl (upd gZ k (gZ k)))), (z14, .inl (G.2 3, 20, .inl gW))] := by first | (simp [mfP, mfQ, mfL, mfZ, mfW, mfW1, pk_us, upd_upd, upd_id, upd_idv, c_6, c_45, c_61, c_99, c_109]; done) | (simp_all [mfP, mfQ, mfL, mfZ, mfW, mfW1, pk_us, upd_upd, upd_id, upd_idv]; done)
            rw [← hw9] at hP hD
            exact W.vret hx hb hr (fun t ht hW => ⟨⟨rfl, by rw [ht]; exact hP, by rw [hAe]; exact hD⟩, by rw [hAe]; exact hS.F ht⟩) hS.2.2 d_MOD_endOff_118
      · refine lv_aload_n hx hb d_MOD_endOff_64 rfl (lv_at hl 0 rfl) ?_
        refine va_get (D := G.1) (ci := 6) (v := .ref z12) (C := R_MOD) (T := T_MOD) (N := 25) hx hb hT in_MOD hown hK hP 0 rfl rfl 14 (by decide) (hT _ wd_596) (fun _ h9 => h9) rfl d_MOD_endOff_65 ?_
        refine lv_iload_n hx hb d_MOD_endOff_68 rfl (lv_at hl 1 rfl) ?_
        refine va_iald hx hb hK hP 4 2 rfl rfl (vp_in_nI (by omega) (by omega)) d_MOD_endOff_69 ?_
        refine W.eq (g2 := F0 m 70 ls (.int ((gF k) + 1) :: [])) (by rw [nI_clamp (by omega), pk_us]) ?_
        refine lv_iconst (v := 3) hx hb d_MOD_endOff_70 (by decide) ?_
        refine lv_icmp_lt (tgt := 88) hx hb d_MOD_endOff_71 (by decide) (fun c_71 => ?_) (fun c_71 => ?_)
        · refine lv_aload_n hx hb d_MOD_endOff_88 rfl (lv_at hl 0 rfl) ?_
          refine va_get (D := G.1) (ci := 6) (v := .ref z11) (C := R_MOD) (T := T_MOD) (N := 25) hx hb hT in_MOD hown hK hP 0 rfl rfl 13 (by decide) (hT _ wd_595) (fun _ h9 => h9) rfl d_MOD_endOff_89 ?_
          refine lv_iload_n hx hb d_MOD_endOff_92 rfl (lv_at hl 1 rfl) ?_
          refine lv_aload_n hx hb d_MOD_endOff_93 rfl (lv_at hl 0 rfl) ?_
          refine va_get (D := G.1) (ci := 6) (v := .ref z11) (C := R_MOD) (T := T_MOD) (N := 25) hx hb hT in_MOD hown hK hP 0 rfl rfl 13 (by decide) (hT _ wd_595) (fun _ h9 => h9) rfl d_MOD_endOff_94 ?_
          refine lv_iload_n hx hb d_MOD_endOff_97 rfl (lv_at hl 1 rfl) ?_
          refine va_zald hx hb hK hP 3 3 rfl rfl (vp_in_nI (by omega) (by omega)) d_MOD_endOff_98 ?_
          refine W.eq (g2 := F0 m 99 ls (.int (gL k) :: [.int (nI k), .ref z11])) (by rw [nI_clamp (by omega)]) ?_
          refine lv_if_eq (tgt := 116) hx hb d_MOD_endOff_99 (by decide) (fun c_99 => ?_) (fun c_99 => ?_)
          · refine lv_iconst (v := 0) hx hb d_MOD_endOff_116 (by decide) ?_
            refine va_zast hx hb hK hP hD hS 3 3 rfl rfl (vp_in_nI (by omega) (by omega)) d_MOD_endOff_117 (fun H locs hP hD hS => ?_)
            rw [nI_clamp (by omega), vn0] at hP hD
            have hP : va_P G.1 vwCl [(z0, .inr (6, [.int cdv, .int (nI nM), .ref z1, .ref z2, .ref z3, .ref z4, .ref z5, .ref z6, .int (nI nC), .ref z7, .ref z8, .ref z9, .ref z10, .ref z11, .ref z12, .ref z13, .ref z14, .ref z15, .ref z16, .int cyc, .int li, .long me, .long mi, .int (nI sn), .ref z17])), (z9, .inl (G.2 3, 20, .inl gP)), (z10, .inl (G.2 3, 20, .inl gQ)), (z11, .inl (G.2 3, 20, .inl (upd gL k 0))), (z12, .inl (G.2 2, 20, .inl (upd gF k ((gF k) + 1)))), (z13, .inl (G.2 2, 20, .inl (upd gZ k (gZ k)))), (z14, .inl (G.2 3, 20, .inl gW))] H := hP
            have hD : va_D A [(z0, .inr (6, [.int cdv, .int (nI nM), .ref z1, .ref z2, .ref z3, .ref z4, .ref z5, .ref z6, .int (nI nC), .ref z7, .ref z8, .ref z9, .ref z10, .ref z11, .ref z12, .ref z13, .ref z14, .ref z15, .ref z16, .int cyc, .int li, .long me, .long mi, .int (nI sn), .ref z17])), (z9, .inl (G.2 3, 20, .inl gP)), (z10, .inl (G.2 3, 20, .inl gQ)), (z11, .inl (G.2 3, 20, .inl (upd gL k 0))), (z12, .inl (G.2 2, 20, .inl (upd gF k ((gF k) + 1)))), (z13, .inl (G.2 2, 20, .inl (upd gZ k (gZ k)))), (z14, .inl (G.2 3, 20, .inl gW))] := hD
            have hw9 : ([(z0, .inr (6, [.int cdv, .int (nI nM), .ref z1, .ref z2, .ref z3, .ref z4, .ref z5, .ref z6, .int (nI nC), .ref z7, .ref z8, .ref z9, .ref z10, .ref z11, .ref z12, .ref z13, .ref z14, .ref z15, .ref z16, .int cyc, .int li, .long me, .long mi, .int (nI sn), .ref z17])), (z9, .inl (G.2 3, 20, .inl (upd gP k (mfP (gP k))))), (z10, .inl (G.2 3, 20, .inl (upd gQ k (mfQ (gQ k) (gF k))))), (z11, .inl (G.2 3, 20, .inl (upd gL k (mfL (gL k) (gZ k) cs)))), (z12, .inl (G.2 2, 20, .inl (upd gF k (gF k + 1)))), (z13, .inl (G.2 2, 20, .inl (upd gZ k (mfZ (gZ k) cs)))), (z14, .inl (G.2 3, 20, .inl (upd gW k (mfW (gP k) (gW k) (gQ k) (gF k)))))] : va_W) = [(z0, .inr (6, [.int cdv, .int (nI nM), .ref z1, .ref z2, .ref z3, .ref z4, .ref z5, .ref z6, .int (nI nC), .ref z7, .ref z8, .ref z9, .ref z10, .ref z11, .ref z12, .ref z13, .ref z14, .ref z15, .ref z16, .int cyc, .int li, .long me, .long mi, .int (nI sn), .ref z17])), (z9, .inl (G.2 3, 20, .inl gP)), (z10, .inl (G.2 3, 20, .inl gQ)), (z11, .inl (G.2 3, 20, .inl (upd gL k 0))), (z12, .inl (G.2 2, 20, .inl (upd gF k ((gF k) + 1)))), (z13, .inl (G.2 2, 20, .inl (upd gZ k (gZ k)))), (z14, .inl (G.2 3, 20, .inl gW))] := by first | (simp [mfP, mfQ, mfL, mfZ, mfW, mfW1, pk_us, upd_upd, upd_id, upd_idv, c_6, c_45, c_61, c_71, c_99]; done) | (simp_all [mfP, mfQ, mfL, mfZ, mfW, mfW1, pk_us, upd_upd, upd_id, upd_idv]; done)
            rw [← hw9] at hP hD
            exact W.vret hx hb hr (fun t ht hW => ⟨⟨rfl, by rw [ht]; exact hP, by rw [hAe]; exact hD⟩, by rw [hAe]; exact hS.F ht⟩) hS.2.2 d_MOD_endOff_118
          · refine lv_aload_n hx hb d_MOD_endOff_102 rfl (lv_at hl 0 rfl) ?_
            refine va_get (D := G.1) (ci := 6) (v := .ref z13) (C := R_MOD) (T := T_MOD) (N := 25) hx hb hT in_MOD hown hK hP 0 rfl rfl 15 (by decide) (hT _ wd_597) (fun _ h9 => h9) rfl d_MOD_endOff_103 ?_
            refine lv_iload_n hx hb d_MOD_endOff_106 rfl (lv_at hl 1 rfl) ?_
            refine va_iald hx hb hK hP 5 2 rfl rfl (vp_in_nI (by omega) (by omega)) d_MOD_endOff_107 ?_
            refine W.eq (g2 := F0 m 108 ls (.int (gZ k) :: [.int (nI k), .ref z11])) (by rw [nI_clamp (by omega), pk_us]) ?_
            refine lv_iconst (v := 3) hx hb d_MOD_endOff_108 (by decide) ?_
            refine lv_icmp_ge (tgt := 116) hx hb d_MOD_endOff_109 (by decide) (fun c_109 => ?_) (fun c_109 => ?_)
            · refine lv_iconst (v := 0) hx hb d_MOD_endOff_116 (by decide) ?_
              refine va_zast hx hb hK hP hD hS 3 3 rfl rfl (vp_in_nI (by omega) (by omega)) d_MOD_endOff_117 (fun H locs hP hD hS => ?_)
              rw [nI_clamp (by omega), vn0] at hP hD
              have hP : va_P G.1 vwCl [(z0, .inr (6, [.int cdv, .int (nI nM), .ref z1, .ref z2, .ref z3, .ref z4, .ref z5, .ref z6, .int (nI nC), .ref z7, .ref z8, .ref z9, .ref z10, .ref z11, .ref z12, .ref z13, .ref z14, .ref z15, .ref z16, .int cyc, .int li, .long me, .long mi, .int (nI sn), .ref z17])), (z9, .inl (G.2 3, 20, .inl gP)), (z10, .inl (G.2 3, 20, .inl gQ)), (z11, .inl (G.2 3, 20, .inl (upd gL k 0))), (z12, .inl (G.2 2, 20, .inl (upd gF k ((gF k) + 1)))), (z13, .inl (G.2 2, 20, .inl (upd gZ k (gZ k)))), (z14, .inl (G.2 3, 20, .inl gW))] H := hP
              have hD : va_D A [(z0, .inr (6, [.int cdv, .int (nI nM), .ref z1, .ref z2, .ref z3, .ref z4, .ref z5, .ref z6, .int (nI nC), .ref z7, .ref z8, .ref z9, .ref z10, .ref z11, .ref z12, .ref z13, .ref z14, .ref z15, .ref z16, .int cyc, .int li, .long me, .long mi, .int (nI sn), .ref z17])), (z9, .inl (G.2 3, 20, .inl gP)), (z10, .inl (G.2 3, 20, .inl gQ)), (z11, .inl (G.2 3, 20, .inl (upd gL k 0))), (z12, .inl (G.2 2, 20, .inl (upd gF k ((gF k) + 1)))), (z13, .inl (G.2 2, 20, .inl (upd gZ k (gZ k)))), (z14, .inl (G.2 3, 20, .inl gW))] := hD
              have hw9 : ([(z0, .inr (6, [.int cdv, .int (nI nM), .ref z1, .ref z2, .ref z3, .ref z4, .ref z5, .ref z6, .int (nI nC), .ref z7, .ref z8, .ref z9, .ref z10, .ref z11, .ref z12, .ref z13, .ref z14, .ref z15, .ref z16, .int cyc, .int li, .long me, .long mi, .int (nI sn), .ref z17])), (z9, .inl (G.2 3, 20, .inl (upd gP k (mfP (gP k))))), (z10, .inl (G.2 3, 20, .inl (upd gQ k (mfQ (gQ k) (gF k))))), (z11, .inl (G.2 3, 20, .inl (upd gL k (mfL (gL k) (gZ k) cs)))), (z12, .inl (G.2 2, 20, .inl (upd gF k (gF k + 1)))), (z13, .inl (G.2 2, 20, .inl (upd gZ k (mfZ (gZ k) cs)))), (z14, .inl (G.2 3, 20, .inl (upd gW k (mfW (gP k) (gW k) (gQ k) (gF k)))))] : va_W) = [(z0, .inr (6, [.int cdv, .int (nI nM), .ref z1, .ref z2, .ref z3, .ref z4, .ref z5, .ref z6, .int (nI nC), .ref z7, .ref z8, .ref z9, .ref z10, .ref z11, .ref z12, .ref z13, .ref z14, .ref z15, .ref z16, .int cyc, .int li, .long me, .long mi, .int (nI sn), .ref z17])), (z9, .inl (G.2 3, 20, .inl gP)), (z10, .inl (G.2 3, 20, .inl gQ)), (z11, .inl (G.2 3, 20, .inl (upd gL k 0))), (z12, .inl (G.2 2, 20, .inl (upd gF k ((gF k) + 1)))), (z13, .inl (G.2 2, 20, .inl (upd gZ k (gZ k)))), (z14, .inl (G.2 3, 20, .inl gW))] := by first | (simp [mfP, mfQ, mfL, mfZ, mfW, mfW1, pk_us, upd_upd, upd_id, upd_idv, c_6, c_45, c_61, c_71, c_99, c_109]; done) | (simp_all [mfP, mfQ, mfL, mfZ, mfW, mfW1, pk_us, upd_upd, upd_id, upd_idv]; done)
              rw [← hw9] at hP hD
              exact W.vret hx hb hr (fun t ht hW => ⟨⟨rfl, by rw [ht]; exact hP, by rw [hAe]; exact hD⟩, by rw [hAe]; exact hS.F ht⟩) hS.2.2 d_MOD_endOff_118
            · refine lv_iconst (v := 1) hx hb d_MOD_endOff_112 (by decide) ?_
              refine lv_goto (tgt := 117) hx hb d_MOD_endOff_113 (by decide) ?_
              refine va_zast hx hb hK hP hD hS 3 3 rfl rfl (vp_in_nI (by omega) (by omega)) d_MOD_endOff_117 (fun H locs hP hD hS => ?_)
              rw [nI_clamp (by omega), vn1] at hP hD
              have hP : va_P G.1 vwCl [(z0, .inr (6, [.int cdv, .int (nI nM), .ref z1, .ref z2, .ref z3, .ref z4, .ref z5, .ref z6, .int (nI nC), .ref z7, .ref z8, .ref z9, .ref z10, .ref z11, .ref z12, .ref z13, .ref z14, .ref z15, .ref z16, .int cyc, .int li, .long me, .long mi, .int (nI sn), .ref z17])), (z9, .inl (G.2 3, 20, .inl gP)), (z10, .inl (G.2 3, 20, .inl gQ)), (z11, .inl (G.2 3, 20, .inl (upd gL k 1))), (z12, .inl (G.2 2, 20, .inl (upd gF k ((gF k) + 1)))), (z13, .inl (G.2 2, 20, .inl (upd gZ k (gZ k)))), (z14, .inl (G.2 3, 20, .inl gW))] H := hP
              have hD : va_D A [(z0, .inr (6, [.int cdv, .int (nI nM), .ref z1, .ref z2, .ref z3, .ref z4, .ref z5, .ref z6, .int (nI nC), .ref z7, .ref z8, .ref z9, .ref z10, .ref z11, .ref z12, .ref z13, .ref z14, .ref z15, .ref z16, .int cyc, .int li, .long me, .long mi, .int (nI sn), .ref z17])), (z9, .inl (G.2 3, 20, .inl gP)), (z10, .inl (G.2 3, 20, .inl gQ)), (z11, .inl (G.2 3, 20, .inl (upd gL k 1))), (z12, .inl (G.2 2, 20, .inl (upd gF k ((gF k) + 1)))), (z13, .inl (G.2 2, 20, .inl (upd gZ k (gZ k)))), (z14, .inl (G.2 3, 20, .inl gW))] := hD
              have hw9 : ([(z0, .inr (6, [.int cdv, .int (nI nM), .ref z1, .ref z2, .ref z3, .ref z4, .ref z5, .ref z6, .int (nI nC), .ref z7, .ref z8, .ref z9, .ref z10, .ref z11, .ref z12, .ref z13, .ref z14, .ref z15, .ref z16, .int cyc, .int li, .long me, .long mi, .int (nI sn), .ref z17])), (z9, .inl (G.2 3, 20, .inl (upd gP k (mfP (gP k))))), (z10, .inl (G.2 3, 20, .inl (upd gQ k (mfQ (gQ k) (gF k))))), (z11, .inl (G.2 3, 20, .inl (upd gL k (mfL (gL k) (gZ k) cs)))), (z12, .inl (G.2 2, 20, .inl (upd gF k (gF k + 1)))), (z13, .inl (G.2 2, 20, .inl (upd gZ k (mfZ (gZ k) cs)))), (z14, .inl (G.2 3, 20, .inl (upd gW k (mfW (gP k) (gW k) (gQ k) (gF k)))))] : va_W) = [(z0, .inr (6, [.int cdv, .int (nI nM), .ref z1, .ref z2, .ref z3, .ref z4, .ref z5, .ref z6, .int (nI nC), .ref z7, .ref z8, .ref z9, .ref z10, .ref z11, .ref z12, .ref z13, .ref z14, .ref z15, .ref z16, .int cyc, .int li, .long me, .long mi, .int (nI sn), .ref z17])), (z9, .inl (G.2 3, 20, .inl gP)), (z10, .inl (G.2 3, 20, .inl gQ)), (z11, .inl (G.2 3, 20, .inl (upd gL k 1))), (z12, .inl (G.2 2, 20, .inl (upd gF k ((gF k) + 1)))), (z13, .inl (G.2 2, 20, .inl (upd gZ k (gZ k)))), (z14, .inl (G.2 3, 20, .inl gW))] := by first | (simp [mfP, mfQ, mfL, mfZ, mfW, mfW1, pk_us, upd_upd, upd_id, upd_idv, c_6, c_45, c_61, c_71, c_99, c_109]; done) | (simp_all [mfP, mfQ, mfL, mfZ, mfW, mfW1, pk_us, upd_upd, upd_id, upd_idv]; done)
              rw [← hw9] at hP hD
              exact W.vret hx hb hr (fun t ht hW => ⟨⟨rfl, by rw [ht]; exact hP, by rw [hAe]; exact hD⟩, by rw [hAe]; exact hS.F ht⟩) hS.2.2 d_MOD_endOff_118
        · refine lv_aload_n hx hb d_MOD_endOff_74 rfl (lv_at hl 0 rfl) ?_
          refine va_get (D := G.1) (ci := 6) (v := .ref z10) (C := R_MOD) (T := T_MOD) (N := 25) hx hb hT in_MOD hown hK hP 0 rfl rfl 12 (by decide) (hT _ wd_594) (fun _ h9 => h9) rfl d_MOD_endOff_75 ?_
          refine lv_iload_n hx hb d_MOD_endOff_78 rfl (lv_at hl 1 rfl) ?_
          refine lv_iconst (v := 0) hx hb d_MOD_endOff_79 (by decide) ?_
          refine va_zast hx hb hK hP hD hS 2 3 rfl rfl (vp_in_nI (by omega) (by omega)) d_MOD_endOff_80 (fun H locs hP hD hS => ?_)
          rw [nI_clamp (by omega), vn0] at hP hD
          have hP : va_P G.1 vwCl [(z0, .inr (6, [.int cdv, .int (nI nM), .ref z1, .ref z2, .ref z3, .ref z4, .ref z5, .ref z6, .int (nI nC), .ref z7, .ref z8, .ref z9, .ref z10, .ref z11, .ref z12, .ref z13, .ref z14, .ref z15, .ref z16, .int cyc, .int li, .long me, .long mi, .int (nI sn), .ref z17])), (z9, .inl (G.2 3, 20, .inl gP)), (z10, .inl (G.2 3, 20, .inl (upd gQ k 0))), (z11, .inl (G.2 3, 20, .inl gL)), (z12, .inl (G.2 2, 20, .inl (upd gF k ((gF k) + 1)))), (z13, .inl (G.2 2, 20, .inl (upd gZ k (gZ k)))), (z14, .inl (G.2 3, 20, .inl gW))] H := hP
          have hD : va_D A [(z0, .inr (6, [.int cdv, .int (nI nM), .ref z1, .ref z2, .ref z3, .ref z4, .ref z5, .ref z6, .int (nI nC), .ref z7, .ref z8, .ref z9, .ref z10, .ref z11, .ref z12, .ref z13, .ref z14, .ref z15, .ref z16, .int cyc, .int li, .long me, .long mi, .int (nI sn), .ref z17])), (z9, .inl (G.2 3, 20, .inl gP)), (z10, .inl (G.2 3, 20, .inl (upd gQ k 0))), (z11, .inl (G.2 3, 20, .inl gL)), (z12, .inl (G.2 2, 20, .inl (upd gF k ((gF k) + 1)))), (z13, .inl (G.2 2, 20, .inl (upd gZ k (gZ k)))), (z14, .inl (G.2 3, 20, .inl gW))] := hD
          refine lv_aload_n hx hb d_MOD_endOff_81 rfl (lv_at hl 0 rfl) ?_
          refine va_get (D := G.1) (ci := 6) (v := .ref z14) (C := R_MOD) (T := T_MOD) (N := 25) hx hb hT in_MOD hown hK hP 0 rfl rfl 16 (by decide) (hT _ wd_598) (fun _ h9 => h9) rfl d_MOD_endOff_82 ?_
          refine lv_iload_n hx hb d_MOD_endOff_85 rfl (lv_at hl 1 rfl) ?_
          refine lv_iconst (v := 0) hx hb d_MOD_endOff_86 (by decide) ?_
          refine va_zast hx hb hK hP hD hS 6 3 rfl rfl (vp_in_nI (by omega) (by omega)) d_MOD_endOff_87 (fun H locs hP hD hS => ?_)
          rw [nI_clamp (by omega), vn0] at hP hD
          have hP : va_P G.1 vwCl [(z0, .inr (6, [.int cdv, .int (nI nM), .ref z1, .ref z2, .ref z3, .ref z4, .ref z5, .ref z6, .int (nI nC), .ref z7, .ref z8, .ref z9, .ref z10, .ref z11, .ref z12, .ref z13, .ref z14, .ref z15, .ref z16, .int cyc, .int li, .long me, .long mi, .int (nI sn), .ref z17])), (z9, .inl (G.2 3, 20, .inl gP)), (z10, .inl (G.2 3, 20, .inl (upd gQ k 0))), (z11, .inl (G.2 3, 20, .inl gL)), (z12, .inl (G.2 2, 20, .inl (upd gF k ((gF k) + 1)))), (z13, .inl (G.2 2, 20, .inl (upd gZ k (gZ k)))), (z14, .inl (G.2 3, 20, .inl (upd gW k 0)))] H := hP
          have hD : va_D A [(z0, .inr (6, [.int cdv, .int (nI nM), .ref z1, .ref z2, .ref z3, .ref z4, .ref z5, .ref z6, .int (nI nC), .ref z7, .ref z8, .ref z9, .ref z10, .ref z11, .ref z12, .ref z13, .ref z14, .ref z15, .ref z16, .int cyc, .int li, .long me, .long mi, .int (nI sn), .ref z17])), (z9, .inl (G.2 3, 20, .inl gP)), (z10, .inl (G.2 3, 20, .inl (upd gQ k 0))), (z11, .inl (G.2 3, 20, .inl gL)), (z12, .inl (G.2 2, 20, .inl (upd gF k ((gF k) + 1)))), (z13, .inl (G.2 2, 20, .inl (upd gZ k (gZ k)))), (z14, .inl (G.2 3, 20, .inl (upd gW k 0)))] := hD
          refine lv_aload_n hx hb d_MOD_endOff_88 rfl (lv_at hl 0 rfl) ?_
          refine va_get (D := G.1) (ci := 6) (v := .ref z11) (C := R_MOD) (T := T_MOD) (N := 25) hx hb hT in_MOD hown hK hP 0 rfl rfl 13 (by decide) (hT _ wd_595) (fun _ h9 => h9) rfl d_MOD_endOff_89 ?_
          refine lv_iload_n hx hb d_MOD_endOff_92 rfl (lv_at hl 1 rfl) ?_
          refine lv_aload_n hx hb d_MOD_endOff_93 rfl (lv_at hl 0 rfl) ?_
          refine va_get (D := G.1) (ci := 6) (v := .ref z11) (C := R_MOD) (T := T_MOD) (N := 25) hx hb hT in_MOD hown hK hP 0 rfl rfl 13 (by decide) (hT _ wd_595) (fun _ h9 => h9) rfl d_MOD_endOff_94 ?_
          refine lv_iload_n hx hb d_MOD_endOff_97 rfl (lv_at hl 1 rfl) ?_
          refine va_zald hx hb hK hP 3 3 rfl rfl (vp_in_nI (by omega) (by omega)) d_MOD_endOff_98 ?_
          refine W.eq (g2 := F0 m 99 ls (.int (gL k) :: [.int (nI k), .ref z11])) (by rw [nI_clamp (by omega)]) ?_
          refine lv_if_eq (tgt := 116) hx hb d_MOD_endOff_99 (by decide) (fun c_99 => ?_) (fun c_99 => ?_)
          · refine lv_iconst (v := 0) hx hb d_MOD_endOff_116 (by decide) ?_
            refine va_zast hx hb hK hP hD hS 3 3 rfl rfl (vp_in_nI (by omega) (by omega)) d_MOD_endOff_117 (fun H locs hP hD hS => ?_)
            rw [nI_clamp (by omega), vn0] at hP hD
            have hP : va_P G.1 vwCl [(z0, .inr (6, [.int cdv, .int (nI nM), .ref z1, .ref z2, .ref z3, .ref z4, .ref z5, .ref z6, .int (nI nC), .ref z7, .ref z8, .ref z9, .ref z10, .ref z11, .ref z12, .ref z13, .ref z14, .ref z15, .ref z16, .int cyc, .int li, .long me, .long mi, .int (nI sn), .ref z17])), (z9, .inl (G.2 3, 20, .inl gP)), (z10, .inl (G.2 3, 20, .inl (upd gQ k 0))), (z11, .inl (G.2 3, 20, .inl (upd gL k 0))), (z12, .inl (G.2 2, 20, .inl (upd gF k ((gF k) + 1)))), (z13, .inl (G.2 2, 20, .inl (upd gZ k (gZ k)))), (z14, .inl (G.2 3, 20, .inl (upd gW k 0)))] H := hP
            have hD : va_D A [(z0, .inr (6, [.int cdv, .int (nI nM), .ref z1, .ref z2, .ref z3, .ref z4, .ref z5, .ref z6, .int (nI nC), .ref z7, .ref z8, .ref z9, .ref z10, .ref z11, .ref z12, .ref z13, .ref z14, .ref z15, .ref z16, .int cyc, .int li, .long me, .long mi, .int (nI sn), .ref z17])), (z9, .inl (G.2 3, 20, .inl gP)), (z10, .inl (G.2 3, 20, .inl (upd gQ k 0))), (z11, .inl (G.2 3, 20, .inl (upd gL k 0))), (z12, .inl (G.2 2, 20, .inl (upd gF k ((gF k) + 1)))), (z13, .inl (G.2 2, 20, .inl (upd gZ k (gZ k)))), (z14, .inl (G.2 3, 20, .inl (upd gW k 0)))] := hD
            have hw9 : ([(z0, .inr (6, [.int cdv, .int (nI nM), .ref z1, .ref z2, .ref z3, .ref z4, .ref z5, .ref z6, .int (nI nC), .ref z7, .ref z8, .ref z9, .ref z10, .ref z11, .ref z12, .ref z13, .ref z14, .ref z15, .ref z16, .int cyc, .int li, .long me, .long mi, .int (nI sn), .ref z17])), (z9, .inl (G.2 3, 20, .inl (upd gP k (mfP (gP k))))), (z10, .inl (G.2 3, 20, .inl (upd gQ k (mfQ (gQ k) (gF k))))), (z11, .inl (G.2 3, 20, .inl (upd gL k (mfL (gL k) (gZ k) cs)))), (z12, .inl (G.2 2, 20, .inl (upd gF k (gF k + 1)))), (z13, .inl (G.2 2, 20, .inl (upd gZ k (mfZ (gZ k) cs)))), (z14, .inl (G.2 3, 20, .inl (upd gW k (mfW (gP k) (gW k) (gQ k) (gF k)))))] : va_W) = [(z0, .inr (6, [.int cdv, .int (nI nM), .ref z1, .ref z2, .ref z3, .ref z4, .ref z5, .ref z6, .int (nI nC), .ref z7, .ref z8, .ref z9, .ref z10, .ref z11, .ref z12, .ref z13, .ref z14, .ref z15, .ref z16, .int cyc, .int li, .long me, .long mi, .int (nI sn), .ref z17])), (z9, .inl (G.2 3, 20, .inl gP)), (z10, .inl (G.2 3, 20, .inl (upd gQ k 0))), (z11, .inl (G.2 3, 20, .inl (upd gL k 0))), (z12, .inl (G.2 2, 20, .inl (upd gF k ((gF k) + 1)))), (z13, .inl (G.2 2, 20, .inl (upd gZ k (gZ k)))), (z14, .inl (G.2 3, 20, .inl (upd gW k 0)))] := by first | (simp [mfP, mfQ, mfL, mfZ, mfW, mfW1, pk_us, upd_upd, upd_id, upd_idv, c_6, c_45, c_61, c_71, c_99]; done) | (simp_all [mfP, mfQ, mfL, mfZ, mfW, mfW1, pk_us, upd_upd, upd_id, upd_idv]; done)
            rw [← hw9] at hP hD
            exact W.vret hx hb hr (fun t ht hW => ⟨⟨rfl, by rw [ht]; exact hP, by rw [hAe]; exact hD⟩, by rw [hAe]; exact hS.F ht⟩) hS.2.2 d_MOD_endOff_118
          · refine lv_aload_n hx hb d_MOD_endOff_102 rfl (lv_at hl 0 rfl) ?_
            refine va_get (D := G.1) (ci := 6) (v := .ref z13) (C := R_MOD) (T := T_MOD) (N := 25) hx hb hT in_MOD hown hK hP 0 rfl rfl 15 (by decide) (hT _ wd_597) (fun _ h9 => h9) rfl d_MOD_endOff_103 ?_
            refine lv_iload_n hx hb d_MOD_endOff_106 rfl (lv_at hl 1 rfl) ?_
            refine va_iald hx hb hK hP 5 2 rfl rfl (vp_in_nI (by omega) (by omega)) d_MOD_endOff_107 ?_
            refine W.eq (g2 := F0 m 108 ls (.int (gZ k) :: [.int (nI k), .ref z11])) (by rw [nI_clamp (by omega), pk_us]) ?_
            refine lv_iconst (v := 3) hx hb d_MOD_endOff_108 (by decide) ?_
            refine lv_icmp_ge (tgt := 116) hx hb d_MOD_endOff_109 (by decide) (fun c_109 => ?_) (fun c_109 => ?_)
            · refine lv_iconst (v := 0) hx hb d_MOD_endOff_116 (by decide) ?_
              refine va_zast hx hb hK hP hD hS 3 3 rfl rfl (vp_in_nI (by omega) (by omega)) d_MOD_endOff_117 (fun H locs hP hD hS => ?_)
              rw [nI_clamp (by omega), vn0] at hP hD
              have hP : va_P G.1 vwCl [(z0, .inr (6, [.int cdv, .int (nI nM), .ref z1, .ref z2, .ref z3, .ref z4, .ref z5, .ref z6, .int (nI nC), .ref z7, .ref z8, .ref z9, .ref z10, .ref z11, .ref z12, .ref z13, .ref z14, .ref z15, .ref z16, .int cyc, .int li, .long me, .long mi, .int (nI sn), .ref z17])), (z9, .inl (G.2 3, 20, .inl gP)), (z10, .inl (G.2 3, 20, .inl (upd gQ k 0))), (z11, .inl (G.2 3, 20, .inl (upd gL k 0))), (z12, .inl (G.2 2, 20, .inl (upd gF k ((gF k) + 1)))), (z13, .inl (G.2 2, 20, .inl (upd gZ k (gZ k)))), (z14, .inl (G.2 3, 20, .inl (upd gW k 0)))] H := hP
              have hD : va_D A [(z0, .inr (6, [.int cdv, .int (nI nM), .ref z1, .ref z2, .ref z3, .ref z4, .ref z5, .ref z6, .int (nI nC), .ref z7, .ref z8, .ref z9, .ref z10, .ref z11, .ref z12, .ref z13, .ref z14, .ref z15, .ref z16, .int cyc, .int li, .long me, .long mi, .int (nI sn), .ref z17])), (z9, .inl (G.2 3, 20, .inl gP)), (z10, .inl (G.2 3, 20, .inl (upd gQ k 0))), (z11, .inl (G.2 3, 20, .inl (upd gL k 0))), (z12, .inl (G.2 2, 20, .inl (upd gF k ((gF k) + 1)))), (z13, .inl (G.2 2, 20, .inl (upd gZ k (gZ k)))), (z14, .inl (G.2 3, 20, .inl (upd gW k 0)))] := hD
              have hw9 : ([(z0, .inr (6, [.int cdv, .int (nI nM), .ref z1, .ref z2, .ref z3, .ref z4, .ref z5, .ref z6, .int (nI nC), .ref z7, .ref z8, .ref z9, .ref z10, .ref z11, .ref z12, .ref z13, .ref z14, .ref z15, .ref z16, .int cyc, .int li, .long me, .long mi, .int (nI sn), .ref z17])), (z9, .inl (G.2 3, 20, .inl (upd gP k (mfP (gP k))))), (z10, .inl (G.2 3, 20, .inl (upd gQ k (mfQ (gQ k) (gF k))))), (z11, .inl (G.2 3, 20, .inl (upd gL k (mfL (gL k) (gZ k) cs)))), (z12, .inl (G.2 2, 20, .inl (upd gF k (gF k + 1)))), (z13, .inl (G.2 2, 20, .inl (upd gZ k (mfZ (gZ k) cs)))), (z14, .inl (G.2 3, 20, .inl (upd gW k (mfW (gP k) (gW k) (gQ k) (gF k)))))] : va_W) = [(z0, .inr (6, [.int cdv, .int (nI nM), .ref z1, .ref z2, .ref z3, .ref z4, .ref z5, .ref z6, .int (nI nC), .ref z7, .ref z8, .ref z9, .ref z10, .ref z11, .ref z12, .ref z13, .ref z14, .ref z15, .ref z16, .int cyc, .int li, .long me, .long mi, .int (nI sn), .ref z17])), (z9, .inl (G.2 3, 20, .inl gP)), (z10, .inl (G.2 3, 20, .inl (upd gQ k 0))), (z11, .inl (G.2 3, 20, .inl (upd gL k 0))), (z12, .inl (G.2 2, 20, .inl (upd gF k ((gF k) + 1)))), (z13, .inl (G.2 2, 20, .inl (upd gZ k (gZ k)))), (z14, .inl (G.2 3, 20, .inl (upd gW k 0)))] := by first | (simp [mfP, mfQ, mfL, mfZ, mfW, mfW1, pk_us, upd_upd, upd_id, upd_idv, c_6, c_45, c_61, c_71, c_99, c_109]; done) | (simp_all [mfP, mfQ, mfL, mfZ, mfW, mfW1, pk_us, upd_upd, upd_id, upd_idv]; done)
              rw [← hw9] at hP hD
              exact W.vret hx hb hr (fun t ht hW => ⟨⟨rfl, by rw [ht]; exact hP, by rw [hAe]; exact hD⟩, by rw [hAe]; exact hS.F ht⟩) hS.2.2 d_MOD_endOff_118
            · refine lv_iconst (v := 1) hx hb d_MOD_endOff_112 (by decide) ?_
              refine lv_goto (tgt := 117) hx hb d_MOD_endOff_113 (by decide) ?_
              refine va_zast hx hb hK hP hD hS 3 3 rfl rfl (vp_in_nI (by omega) (by omega)) d_MOD_endOff_117 (fun H locs hP hD hS => ?_)
              rw [nI_clamp (by omega), vn1] at hP hD
              have hP : va_P G.1 vwCl [(z0, .inr (6, [.int cdv, .int (nI nM), .ref z1, .ref z2, .ref z3, .ref z4, .ref z5, .ref z6, .int (nI nC), .ref z7, .ref z8, .ref z9, .ref z10, .ref z11, .ref z12, .ref z13, .ref z14, .ref z15, .ref z16, .int cyc, .int li, .long me, .long mi, .int (nI sn), .ref z17])), (z9, .inl (G.2 3, 20, .inl gP)), (z10, .inl (G.2 3, 20, .inl (upd gQ k 0))), (z11, .inl (G.2 3, 20, .inl (upd gL k 1))), (z12, .inl (G.2 2, 20, .inl (upd gF k ((gF k) + 1)))), (z13, .inl (G.2 2, 20, .inl (upd gZ k (gZ k)))), (z14, .inl (G.2 3, 20, .inl (upd gW k 0)))] H := hP
              have hD : va_D A [(z0, .inr (6, [.int cdv, .int (nI nM), .ref z1, .ref z2, .ref z3, .ref z4, .ref z5, .ref z6, .int (nI nC), .ref z7, .ref z8, .ref z9, .ref z10, .ref z11, .ref z12, .ref z13, .ref z14, .ref z15, .ref z16, .int cyc, .int li, .long me, .long mi, .int (nI sn), .ref z17])), (z9, .inl (G.2 3, 20, .inl gP)), (z10, .inl (G.2 3, 20, .inl (upd gQ k 0))), (z11, .inl (G.2 3, 20, .inl (upd gL k 1))), (z12, .inl (G.2 2, 20, .inl (upd gF k ((gF k) + 1)))), (z13, .inl (G.2 2, 20, .inl (upd gZ k (gZ k)))), (z14, .inl (G.2 3, 20, .inl (upd gW k 0)))] := hD
              have hw9 : ([(z0, .inr (6, [.int cdv, .int (nI nM), .ref z1, .ref z2, .ref z3, .ref z4, .ref z5, .ref z6, .int (nI nC), .ref z7, .ref z8, .ref z9, .ref z10, .ref z11, .ref z12, .ref z13, .ref z14, .ref z15, .ref z16, .int cyc, .int li, .long me, .long mi, .int (nI sn), .ref z17])), (z9, .inl (G.2 3, 20, .inl (upd gP k (mfP (gP k))))), (z10, .inl (G.2 3, 20, .inl (upd gQ k (mfQ (gQ k) (gF k))))), (z11, .inl (G.2 3, 20, .inl (upd gL k (mfL (gL k) (gZ k) cs)))), (z12, .inl (G.2 2, 20, .inl (upd gF k (gF k + 1)))), (z13, .inl (G.2 2, 20, .inl (upd gZ k (mfZ (gZ k) cs)))), (z14, .inl (G.2 3, 20, .inl (upd gW k (mfW (gP k) (gW k) (gQ k) (gF k)))))] : va_W) = [(z0, .inr (6, [.int cdv, .int (nI nM), .ref z1, .ref z2, .ref z3, .ref z4, .ref z5, .ref z6, .int (nI nC), .ref z7, .ref z8, .ref z9, .ref z10, .ref z11, .ref z12, .ref z13, .ref z14, .ref z15, .ref z16, .int cyc, .int li, .long me, .long mi, .int (nI sn), .ref z17])), (z9, .inl (G.2 3, 20, .inl gP)), (z10, .inl (G.2 3, 20, .inl (upd gQ k 0))), (z11, .inl (G.2 3, 20, .inl (upd gL k 1))), (z12, .inl (G.2 2, 20, .inl (upd gF k ((gF k) + 1)))), (z13, .inl (G.2 2, 20, .inl (upd gZ k (gZ k)))), (z14, .inl (G.2 3, 20, .inl (upd gW k 0)))] := by first | (simp [mfP, mfQ, mfL, mfZ, mfW, mfW1, pk_us, upd_upd, upd_id, upd_idv, c_6, c_45, c_61, c_71, c_99, c_109]; done) | (simp_all [mfP, mfQ, mfL, mfZ, mfW, mfW1, pk_us, upd_upd, upd_id, upd_idv]; done)
              rw [← hw9] at hP hD
              exact W.vret hx hb hr (fun t ht hW => ⟨⟨rfl, by rw [ht]; exact hP, by rw [hAe]; exact hD⟩, by rw [hAe]; exact hS.F ht⟩) hS.2.2 d_MOD_endOff_118
    · refine lv_iconst (v := 1) hx hb d_MOD_endOff_48 (by decide) ?_
      refine lv_goto (tgt := 53) hx hb d_MOD_endOff_49 (by decide) ?_
      refine lv_iadd hx hb d_MOD_endOff_53 ?_
      refine va_iast hx hb hK hP hD hS 5 2 rfl rfl (vp_in_nI (by omega) (by omega)) d_MOD_endOff_54 (fun H locs hP hD hS => ?_)
      rw [nI_clamp (by omega)] at hP hD
      have hP : va_P G.1 vwCl [(z0, .inr (6, [.int cdv, .int (nI nM), .ref z1, .ref z2, .ref z3, .ref z4, .ref z5, .ref z6, .int (nI nC), .ref z7, .ref z8, .ref z9, .ref z10, .ref z11, .ref z12, .ref z13, .ref z14, .ref z15, .ref z16, .int cyc, .int li, .long me, .long mi, .int (nI sn), .ref z17])), (z9, .inl (G.2 3, 20, .inl gP)), (z10, .inl (G.2 3, 20, .inl gQ)), (z11, .inl (G.2 3, 20, .inl gL)), (z12, .inl (G.2 2, 20, .inl (upd gF k ((gF k) + 1)))), (z13, .inl (G.2 2, 20, .inl (upd gZ k ((gZ k) + 1)))), (z14, .inl (G.2 3, 20, .inl gW))] H := hP
      have hD : va_D A [(z0, .inr (6, [.int cdv, .int (nI nM), .ref z1, .ref z2, .ref z3, .ref z4, .ref z5, .ref z6, .int (nI nC), .ref z7, .ref z8, .ref z9, .ref z10, .ref z11, .ref z12, .ref z13, .ref z14, .ref z15, .ref z16, .int cyc, .int li, .long me, .long mi, .int (nI sn), .ref z17])), (z9, .inl (G.2 3, 20, .inl gP)), (z10, .inl (G.2 3, 20, .inl gQ)), (z11, .inl (G.2 3, 20, .inl gL)), (z12, .inl (G.2 2, 20, .inl (upd gF k ((gF k) + 1)))), (z13, .inl (G.2 2, 20, .inl (upd gZ k ((gZ k) + 1)))), (z14, .inl (G.2 3, 20, .inl gW))] := hD
      refine lv_aload_n hx hb d_MOD_endOff_55 rfl (lv_at hl 0 rfl) ?_
      refine va_get (D := G.1) (ci := 6) (v := .ref z10) (C := R_MOD) (T := T_MOD) (N := 25) hx hb hT in_MOD hown hK hP 0 rfl rfl 12 (by decide) (hT _ wd_594) (fun _ h9 => h9) rfl d_MOD_endOff_56 ?_
      refine lv_iload_n hx hb d_MOD_endOff_59 rfl (lv_at hl 1 rfl) ?_
      refine va_zald hx hb hK hP 2 3 rfl rfl (vp_in_nI (by omega) (by omega)) d_MOD_endOff_60 ?_
      refine W.eq (g2 := F0 m 61 ls (.int (gQ k) :: [])) (by rw [nI_clamp (by omega)]) ?_
      refine lv_if_eq (tgt := 88) hx hb d_MOD_endOff_61 (by decide) (fun c_61 => ?_) (fun c_61 => ?_)
      · refine lv_aload_n hx hb d_MOD_endOff_88 rfl (lv_at hl 0 rfl) ?_
        refine va_get (D := G.1) (ci := 6) (v := .ref z11) (C := R_MOD) (T := T_MOD) (N := 25) hx hb hT in_MOD hown hK hP 0 rfl rfl 13 (by decide) (hT _ wd_595) (fun _ h9 => h9) rfl d_MOD_endOff_89 ?_
        refine lv_iload_n hx hb d_MOD_endOff_92 rfl (lv_at hl 1 rfl) ?_
        refine lv_aload_n hx hb d_MOD_endOff_93 rfl (lv_at hl 0 rfl) ?_
        refine va_get (D := G.1) (ci := 6) (v := .ref z11) (C := R_MOD) (T := T_MOD) (N := 25) hx hb hT in_MOD hown hK hP 0 rfl rfl 13 (by decide) (hT _ wd_595) (fun _ h9 => h9) rfl d_MOD_endOff_94 ?_
        refine lv_iload_n hx hb d_MOD_endOff_97 rfl (lv_at hl 1 rfl) ?_
        refine va_zald hx hb hK hP 3 3 rfl rfl (vp_in_nI (by omega) (by omega)) d_MOD_endOff_98 ?_
        refine W.eq (g2 := F0 m 99 ls (.int (gL k) :: [.int (nI k), .ref z11])) (by rw [nI_clamp (by omega)]) ?_
        refine lv_if_eq (tgt := 116) hx hb d_MOD_endOff_99 (by decide) (fun c_99 => ?_) (fun c_99 => ?_)
        · refine lv_iconst (v := 0) hx hb d_MOD_endOff_116 (by decide) ?_
          refine va_zast hx hb hK hP hD hS 3 3 rfl rfl (vp_in_nI (by omega) (by omega)) d_MOD_endOff_117 (fun H locs hP hD hS => ?_)
          rw [nI_clamp (by omega), vn0] at hP hD
          have hP : va_P G.1 vwCl [(z0, .inr (6, [.int cdv, .int (nI nM), .ref z1, .ref z2, .ref z3, .ref z4, .ref z5, .ref z6, .int (nI nC), .ref z7, .ref z8, .ref z9, .ref z10, .ref z11, .ref z12, .ref z13, .ref z14, .ref z15, .ref z16, .int cyc, .int li, .long me, .long mi, .int (nI sn), .ref z17])), (z9, .inl (G.2 3, 20, .inl gP)), (z10, .inl (G.2 3, 20, .inl gQ)), (z11, .inl (G.2 3, 20, .inl (upd gL k 0))), (z12, .inl (G.2 2, 20, .inl (upd gF k ((gF k) + 1)))), (z13, .inl (G.2 2, 20, .inl (upd gZ k ((gZ k) + 1)))), (z14, .inl (G.2 3, 20, .inl gW))] H := hP
          have hD : va_D A [(z0, .inr (6, [.int cdv, .int (nI nM), .ref z1, .ref z2, .ref z3, .ref z4, .ref z5, .ref z6, .int (nI nC), .ref z7, .ref z8, .ref z9, .ref z10, .ref z11, .ref z12, .ref z13, .ref z14, .ref z15, .ref z16, .int cyc, .int li, .long me, .long mi, .int (nI sn), .ref z17])), (z9, .inl (G.2 3, 20, .inl gP)), (z10, .inl (G.2 3, 20, .inl gQ)), (z11, .inl (G.2 3, 20, .inl (upd gL k 0))), (z12, .inl (G.2 2, 20, .inl (upd gF k ((gF k) + 1)))), (z13, .inl (G.2 2, 20, .inl (upd gZ k ((gZ k) + 1)))), (z14, .inl (G.2 3, 20, .inl gW))] := hD
          have hw9 : ([(z0, .inr (6, [.int cdv, .int (nI nM), .ref z1, .ref z2, .ref z3, .ref z4, .ref z5, .ref z6, .int (nI nC), .ref z7, .ref z8, .ref z9, .ref z10, .ref z11, .ref z12, .ref z13, .ref z14, .ref z15, .ref z16, .int cyc, .int li, .long me, .long mi, .int (nI sn), .ref z17])), (z9, .inl (G.2 3, 20, .inl (upd gP k (mfP (gP k))))), (z10, .inl (G.2 3, 20, .inl (upd gQ k (mfQ (gQ k) (gF k))))), (z11, .inl (G.2 3, 20, .inl (upd gL k (mfL (gL k) (gZ k) cs)))), (z12, .inl (G.2 2, 20, .inl (upd gF k (gF k + 1)))), (z13, .inl (G.2 2, 20, .inl (upd gZ k (mfZ (gZ k) cs)))), (z14, .inl (G.2 3, 20, .inl (upd gW k (mfW (gP k) (gW k) (gQ k) (gF k)))))] : va_W) = [(z0, .inr (6, [.int cdv, .int (nI nM), .ref z1, .ref z2, .ref z3, .ref z4, .ref z5, .ref z6, .int (nI nC), .ref z7, .ref z8, .ref z9, .ref z10, .ref z11, .ref z12, .ref z13, .ref z14, .ref z15, .ref z16, .int cyc, .int li, .long me, .long mi, .int (nI sn), .ref z17])), (z9, .inl (G.2 3, 20, .inl gP)), (z10, .inl (G.2 3, 20, .inl gQ)), (z11, .inl (G.2 3, 20, .inl (upd gL k 0))), (z12, .inl (G.2 2, 20, .inl (upd gF k ((gF k) + 1)))), (z13, .inl (G.2 2, 20, .inl (upd gZ k ((gZ k) + 1)))), (z14, .inl (G.2 3, 20, .inl gW))] := by first | (simp [mfP, mfQ, mfL, mfZ, mfW, mfW1, pk_us, upd_upd, upd_id, upd_idv, c_6, c_45, c_61, c_99]; done) | (simp_all [mfP, mfQ, mfL, mfZ, mfW, mfW1, pk_us, upd_upd, upd_id, upd_idv]; done)
          rw [← hw9] at hP hD
          exact W.vret hx hb hr (fun t ht hW => ⟨⟨rfl, by rw [ht]; exact hP, by rw [hAe]; exact hD⟩, by rw [hAe]; exact hS.F ht⟩) hS.2.2 d_MOD_endOff_118
        · refine lv_aload_n hx hb d_MOD_endOff_102 rfl (lv_at hl 0 rfl) ?_
          refine va_get (D := G.1) (ci := 6) (v := .ref z13) (C := R_MOD) (T := T_MOD) (N := 25) hx hb hT in_MOD hown hK hP 0 rfl rfl 15 (by decide) (hT _ wd_597) (fun _ h9 => h9) rfl d_MOD_endOff_103 ?_
          refine lv_iload_n hx hb d_MOD_endOff_106 rfl (lv_at hl 1 rfl) ?_
          refine va_iald hx hb hK hP 5 2 rfl rfl (vp_in_nI (by omega) (by omega)) d_MOD_endOff_107 ?_
          refine W.eq (g2 := F0 m 108 ls (.int ((gZ k) + 1) :: [.int (nI k), .ref z11])) (by rw [nI_clamp (by omega), pk_us]) ?_
          refine lv_iconst (v := 3) hx hb d_MOD_endOff_108 (by decide) ?_
          refine lv_icmp_ge (tgt := 116) hx hb d_MOD_endOff_109 (by decide) (fun c_109 => ?_) (fun c_109 => ?_)
          · refine lv_iconst (v := 0) hx hb d_MOD_endOff_116 (by decide) ?_
            refine va_zast hx hb hK hP hD hS 3 3 rfl rfl (vp_in_nI (by omega) (by omega)) d_MOD_endOff_117 (fun H locs hP hD hS => ?_)
            rw [nI_clamp (by omega), vn0] at hP hD
            have hP : va_P G.1 vwCl [(z0, .inr (6, [.int cdv, .int (nI nM), .ref z1, .ref z2, .ref z3, .ref z4, .ref z5, .ref z6, .int (nI nC), .ref z7, .ref z8, .ref z9, .ref z10, .ref z11, .ref z12, .ref z13, .ref z14, .ref z15, .ref z16, .int cyc, .int li, .long me, .long mi, .int (nI sn), .ref z17])), (z9, .inl (G.2 3, 20, .inl gP)), (z10, .inl (G.2 3, 20, .inl gQ)), (z11, .inl (G.2 3, 20, .inl (upd gL k 0))), (z12, .inl (G.2 2, 20, .inl (upd gF k ((gF k) + 1)))), (z13, .inl (G.2 2, 20, .inl (upd gZ k ((gZ k) + 1)))), (z14, .inl (G.2 3, 20, .inl gW))] H := hP
            have hD : va_D A [(z0, .inr (6, [.int cdv, .int (nI nM), .ref z1, .ref z2, .ref z3, .ref z4, .ref z5, .ref z6, .int (nI nC), .ref z7, .ref z8, .ref z9, .ref z10, .ref z11, .ref z12, .ref z13, .ref z14, .ref z15, .ref z16, .int cyc, .int li, .long me, .long mi, .int (nI sn), .ref z17])), (z9, .inl (G.2 3, 20, .inl gP)), (z10, .inl (G.2 3, 20, .inl gQ)), (z11, .inl (G.2 3, 20, .inl (upd gL k 0))), (z12, .inl (G.2 2, 20, .inl (upd gF k ((gF k) + 1)))), (z13, .inl (G.2 2, 20, .inl (upd gZ k ((gZ k) + 1)))), (z14, .inl (G.2 3, 20, .inl gW))] := hD
            have hw9 : ([(z0, .inr (6, [.int cdv, .int (nI nM), .ref z1, .ref z2, .ref z3, .ref z4, .ref z5, .ref z6, .int (nI nC), .ref z7, .ref z8, .ref z9, .ref z10, .ref z11, .ref z12, .ref z13, .ref z14, .ref z15, .ref z16, .int cyc, .int li, .long me, .long mi, .int (nI sn), .ref z17])), (z9, .inl (G.2 3, 20, .inl (upd gP k (mfP (gP k))))), (z10, .inl (G.2 3, 20, .inl (upd gQ k (mfQ (gQ k) (gF k))))), (z11, .inl (G.2 3, 20, .inl (upd gL k (mfL (gL k) (gZ k) cs)))), (z12, .inl (G.2 2, 20, .inl (upd gF k (gF k + 1)))), (z13, .inl (G.2 2, 20, .inl (upd gZ k (mfZ (gZ k) cs)))), (z14, .inl (G.2 3, 20, .inl (upd gW k (mfW (gP k) (gW k) (gQ k) (gF k)))))] : va_W) = [(z0, .inr (6, [.int cdv, .int (nI nM), .ref z1, .ref z2, .ref z3, .ref z4, .ref z5, .ref z6, .int (nI nC), .ref z7, .ref z8, .ref z9, .ref z10, .ref z11, .ref z12, .ref z13, .ref z14, .ref z15, .ref z16, .int cyc, .int li, .long me, .long mi, .int (nI sn), .ref z17])), (z9, .inl (G.2 3, 20, .inl gP)), (z10, .inl (G.2 3, 20, .inl gQ)), (z11, .inl (G.2 3, 20, .inl (upd gL k 0))), (z12, .inl (G.2 2, 20, .inl (upd gF k ((gF k) + 1)))), (z13, .inl (G.2 2, 20, .inl (upd gZ k ((gZ k) + 1)))), (z14, .inl (G.2 3, 20, .inl gW))] := by first | (simp [mfP, mfQ, mfL, mfZ, mfW, mfW1, pk_us, upd_upd, upd_id, upd_idv, c_6, c_45, c_61, c_99, c_109]; done) | (simp_all [mfP, mfQ, mfL, mfZ, mfW, mfW1, pk_us, upd_upd, upd_id, upd_idv]; done)
            rw [← hw9] at hP hD
            exact W.vret hx hb hr (fun t ht hW => ⟨⟨rfl, by rw [ht]; exact hP, by rw [hAe]; exact hD⟩, by rw [hAe]; exact hS.F ht⟩) hS.2.2 d_MOD_endOff_118
          · refine lv_iconst (v := 1) hx hb d_MOD_endOff_112 (by decide) ?_
            refine lv_goto (tgt := 117) hx hb d_MOD_endOff_113 (by decide) ?_
            refine va_zast hx hb hK hP hD hS 3 3 rfl rfl (vp_in_nI (by omega) (by omega)) d_MOD_endOff_117 (fun H locs hP hD hS => ?_)
            rw [nI_clamp (by omega), vn1] at hP hD
            have hP : va_P G.1 vwCl [(z0, .inr (6, [.int cdv, .int (nI nM), .ref z1, .ref z2, .ref z3, .ref z4, .ref z5, .ref z6, .int (nI nC), .ref z7, .ref z8, .ref z9, .ref z10, .ref z11, .ref z12, .ref z13, .ref z14, .ref z15, .ref z16, .int cyc, .int li, .long me, .long mi, .int (nI sn), .ref z17])), (z9, .inl (G.2 3, 20, .inl gP)), (z10, .inl (G.2 3, 20, .inl gQ)), (z11, .inl (G.2 3, 20, .inl (upd gL k 1))), (z12, .inl (G.2 2, 20, .inl (upd gF k ((gF k) + 1)))), (z13, .inl (G.2 2, 20, .inl (upd gZ k ((gZ k) + 1)))), (z14, .inl (G.2 3, 20, .inl gW))] H := hP
            have hD : va_D A [(z0, .inr (6, [.int cdv, .int (nI nM), .ref z1, .ref z2, .ref z3, .ref z4, .ref z5, .ref z6, .int (nI nC), .ref z7, .ref z8, .ref z9, .ref z10, .ref z11, .ref z12, .ref z13, .ref z14, .ref z15, .ref z16, .int cyc, .int li, .long me, .long mi, .int (nI sn), .ref z17])), (z9, .inl (G.2 3, 20, .inl gP)), (z10, .inl (G.2 3, 20, .inl gQ)), (z11, .inl (G.2 3, 20, .inl (upd gL k 1))), (z12, .inl (G.2 2, 20, .inl (upd gF k ((gF k) + 1)))), (z13, .inl (G.2 2, 20, .inl (upd gZ k ((gZ k) + 1)))), (z14, .inl (G.2 3, 20, .inl gW))] := hD
            have hw9 : ([(z0, .inr (6, [.int cdv, .int (nI nM), .ref z1, .ref z2, .ref z3, .ref z4, .ref z5, .ref z6, .int (nI nC), .ref z7, .ref z8, .ref z9, .ref z10, .ref z11, .ref z12, .ref z13, .ref z14, .ref z15, .ref z16, .int cyc, .int li, .long me, .long mi, .int (nI sn), .ref z17])), (z9, .inl (G.2 3, 20, .inl (upd gP k (mfP (gP k))))), (z10, .inl (G.2 3, 20, .inl (upd gQ k (mfQ (gQ k) (gF k))))), (z11, .inl (G.2 3, 20, .inl (upd gL k (mfL (gL k) (gZ k) cs)))), (z12, .inl (G.2 2, 20, .inl (upd gF k (gF k + 1)))), (z13, .inl (G.2 2, 20, .inl (upd gZ k (mfZ (gZ k) cs)))), (z14, .inl (G.2 3, 20, .inl (upd gW k (mfW (gP k) (gW k) (gQ k) (gF k)))))] : va_W) = [(z0, .inr (6, [.int cdv, .int (nI nM), .ref z1, .ref z2, .ref z3, .ref z4, .ref z5, .ref z6, .int (nI nC), .ref z7, .ref z8, .ref z9, .ref z10, .ref z11, .ref z12, .ref z13, .ref z14, .ref z15, .ref z16, .int cyc, .int li, .long me, .long mi, .int (nI sn), .ref z17])), (z9, .inl (G.2 3, 20, .inl gP)), (z10, .inl (G.2 3, 20, .inl gQ)), (z11, .inl (G.2 3, 20, .inl (upd gL k 1))), (z12, .inl (G.2 2, 20, .inl (upd gF k ((gF k) + 1)))), (z13, .inl (G.2 2, 20, .inl (upd gZ k ((gZ k) + 1)))), (z14, .inl (G.2 3, 20, .inl gW))] := by first | (simp [mfP, mfQ, mfL, mfZ, mfW, mfW1, pk_us, upd_upd, upd_id, upd_idv, c_6, c_45, c_61, c_99, c_109]; done) | (simp_all [mfP, mfQ, mfL, mfZ, mfW, mfW1, pk_us, upd_upd, upd_id, upd_idv]; done)
            rw [← hw9] at hP hD
            exact W.vret hx hb hr (fun t ht hW => ⟨⟨rfl, by rw [ht]; exact hP, by rw [hAe]; exact hD⟩, by rw [hAe]; exact hS.F ht⟩) hS.2.2 d_MOD_endOff_118
      · refine lv_aload_n hx hb d_MOD_endOff_64 rfl (lv_at hl 0 rfl) ?_
        refine va_get (D := G.1) (ci := 6) (v := .ref z12) (C := R_MOD) (T := T_MOD) (N := 25) hx hb hT in_MOD hown hK hP 0 rfl rfl 14 (by decide) (hT _ wd_596) (fun _ h9 => h9) rfl d_MOD_endOff_65 ?_
        refine lv_iload_n hx hb d_MOD_endOff_68 rfl (lv_at hl 1 rfl) ?_
        refine va_iald hx hb hK hP 4 2 rfl rfl (vp_in_nI (by omega) (by omega)) d_MOD_endOff_69 ?_
        refine W.eq (g2 := F0 m 70 ls (.int ((gF k) + 1) :: [])) (by rw [nI_clamp (by omega), pk_us]) ?_
        refine lv_iconst (v := 3) hx hb d_MOD_endOff_70 (by decide) ?_
        refine lv_icmp_lt (tgt := 88) hx hb d_MOD_endOff_71 (by decide) (fun c_71 => ?_) (fun c_71 => ?_)
        · refine lv_aload_n hx hb d_MOD_endOff_88 rfl (lv_at hl 0 rfl) ?_
          refine va_get (D := G.1) (ci := 6) (v := .ref z11) (C := R_MOD) (T := T_MOD) (N := 25) hx hb hT in_MOD hown hK hP 0 rfl rfl 13 (by decide) (hT _ wd_595) (fun _ h9 => h9) rfl d_MOD_endOff_89 ?_
          refine lv_iload_n hx hb d_MOD_endOff_92 rfl (lv_at hl 1 rfl) ?_
          refine lv_aload_n hx hb d_MOD_endOff_93 rfl (lv_at hl 0 rfl) ?_
          refine va_get (D := G.1) (ci := 6) (v := .ref z11) (C := R_MOD) (T := T_MOD) (N := 25) hx hb hT in_MOD hown hK hP 0 rfl rfl 13 (by decide) (hT _ wd_595) (fun _ h9 => h9) rfl d_MOD_endOff_94 ?_
          refine lv_iload_n hx hb d_MOD_endOff_97 rfl (lv_at hl 1 rfl) ?_
          refine va_zald hx hb hK hP 3 3 rfl rfl (vp_in_nI (by omega) (by omega)) d_MOD_endOff_98 ?_
          refine W.eq (g2 := F0 m 99 ls (.int (gL k) :: [.int (nI k), .ref z11])) (by rw [nI_clamp (by omega)]) ?_
          refine lv_if_eq (tgt := 116) hx hb d_MOD_endOff_99 (by decide) (fun c_99 => ?_) (fun c_99 => ?_)
          · refine lv_iconst (v := 0) hx hb d_MOD_endOff_116 (by decide) ?_
            refine va_zast hx hb hK hP hD hS 3 3 rfl rfl (vp_in_nI (by omega) (by omega)) d_MOD_endOff_117 (fun H locs hP hD hS => ?_)
            rw [nI_clamp (by omega), vn0] at hP hD
            have hP : va_P G.1 vwCl [(z0, .inr (6, [.int cdv, .int (nI nM), .ref z1, .ref z2, .ref z3, .ref z4, .ref z5, .ref z6, .int (nI nC), .ref z7, .ref z8, .ref z9, .ref z10, .ref z11, .ref z12, .ref z13, .ref z14, .ref z15, .ref z16, .int cyc, .int li, .long me, .long mi, .int (nI sn), .ref z17])), (z9, .inl (G.2 3, 20, .inl gP)), (z10, .inl (G.2 3, 20, .inl gQ)), (z11, .inl (G.2 3, 20, .inl (upd gL k 0))), (z12, .inl (G.2 2, 20, .inl (upd gF k ((gF k) + 1)))), (z13, .inl (G.2 2, 20, .inl (upd gZ k ((gZ k) + 1)))), (z14, .inl (G.2 3, 20, .inl gW))] H := hP
            have hD : va_D A [(z0, .inr (6, [.int cdv, .int (nI nM), .ref z1, .ref z2, .ref z3, .ref z4, .ref z5, .ref z6, .int (nI nC), .ref z7, .ref z8, .ref z9, .ref z10, .ref z11, .ref z12, .ref z13, .ref z14, .ref z15, .ref z16, .int cyc, .int li, .long me, .long mi, .int (nI sn), .ref z17])), (z9, .inl (G.2 3, 20, .inl gP)), (z10, .inl (G.2 3, 20, .inl gQ)), (z11, .inl (G.2 3, 20, .inl (upd gL k 0))), (z12, .inl (G.2 2, 20, .inl (upd gF k ((gF k) + 1)))), (z13, .inl (G.2 2, 20, .inl (upd gZ k ((gZ k) + 1)))), (z14, .inl (G.2 3, 20, .inl gW))] := hD
            have hw9 : ([(z0, .inr (6, [.int cdv, .int (nI nM), .ref z1, .ref z2, .ref z3, .ref z4, .ref z5, .ref z6, .int (nI nC), .ref z7, .ref z8, .ref z9, .ref z10, .ref z11, .ref z12, .ref z13, .ref z14, .ref z15, .ref z16, .int cyc, .int li, .long me, .long mi, .int (nI sn), .ref z17])), (z9, .inl (G.2 3, 20, .inl (upd gP k (mfP (gP k))))), (z10, .inl (G.2 3, 20, .inl (upd gQ k (mfQ (gQ k) (gF k))))), (z11, .inl (G.2 3, 20, .inl (upd gL k (mfL (gL k) (gZ k) cs)))), (z12, .inl (G.2 2, 20, .inl (upd gF k (gF k + 1)))), (z13, .inl (G.2 2, 20, .inl (upd gZ k (mfZ (gZ k) cs)))), (z14, .inl (G.2 3, 20, .inl (upd gW k (mfW (gP k) (gW k) (gQ k) (gF k)))))] : va_W) = [(z0, .inr (6, [.int cdv, .int (nI nM), .ref z1, .ref z2, .ref z3, .ref z4, .ref z5, .ref z6, .int (nI nC), .ref z7, .ref z8, .ref z9, .ref z10, .ref z11, .ref z12, .ref z13, .ref z14, .ref z15, .ref z16, .int cyc, .int li, .long me, .long mi, .int (nI sn), .ref z17])), (z9, .inl (G.2 3, 20, .inl gP)), (z10, .inl (G.2 3, 20, .inl gQ)), (z11, .inl (G.2 3, 20, .inl (upd gL k 0))), (z12, .inl (G.2 2, 20, .inl (upd gF k ((gF k) + 1)))), (z13, .inl (G.2 2, 20, .inl (upd gZ k ((gZ k) + 1)))), (z14, .inl (G.2 3, 20, .inl gW))] := by first | (simp [mfP, mfQ, mfL, mfZ, mfW, mfW1, pk_us, upd_upd, upd_id, upd_idv, c_6, c_45, c_61, c_71, c_99]; done) | (simp_all [mfP, mfQ, mfL, mfZ, mfW, mfW1, pk_us, upd_upd, upd_id, upd_idv]; done)
            rw [← hw9] at hP hD
            exact W.vret hx hb hr (fun t ht hW => ⟨⟨rfl, by rw [ht]; exact hP, by rw [hAe]; exact hD⟩, by rw [hAe]; exact hS.F ht⟩) hS.2.2 d_MOD_endOff_118
          · refine lv_aload_n hx hb d_MOD_endOff_102 rfl (lv_at hl 0 rfl) ?_
            refine va_get (D := G.1) (ci := 6) (v := .ref z13) (C := R_MOD) (T := T_MOD) (N := 25) hx hb hT in_MOD hown hK hP 0 rfl rfl 15 (by decide) (hT _ wd_597) (fun _ h9 => h9) rfl d_MOD_endOff_103 ?_
            refine lv_iload_n hx hb d_MOD_endOff_106 rfl (lv_at hl 1 rfl) ?_
            refine va_iald hx hb hK hP 5 2 rfl rfl (vp_in_nI (by omega) (by omega)) d_MOD_endOff_107 ?_
            refine W.eq (g2 := F0 m 108 ls (.int ((gZ k) + 1) :: [.int (nI k), .ref z11])) (by rw [nI_clamp (by omega), pk_us]) ?_
            refine lv_iconst (v := 3) hx hb d_MOD_endOff_108 (by decide) ?_
            refine lv_icmp_ge (tgt := 116) hx hb d_MOD_endOff_109 (by decide) (fun c_109 => ?_) (fun c_109 => ?_)
            · refine lv_iconst (v := 0) hx hb d_MOD_endOff_116 (by decide) ?_
              refine va_zast hx hb hK hP hD hS 3 3 rfl rfl (vp_in_nI (by omega) (by omega)) d_MOD_endOff_117 (fun H locs hP hD hS => ?_)
              rw [nI_clamp (by omega), vn0] at hP hD
              have hP : va_P G.1 vwCl [(z0, .inr (6, [.int cdv, .int (nI nM), .ref z1, .ref z2, .ref z3, .ref z4, .ref z5, .ref z6, .int (nI nC), .ref z7, .ref z8, .ref z9, .ref z10, .ref z11, .ref z12, .ref z13, .ref z14, .ref z15, .ref z16, .int cyc, .int li, .long me, .long mi, .int (nI sn), .ref z17])), (z9, .inl (G.2 3, 20, .inl gP)), (z10, .inl (G.2 3, 20, .inl gQ)), (z11, .inl (G.2 3, 20, .inl (upd gL k 0))), (z12, .inl (G.2 2, 20, .inl (upd gF k ((gF k) + 1)))), (z13, .inl (G.2 2, 20, .inl (upd gZ k ((gZ k) + 1)))), (z14, .inl (G.2 3, 20, .inl gW))] H := hP
              have hD : va_D A [(z0, .inr (6, [.int cdv, .int (nI nM), .ref z1, .ref z2, .ref z3, .ref z4, .ref z5, .ref z6, .int (nI nC), .ref z7, .ref z8, .ref z9, .ref z10, .ref z11, .ref z12, .ref z13, .ref z14, .ref z15, .ref z16, .int cyc, .int li, .long me, .long mi, .int (nI sn), .ref z17])), (z9, .inl (G.2 3, 20, .inl gP)), (z10, .inl (G.2 3, 20, .inl gQ)), (z11, .inl (G.2 3, 20, .inl (upd gL k 0))), (z12, .inl (G.2 2, 20, .inl (upd gF k ((gF k) + 1)))), (z13, .inl (G.2 2, 20, .inl (upd gZ k ((gZ k) + 1)))), (z14, .inl (G.2 3, 20, .inl gW))] := hD
              have hw9 : ([(z0, .inr (6, [.int cdv, .int (nI nM), .ref z1, .ref z2, .ref z3, .ref z4, .ref z5, .ref z6, .int (nI nC), .ref z7, .ref z8, .ref z9, .ref z10, .ref z11, .ref z12, .ref z13, .ref z14, .ref z15, .ref z16, .int cyc, .int li, .long me, .long mi, .int (nI sn), .ref z17])), (z9, .inl (G.2 3, 20, .inl (upd gP k (mfP (gP k))))), (z10, .inl (G.2 3, 20, .inl (upd gQ k (mfQ (gQ k) (gF k))))), (z11, .inl (G.2 3, 20, .inl (upd gL k (mfL (gL k) (gZ k) cs)))), (z12, .inl (G.2 2, 20, .inl (upd gF k (gF k + 1)))), (z13, .inl (G.2 2, 20, .inl (upd gZ k (mfZ (gZ k) cs)))), (z14, .inl (G.2 3, 20, .inl (upd gW k (mfW (gP k) (gW k) (gQ k) (gF k)))))] : va_W) = [(z0, .inr (6, [.int cdv, .int (nI nM), .ref z1, .ref z2, .ref z3, .ref z4, .ref z5, .ref z6, .int (nI nC), .ref z7, .ref z8, .ref z9, .ref z10, .ref z11, .ref z12, .ref z13, .ref z14, .ref z15, .ref z16, .int cyc, .int li, .long me, .long mi, .int (nI sn), .ref z17])), (z9, .inl (G.2 3, 20, .inl gP)), (z10, .inl (G.2 3, 20, .inl gQ)), (z11, .inl (G.2 3, 20, .inl (upd gL k 0))), (z12, .inl (G.2 2, 20, .inl (upd gF k ((gF k) + 1)))), (z13, .inl (G.2 2, 20, .inl (upd gZ k ((gZ k) + 1)))), (z14, .inl (G.2 3, 20, .inl gW))] := by first | (simp [mfP, mfQ, mfL, mfZ, mfW, mfW1, pk_us, upd_upd, upd_id, upd_idv, c_6, c_45, c_61, c_71, c_99, c_109]; done) | (simp_all [mfP, mfQ, mfL, mfZ, mfW, mfW1, pk_us, upd_upd, upd_id, upd_idv]; done)
              rw [← hw9] at hP hD
              exact W.vret hx hb hr (fun t ht hW => ⟨⟨rfl, by rw [ht]; exact hP, by rw [hAe]; exact hD⟩, by rw [hAe]; exact hS.F ht⟩) hS.2.2 d_MOD_endOff_118
            · refine lv_iconst (v := 1) hx hb d_MOD_endOff_112 (by decide) ?_
              refine lv_goto (tgt := 117) hx hb d_MOD_endOff_113 (by decide) ?_
              refine va_zast hx hb hK hP hD hS 3 3 rfl rfl (vp_in_nI (by omega) (by omega)) d_MOD_endOff_117 (fun H locs hP hD hS => ?_)
              rw [nI_clamp (by omega), vn1] at hP hD
              have hP : va_P G.1 vwCl [(z0, .inr (6, [.int cdv, .int (nI nM), .ref z1, .ref z2, .ref z3, .ref z4, .ref z5, .ref z6, .int (nI nC), .ref z7, .ref z8, .ref z9, .ref z10, .ref z11, .ref z12, .ref z13, .ref z14, .ref z15, .ref z16, .int cyc, .int li, .long me, .long mi, .int (nI sn), .ref z17])), (z9, .inl (G.2 3, 20, .inl gP)), (z10, .inl (G.2 3, 20, .inl gQ)), (z11, .inl (G.2 3, 20, .inl (upd gL k 1))), (z12, .inl (G.2 2, 20, .inl (upd gF k ((gF k) + 1)))), (z13, .inl (G.2 2, 20, .inl (upd gZ k ((gZ k) + 1)))), (z14, .inl (G.2 3, 20, .inl gW))] H := hP
              have hD : va_D A [(z0, .inr (6, [.int cdv, .int (nI nM), .ref z1, .ref z2, .ref z3, .ref z4, .ref z5, .ref z6, .int (nI nC), .ref z7, .ref z8, .ref z9, .ref z10, .ref z11, .ref z12, .ref z13, .ref z14, .ref z15, .ref z16, .int cyc, .int li, .long me, .long mi, .int (nI sn), .ref z17])), (z9, .inl (G.2 3, 20, .inl gP)), (z10, .inl (G.2 3, 20, .inl gQ)), (z11, .inl (G.2 3, 20, .inl (upd gL k 1))), (z12, .inl (G.2 2, 20, .inl (upd gF k ((gF k) + 1)))), (z13, .inl (G.2 2, 20, .inl (upd gZ k ((gZ k) + 1)))), (z14, .inl (G.2 3, 20, .inl gW))] := hD
              have hw9 : ([(z0, .inr (6, [.int cdv, .int (nI nM), .ref z1, .ref z2, .ref z3, .ref z4, .ref z5, .ref z6, .int (nI nC), .ref z7, .ref z8, .ref z9, .ref z10, .ref z11, .ref z12, .ref z13, .ref z14, .ref z15, .ref z16, .int cyc, .int li, .long me, .long mi, .int (nI sn), .ref z17])), (z9, .inl (G.2 3, 20, .inl (upd gP k (mfP (gP k))))), (z10, .inl (G.2 3, 20, .inl (upd gQ k (mfQ (gQ k) (gF k))))), (z11, .inl (G.2 3, 20, .inl (upd gL k (mfL (gL k) (gZ k) cs)))), (z12, .inl (G.2 2, 20, .inl (upd gF k (gF k + 1)))), (z13, .inl (G.2 2, 20, .inl (upd gZ k (mfZ (gZ k) cs)))), (z14, .inl (G.2 3, 20, .inl (upd gW k (mfW (gP k) (gW k) (gQ k) (gF k)))))] : va_W) = [(z0, .inr (6, [.int cdv, .int (nI nM), .ref z1, .ref z2, .ref z3, .ref z4, .ref z5, .ref z6, .int (nI nC), .ref z7, .ref z8, .ref z9, .ref z10, .ref z11, .ref z12, .ref z13, .ref z14, .ref z15, .ref z16, .int cyc, .int li, .long me, .long mi, .int (nI sn), .ref z17])), (z9, .inl (G.2 3, 20, .inl gP)), (z10, .inl (G.2 3, 20, .inl gQ)), (z11, .inl (G.2 3, 20, .inl (upd gL k 1))), (z12, .inl (G.2 2, 20, .inl (upd gF k ((gF k) + 1)))), (z13, .inl (G.2 2, 20, .inl (upd gZ k ((gZ k) + 1)))), (z14, .inl (G.2 3, 20, .inl gW))] := by first | (simp [mfP, mfQ, mfL, mfZ, mfW, mfW1, pk_us, upd_upd, upd_id, upd_idv, c_6, c_45, c_61, c_71, c_99, c_109]; done) | (simp_all [mfP, mfQ, mfL, mfZ, mfW, mfW1, pk_us, upd_upd, upd_id, upd_idv]; done)
              rw [← hw9] at hP hD
              exact W.vret hx hb hr (fun t ht hW => ⟨⟨rfl, by rw [ht]; exact hP, by rw [hAe]; exact hD⟩, by rw [hAe]; exact hS.F ht⟩) hS.2.2 d_MOD_endOff_118
        · refine lv_aload_n hx hb d_MOD_endOff_74 rfl (lv_at hl 0 rfl) ?_
          refine va_get (D := G.1) (ci := 6) (v := .ref z10) (C := R_MOD) (T := T_MOD) (N := 25) hx hb hT in_MOD hown hK hP 0 rfl rfl 12 (by decide) (hT _ wd_594) (fun _ h9 => h9) rfl d_MOD_endOff_75 ?_
          refine lv_iload_n hx hb d_MOD_endOff_78 rfl (lv_at hl 1 rfl) ?_
          refine lv_iconst (v := 0) hx hb d_MOD_endOff_79 (by decide) ?_
          refine va_zast hx hb hK hP hD hS 2 3 rfl rfl (vp_in_nI (by omega) (by omega)) d_MOD_endOff_80 (fun H locs hP hD hS => ?_)
          rw [nI_clamp (by omega), vn0] at hP hD
          have hP : va_P G.1 vwCl [(z0, .inr (6, [.int cdv, .int (nI nM), .ref z1, .ref z2, .ref z3, .ref z4, .ref z5, .ref z6, .int (nI nC), .ref z7, .ref z8, .ref z9, .ref z10, .ref z11, .ref z12, .ref z13, .ref z14, .ref z15, .ref z16, .int cyc, .int li, .long me, .long mi, .int (nI sn), .ref z17])), (z9, .inl (G.2 3, 20, .inl gP)), (z10, .inl (G.2 3, 20, .inl (upd gQ k 0))), (z11, .inl (G.2 3, 20, .inl gL)), (z12, .inl (G.2 2, 20, .inl (upd gF k ((gF k) + 1)))), (z13, .inl (G.2 2, 20, .inl (upd gZ k ((gZ k) + 1)))), (z14, .inl (G.2 3, 20, .inl gW))] H := hP
          have hD : va_D A [(z0, .inr (6, [.int cdv, .int (nI nM), .ref z1, .ref z2, .ref z3, .ref z4, .ref z5, .ref z6, .int (nI nC), .ref z7, .ref z8, .ref z9, .ref z10, .ref z11, .ref z12, .ref z13, .ref z14, .ref z15, .ref z16, .int cyc, .int li, .long me, .long mi, .int (nI sn), .ref z17])), (z9, .inl (G.2 3, 20, .inl gP)), (z10, .inl (G.2 3, 20, .inl (upd gQ k 0))), (z11, .inl (G.2 3, 20, .inl gL)), (z12, .inl (G.2 2, 20, .inl (upd gF k ((gF k) + 1)))), (z13, .inl (G.2 2, 20, .inl (upd gZ k ((gZ k) + 1)))), (z14, .inl (G.2 3, 20, .inl gW))] := hD
          refine lv_aload_n hx hb d_MOD_endOff_81 rfl (lv_at hl 0 rfl) ?_
          refine va_get (D := G.1) (ci := 6) (v := .ref z14) (C := R_MOD) (T := T_MOD) (N := 25) hx hb hT in_MOD hown hK hP 0 rfl rfl 16 (by decide) (hT _ wd_598) (fun _ h9 => h9) rfl d_MOD_endOff_82 ?_
          refine lv_iload_n hx hb d_MOD_endOff_85 rfl (lv_at hl 1 rfl) ?_
          refine lv_iconst (v := 0) hx hb d_MOD_endOff_86 (by decide) ?_
          refine va_zast hx hb hK hP hD hS 6 3 rfl rfl (vp_in_nI (by omega) (by omega)) d_MOD_endOff_87 (fun H locs hP hD hS => ?_)
          rw [nI_clamp (by omega), vn0] at hP hD
          have hP : va_P G.1 vwCl [(z0, .inr (6, [.int cdv, .int (nI nM), .ref z1, .ref z2, .ref z3, .ref z4, .ref z5, .ref z6, .int (nI nC), .ref z7, .ref z8, .ref z9, .ref z10, .ref z11, .ref z12, .ref z13, .ref z14, .ref z15, .ref z16, .int cyc, .int li, .long me, .long mi, .int (nI sn), .ref z17])), (z9, .inl (G.2 3, 20, .inl gP)), (z10, .inl (G.2 3, 20, .inl (upd gQ k 0))), (z11, .inl (G.2 3, 20, .inl gL)), (z12, .inl (G.2 2, 20, .inl (upd gF k ((gF k) + 1)))), (z13, .inl (G.2 2, 20, .inl (upd gZ k ((gZ k) + 1)))), (z14, .inl (G.2 3, 20, .inl (upd gW k 0)))] H := hP
          have hD : va_D A [(z0, .inr (6, [.int cdv, .int (nI nM), .ref z1, .ref z2, .ref z3, .ref z4, .ref z5, .ref z6, .int (nI nC), .ref z7, .ref z8, .ref z9, .ref z10, .ref z11, .ref z12, .ref z13, .ref z14, .ref z15, .ref z16, .int cyc, .int li, .long me, .long mi, .int (nI sn), .ref z17])), (z9, .inl (G.2 3, 20, .inl gP)), (z10, .inl (G.2 3, 20, .inl (upd gQ k 0))), (z11, .inl (G.2 3, 20, .inl gL)), (z12, .inl (G.2 2, 20, .inl (upd gF k ((gF k) + 1)))), (z13, .inl (G.2 2, 20, .inl (upd gZ k ((gZ k) + 1)))), (z14, .inl (G.2 3, 20, .inl (upd gW k 0)))] := hD
          refine lv_aload_n hx hb d_MOD_endOff_88 rfl (lv_at hl 0 rfl) ?_
          refine va_get (D := G.1) (ci := 6) (v := .ref z11) (C := R_MOD) (T := T_MOD) (N := 25) hx hb hT in_MOD hown hK hP 0 rfl rfl 13 (by decide) (hT _ wd_595) (fun _ h9 => h9) rfl d_MOD_endOff_89 ?_
          refine lv_iload_n hx hb d_MOD_endOff_92 rfl (lv_at hl 1 rfl) ?_
          refine lv_aload_n hx hb d_MOD_endOff_93 rfl (lv_at hl 0 rfl) ?_
          refine va_get (D := G.1) (ci := 6) (v := .ref z11) (C := R_MOD) (T := T_MOD) (N := 25) hx hb hT in_MOD hown hK hP 0 rfl rfl 13 (by decide) (hT _ wd_595) (fun _ h9 => h9) rfl d_MOD_endOff_94 ?_
          refine lv_iload_n hx hb d_MOD_endOff_97 rfl (lv_at hl 1 rfl) ?_
          refine va_zald hx hb hK hP 3 3 rfl rfl (vp_in_nI (by omega) (by omega)) d_MOD_endOff_98 ?_
          refine W.eq (g2 := F0 m 99 ls (.int (gL k) :: [.int (nI k), .ref z11])) (by rw [nI_clamp (by omega)]) ?_
          refine lv_if_eq (tgt := 116) hx hb d_MOD_endOff_99 (by decide) (fun c_99 => ?_) (fun c_99 => ?_)
          · refine lv_iconst (v := 0) hx hb d_MOD_endOff_116 (by decide) ?_
            refine va_zast hx hb hK hP hD hS 3 3 rfl rfl (vp_in_nI (by omega) (by omega)) d_MOD_endOff_117 (fun H locs hP hD hS => ?_)
            rw [nI_clamp (by omega), vn0] at hP hD
            have hP : va_P G.1 vwCl [(z0, .inr (6, [.int cdv, .int (nI nM), .ref z1, .ref z2, .ref z3, .ref z4, .ref z5, .ref z6, .int (nI nC), .ref z7, .ref z8, .ref z9, .ref z10, .ref z11, .ref z12, .ref z13, .ref z14, .ref z15, .ref z16, .int cyc, .int li, .long me, .long mi, .int (nI sn), .ref z17])), (z9, .inl (G.2 3, 20, .inl gP)), (z10, .inl (G.2 3, 20, .inl (upd gQ k 0))), (z11, .inl (G.2 3, 20, .inl (upd gL k 0))), (z12, .inl (G.2 2, 20, .inl (upd gF k ((gF k) + 1)))), (z13, .inl (G.2 2, 20, .inl (upd gZ k ((gZ k) + 1)))), (z14, .inl (G.2 3, 20, .inl (upd gW k 0)))] H := hP
            have hD : va_D A [(z0, .inr (6, [.int cdv, .int (nI nM), .ref z1, .ref z2, .ref z3, .ref z4, .ref z5, .ref z6, .int (nI nC), .ref z7, .ref z8, .ref z9, .ref z10, .ref z11, .ref z12, .ref z13, .ref z14, .ref z15, .ref z16, .int cyc, .int li, .long me, .long mi, .int (nI sn), .ref z17])), (z9, .inl (G.2 3, 20, .inl gP)), (z10, .inl (G.2 3, 20, .inl (upd gQ k 0))), (z11, .inl (G.2 3, 20, .inl (upd gL k 0))), (z12, .inl (G.2 2, 20, .inl (upd gF k ((gF k) + 1)))), (z13, .inl (G.2 2, 20, .inl (upd gZ k ((gZ k) + 1)))), (z14, .inl (G.2 3, 20, .inl (upd gW k 0)))] := hD
            have hw9 : ([(z0, .inr (6, [.int cdv, .int (nI nM), .ref z1, .ref z2, .ref z3, .ref z4, .ref z5, .ref z6, .int (nI nC), .ref z7, .ref z8, .ref z9, .ref z10, .ref z11, .ref z12, .ref z13, .ref z14, .ref z15, .ref z16, .int cyc, .int li, .long me, .long mi, .int (nI sn), .ref z17])), (z9, .inl (G.2 3, 20, .inl (upd gP k (mfP (gP k))))), (z10, .inl (G.2 3, 20, .inl (upd gQ k (mfQ (gQ k) (gF k))))), (z11, .inl (G.2 3, 20, .inl (upd gL k (mfL (gL k) (gZ k) cs)))), (z12, .inl (G.2 2, 20, .inl (upd gF k (gF k + 1)))), (z13, .inl (G.2 2, 20, .inl (upd gZ k (mfZ (gZ k) cs)))), (z14, .inl (G.2 3, 20, .inl (upd gW k (mfW (gP k) (gW k) (gQ k) (gF k)))))] : va_W) = [(z0, .inr (6, [.int cdv, .int (nI nM), .ref z1, .ref z2, .ref z3, .ref z4, .ref z5, .ref z6, .int (nI nC), .ref z7, .ref z8, .ref z9, .ref z10, .ref z11, .ref z12, .ref z13, .ref z14, .ref z15, .ref z16, .int cyc, .int li, .long me, .long mi, .int (nI sn), .ref z17])), (z9, .inl (G.2 3, 20, .inl gP)), (z10, .inl (G.2 3, 20, .inl (upd gQ k 0))), (z11, .inl (G.2 3, 20, .inl (upd gL k 0))), (z12, .inl (G.2 2, 20, .inl (upd gF k ((gF k) + 1)))), (z13, .inl (G.2 2, 20, .inl (upd gZ k ((gZ k) + 1)))), (z14, .inl (G.2 3, 20, .inl (upd gW k 0)))] := by first | (simp [mfP, mfQ, mfL, mfZ, mfW, mfW1, pk_us, upd_upd, upd_id, upd_idv, c_6, c_45, c_61, c_71, c_99]; done) | (simp_all [mfP, mfQ, mfL, mfZ, mfW, mfW1, pk_us, upd_upd, upd_id, upd_idv]; done)
            rw [← hw9] at hP hD
            exact W.vret hx hb hr (fun t ht hW => ⟨⟨rfl, by rw [ht]; exact hP, by rw [hAe]; exact hD⟩, by rw [hAe]; exact hS.F ht⟩) hS.2.2 d_MOD_endOff_118
          · refine lv_aload_n hx hb d_MOD_endOff_102 rfl (lv_at hl 0 rfl) ?_
            refine va_get (D := G.1) (ci := 6) (v := .ref z13) (C := R_MOD) (T := T_MOD) (N := 25) hx hb hT in_MOD hown hK hP 0 rfl rfl 15 (by decide) (hT _ wd_597) (fun _ h9 => h9) rfl d_MOD_endOff_103 ?_
            refine lv_iload_n hx hb d_MOD_endOff_106 rfl (lv_at hl 1 rfl) ?_
            refine va_iald hx hb hK hP 5 2 rfl rfl (vp_in_nI (by omega) (by omega)) d_MOD_endOff_107 ?_
            refine W.eq (g2 := F0 m 108 ls (.int ((gZ k) + 1) :: [.int (nI k), .ref z11])) (by rw [nI_clamp (by omega), pk_us]) ?_
            refine lv_iconst (v := 3) hx hb d_MOD_endOff_108 (by decide) ?_
            refine lv_icmp_ge (tgt := 116) hx hb d_MOD_endOff_109 (by decide) (fun c_109 => ?_) (fun c_109 => ?_)
            · refine lv_iconst (v := 0) hx hb d_MOD_endOff_116 (by decide) ?_
              refine va_zast hx hb hK hP hD hS 3 3 rfl rfl (vp_in_nI (by omega) (by omega)) d_MOD_endOff_117 (fun H locs hP hD hS => ?_)
              rw [nI_clamp (by omega), vn0] at hP hD
              have hP : va_P G.1 vwCl [(z0, .inr (6, [.int cdv, .int (nI nM), .ref z1, .ref z2, .ref z3, .ref z4, .ref z5, .ref z6, .int (nI nC), .ref z7, .ref z8, .ref z9, .ref z10, .ref z11, .ref z12, .ref z13, .ref z14, .ref z15, .ref z16, .int cyc, .int li, .long me, .long mi, .int (nI sn), .ref z17])), (z9, .inl (G.2 3, 20, .inl gP)), (z10, .inl (G.2 3, 20, .inl (upd gQ k 0))), (z11, .inl (G.2 3, 20, .inl (upd gL k 0))), (z12, .inl (G.2 2, 20, .inl (upd gF k ((gF k) + 1)))), (z13, .inl (G.2 2, 20, .inl (upd gZ k ((gZ k) + 1)))), (z14, .inl (G.2 3, 20, .inl (upd gW k 0)))] H := hP
              have hD : va_D A [(z0, .inr (6, [.int cdv, .int (nI nM), .ref z1, .ref z2, .ref z3, .ref z4, .ref z5, .ref z6, .int (nI nC), .ref z7, .ref z8, .ref z9, .ref z10, .ref z11, .ref z12, .ref z13, .ref z14, .ref z15, .ref z16, .int cyc, .int li, .long me, .long mi, .int (nI sn), .ref z17])), (z9, .inl (G.2 3, 20, .inl gP)), (z10, .inl (G.2 3, 20, .inl (upd gQ k 0))), (z11, .inl (G.2 3, 20, .inl (upd gL k 0))), (z12, .inl (G.2 2, 20, .inl (upd gF k ((gF k) + 1)))), (z13, .inl (G.2 2, 20, .inl (upd gZ k ((gZ k) + 1)))), (z14, .inl (G.2 3, 20, .inl (upd gW k 0)))] := hD
              have hw9 : ([(z0, .inr (6, [.int cdv, .int (nI nM), .ref z1, .ref z2, .ref z3, .ref z4, .ref z5, .ref z6, .int (nI nC), .ref z7, .ref z8, .ref z9, .ref z10, .ref z11, .ref z12, .ref z13, .ref z14, .ref z15, .ref z16, .int cyc, .int li, .long me, .long mi, .int (nI sn), .ref z17])), (z9, .inl (G.2 3, 20, .inl (upd gP k (mfP (gP k))))), (z10, .inl (G.2 3, 20, .inl (upd gQ k (mfQ (gQ k) (gF k))))), (z11, .inl (G.2 3, 20, .inl (upd gL k (mfL (gL k) (gZ k) cs)))), (z12, .inl (G.2 2, 20, .inl (upd gF k (gF k + 1)))), (z13, .inl (G.2 2, 20, .inl (upd gZ k (mfZ (gZ k) cs)))), (z14, .inl (G.2 3, 20, .inl (upd gW k (mfW (gP k) (gW k) (gQ k) (gF k)))))] : va_W) = [(z0, .inr (6, [.int cdv, .int (nI nM), .ref z1, .ref z2, .ref z3, .ref z4, .ref z5, .ref z6, .int (nI nC), .ref z7, .ref z8, .ref z9, .ref z10, .ref z11, .ref z12, .ref z13, .ref z14, .ref z15, .ref z16, .int cyc, .int li, .long me, .long mi, .int (nI sn), .ref z17])), (z9, .inl (G.2 3, 20, .inl gP)), (z10, .inl (G.2 3, 20, .inl (upd gQ k 0))), (z11, .inl (G.2 3, 20, .inl (upd gL k 0))), (z12, .inl (G.2 2, 20, .inl (upd gF k ((gF k) + 1)))), (z13, .inl (G.2 2, 20, .inl (upd gZ k ((gZ k) + 1)))), (z14, .inl (G.2 3, 20, .inl (upd gW k 0)))] := by first | (simp [mfP, mfQ, mfL, mfZ, mfW, mfW1, pk_us, upd_upd, upd_id, upd_idv, c_6, c_45, c_61, c_71, c_99, c_109]; done) | (simp_all [mfP, mfQ, mfL, mfZ, mfW, mfW1, pk_us, upd_upd, upd_id, upd_idv]; done)
              rw [← hw9] at hP hD
              exact W.vret hx hb hr (fun t ht hW => ⟨⟨rfl, by rw [ht]; exact hP, by rw [hAe]; exact hD⟩, by rw [hAe]; exact hS.F ht⟩) hS.2.2 d_MOD_endOff_118
            · refine lv_iconst (v := 1) hx hb d_MOD_endOff_112 (by decide) ?_
              refine lv_goto (tgt := 117) hx hb d_MOD_endOff_113 (by decide) ?_
              refine va_zast hx hb hK hP hD hS 3 3 rfl rfl (vp_in_nI (by omega) (by omega)) d_MOD_endOff_117 (fun H locs hP hD hS => ?_)
              rw [nI_clamp (by omega), vn1] at hP hD
              have hP : va_P G.1 vwCl [(z0, .inr (6, [.int cdv, .int (nI nM), .ref z1, .ref z2, .ref z3, .ref z4, .ref z5, .ref z6, .int (nI nC), .ref z7, .ref z8, .ref z9, .ref z10, .ref z11, .ref z12, .ref z13, .ref z14, .ref z15, .ref z16, .int cyc, .int li, .long me, .long mi, .int (nI sn), .ref z17])), (z9, .inl (G.2 3, 20, .inl gP)), (z10, .inl (G.2 3, 20, .inl (upd gQ k 0))), (z11, .inl (G.2 3, 20, .inl (upd gL k 1))), (z12, .inl (G.2 2, 20, .inl (upd gF k ((gF k) + 1)))), (z13, .inl (G.2 2, 20, .inl (upd gZ k ((gZ k) + 1)))), (z14, .inl (G.2 3, 20, .inl (upd gW k 0)))] H := hP
              have hD : va_D A [(z0, .inr (6, [.int cdv, .int (nI nM), .ref z1, .ref z2, .ref z3, .ref z4, .ref z5, .ref z6, .int (nI nC), .ref z7, .ref z8, .ref z9, .ref z10, .ref z11, .ref z12, .ref z13, .ref z14, .ref z15, .ref z16, .int cyc, .int li, .long me, .long mi, .int (nI sn), .ref z17])), (z9, .inl (G.2 3, 20, .inl gP)), (z10, .inl (G.2 3, 20, .inl (upd gQ k 0))), (z11, .inl (G.2 3, 20, .inl (upd gL k 1))), (z12, .inl (G.2 2, 20, .inl (upd gF k ((gF k) + 1)))), (z13, .inl (G.2 2, 20, .inl (upd gZ k ((gZ k) + 1)))), (z14, .inl (G.2 3, 20, .inl (upd gW k 0)))] := hD
              have hw9 : ([(z0, .inr (6, [.int cdv, .int (nI nM), .ref z1, .ref z2, .ref z3, .ref z4, .ref z5, .ref z6, .int (nI nC), .ref z7, .ref z8, .ref z9, .ref z10, .ref z11, .ref z12, .ref z13, .ref z14, .ref z15, .ref z16, .int cyc, .int li, .long me, .long mi, .int (nI sn), .ref z17])), (z9, .inl (G.2 3, 20, .inl (upd gP k (mfP (gP k))))), (z10, .inl (G.2 3, 20, .inl (upd gQ k (mfQ (gQ k) (gF k))))), (z11, .inl (G.2 3, 20, .inl (upd gL k (mfL (gL k) (gZ k) cs)))), (z12, .inl (G.2 2, 20, .inl (upd gF k (gF k + 1)))), (z13, .inl (G.2 2, 20, .inl (upd gZ k (mfZ (gZ k) cs)))), (z14, .inl (G.2 3, 20, .inl (upd gW k (mfW (gP k) (gW k) (gQ k) (gF k)))))] : va_W) = [(z0, .inr (6, [.int cdv, .int (nI nM), .ref z1, .ref z2, .ref z3, .ref z4, .ref z5, .ref z6, .int (nI nC), .ref z7, .ref z8, .ref z9, .ref z10, .ref z11, .ref z12, .ref z13, .ref z14, .ref z15, .ref z16, .int cyc, .int li, .long me, .long mi, .int (nI sn), .ref z17])), (z9, .inl (G.2 3, 20, .inl gP)), (z10, .inl (G.2 3, 20, .inl (upd gQ k 0))), (z11, .inl (G.2 3, 20, .inl (upd gL k 1))), (z12, .inl (G.2 2, 20, .inl (upd gF k ((gF k) + 1)))), (z13, .inl (G.2 2, 20, .inl (upd gZ k ((gZ k) + 1)))), (z14, .inl (G.2 3, 20, .inl (upd gW k 0)))] := by first | (simp [mfP, mfQ, mfL, mfZ, mfW, mfW1, pk_us, upd_upd, upd_id, upd_idv, c_6, c_45, c_61, c_71, c_99, c_109]; done) | (simp_all [mfP, mfQ, mfL, mfZ, mfW, mfW1, pk_us, upd_upd, upd_id, upd_idv]; done)
              rw [← hw9] at hP hD
              exact W.vret hx hb hr (fun t ht hW => ⟨⟨rfl, by rw [ht]; exact hP, by rw [hAe]; exact hD⟩, by rw [hAe]; exact hS.F ht⟩) hS.2.2 d_MOD_endOff_118
  · refine lv_aload_n hx hb d_MOD_endOff_9 rfl (lv_at hl 0 rfl) ?_
    refine va_get (D := G.1) (ci := 6) (v := .ref z9) (C := R_MOD) (T := T_MOD) (N := 25) hx hb hT in_MOD hown hK hP 0 rfl rfl 11 (by decide) (hT _ wd_593) (fun _ h9 => h9) rfl d_MOD_endOff_10 ?_
    refine lv_iload_n hx hb d_MOD_endOff_13 rfl (lv_at hl 1 rfl) ?_
    refine lv_iconst (v := 0) hx hb d_MOD_endOff_14 (by decide) ?_
    refine va_zast hx hb hK hP hD hS 1 3 rfl rfl (vp_in_nI (by omega) (by omega)) d_MOD_endOff_15 (fun H locs hP hD hS => ?_)
    rw [nI_clamp (by omega), vn0] at hP hD
    have hP : va_P G.1 vwCl [(z0, .inr (6, [.int cdv, .int (nI nM), .ref z1, .ref z2, .ref z3, .ref z4, .ref z5, .ref z6, .int (nI nC), .ref z7, .ref z8, .ref z9, .ref z10, .ref z11, .ref z12, .ref z13, .ref z14, .ref z15, .ref z16, .int cyc, .int li, .long me, .long mi, .int (nI sn), .ref z17])), (z9, .inl (G.2 3, 20, .inl (upd gP k 0))), (z10, .inl (G.2 3, 20, .inl gQ)), (z11, .inl (G.2 3, 20, .inl gL)), (z12, .inl (G.2 2, 20, .inl gF)), (z13, .inl (G.2 2, 20, .inl gZ)), (z14, .inl (G.2 3, 20, .inl gW))] H := hP
    have hD : va_D A [(z0, .inr (6, [.int cdv, .int (nI nM), .ref z1, .ref z2, .ref z3, .ref z4, .ref z5, .ref z6, .int (nI nC), .ref z7, .ref z8, .ref z9, .ref z10, .ref z11, .ref z12, .ref z13, .ref z14, .ref z15, .ref z16, .int cyc, .int li, .long me, .long mi, .int (nI sn), .ref z17])), (z9, .inl (G.2 3, 20, .inl (upd gP k 0))), (z10, .inl (G.2 3, 20, .inl gQ)), (z11, .inl (G.2 3, 20, .inl gL)), (z12, .inl (G.2 2, 20, .inl gF)), (z13, .inl (G.2 2, 20, .inl gZ)), (z14, .inl (G.2 3, 20, .inl gW))] := hD
    refine lv_aload_n hx hb d_MOD_endOff_16 rfl (lv_at hl 0 rfl) ?_
    refine va_get (D := G.1) (ci := 6) (v := .ref z14) (C := R_MOD) (T := T_MOD) (N := 25) hx hb hT in_MOD hown hK hP 0 rfl rfl 16 (by decide) (hT _ wd_598) (fun _ h9 => h9) rfl d_MOD_endOff_17 ?_
    refine lv_iload_n hx hb d_MOD_endOff_20 rfl (lv_at hl 1 rfl) ?_
    refine lv_iconst (v := 0) hx hb d_MOD_endOff_21 (by decide) ?_
    refine va_zast hx hb hK hP hD hS 6 3 rfl rfl (vp_in_nI (by omega) (by omega)) d_MOD_endOff_22 (fun H locs hP hD hS => ?_)
    rw [nI_clamp (by omega), vn0] at hP hD
    have hP : va_P G.1 vwCl [(z0, .inr (6, [.int cdv, .int (nI nM), .ref z1, .ref z2, .ref z3, .ref z4, .ref z5, .ref z6, .int (nI nC), .ref z7, .ref z8, .ref z9, .ref z10, .ref z11, .ref z12, .ref z13, .ref z14, .ref z15, .ref z16, .int cyc, .int li, .long me, .long mi, .int (nI sn), .ref z17])), (z9, .inl (G.2 3, 20, .inl (upd gP k 0))), (z10, .inl (G.2 3, 20, .inl gQ)), (z11, .inl (G.2 3, 20, .inl gL)), (z12, .inl (G.2 2, 20, .inl gF)), (z13, .inl (G.2 2, 20, .inl gZ)), (z14, .inl (G.2 3, 20, .inl (upd gW k 0)))] H := hP
    have hD : va_D A [(z0, .inr (6, [.int cdv, .int (nI nM), .ref z1, .ref z2, .ref z3, .ref z4, .ref z5, .ref z6, .int (nI nC), .ref z7, .ref z8, .ref z9, .ref z10, .ref z11, .ref z12, .ref z13, .ref z14, .ref z15, .ref z16, .int cyc, .int li, .long me, .long mi, .int (nI sn), .ref z17])), (z9, .inl (G.2 3, 20, .inl (upd gP k 0))), (z10, .inl (G.2 3, 20, .inl gQ)), (z11, .inl (G.2 3, 20, .inl gL)), (z12, .inl (G.2 2, 20, .inl gF)), (z13, .inl (G.2 2, 20, .inl gZ)), (z14, .inl (G.2 3, 20, .inl (upd gW k 0)))] := hD
    refine lv_aload_n hx hb d_MOD_endOff_23 rfl (lv_at hl 0 rfl) ?_
    refine va_get (D := G.1) (ci := 6) (v := .ref z12) (C := R_MOD) (T := T_MOD) (N := 25) hx hb hT in_MOD hown hK hP 0 rfl rfl 14 (by decide) (hT _ wd_596) (fun _ h9 => h9) rfl d_MOD_endOff_24 ?_
    refine lv_iload_n hx hb d_MOD_endOff_27 rfl (lv_at hl 1 rfl) ?_
    refine lv_dup2_11 hx hb d_MOD_endOff_28 rfl rfl ?_
    refine va_iald hx hb hK hP 4 2 rfl rfl (vp_in_nI (by omega) (by omega)) d_MOD_endOff_29 ?_
    refine W.eq (g2 := F0 m 30 ls (.int (gF k) :: [.int (nI k), .ref z12])) (by rw [nI_clamp (by omega)]) ?_
    refine lv_iconst (v := 1) hx hb d_MOD_endOff_30 (by decide) ?_
    refine lv_iadd hx hb d_MOD_endOff_31 ?_
    refine va_iast hx hb hK hP hD hS 4 2 rfl rfl (vp_in_nI (by omega) (by omega)) d_MOD_endOff_32 (fun H locs hP hD hS => ?_)
    rw [nI_clamp (by omega)] at hP hD
    have hP : va_P G.1 vwCl [(z0, .inr (6, [.int cdv, .int (nI nM), .ref z1, .ref z2, .ref z3, .ref z4, .ref z5, .ref z6, .int (nI nC), .ref z7, .ref z8, .ref z9, .ref z10, .ref z11, .ref z12, .ref z13, .ref z14, .ref z15, .ref z16, .int cyc, .int li, .long me, .long mi, .int (nI sn), .ref z17])), (z9, .inl (G.2 3, 20, .inl (upd gP k 0))), (z10, .inl (G.2 3, 20, .inl gQ)), (z11, .inl (G.2 3, 20, .inl gL)), (z12, .inl (G.2 2, 20, .inl (upd gF k ((gF k) + 1)))), (z13, .inl (G.2 2, 20, .inl gZ)), (z14, .inl (G.2 3, 20, .inl (upd gW k 0)))] H := hP
    have hD : va_D A [(z0, .inr (6, [.int cdv, .int (nI nM), .ref z1, .ref z2, .ref z3, .ref z4, .ref z5, .ref z6, .int (nI nC), .ref z7, .ref z8, .ref z9, .ref z10, .ref z11, .ref z12, .ref z13, .ref z14, .ref z15, .ref z16, .int cyc, .int li, .long me, .long mi, .int (nI sn), .ref z17])), (z9, .inl (G.2 3, 20, .inl (upd gP k 0))), (z10, .inl (G.2 3, 20, .inl gQ)), (z11, .inl (G.2 3, 20, .inl gL)), (z12, .inl (G.2 2, 20, .inl (upd gF k ((gF k) + 1)))), (z13, .inl (G.2 2, 20, .inl gZ)), (z14, .inl (G.2 3, 20, .inl (upd gW k 0)))] := hD
    refine lv_aload_n hx hb d_MOD_endOff_33 rfl (lv_at hl 0 rfl) ?_
    refine va_get (D := G.1) (ci := 6) (v := .ref z13) (C := R_MOD) (T := T_MOD) (N := 25) hx hb hT in_MOD hown hK hP 0 rfl rfl 15 (by decide) (hT _ wd_597) (fun _ h9 => h9) rfl d_MOD_endOff_34 ?_
    refine lv_iload_n hx hb d_MOD_endOff_37 rfl (lv_at hl 1 rfl) ?_
    refine lv_dup2_11 hx hb d_MOD_endOff_38 rfl rfl ?_
    refine va_iald hx hb hK hP 5 2 rfl rfl (vp_in_nI (by omega) (by omega)) d_MOD_endOff_39 ?_
    refine W.eq (g2 := F0 m 40 ls (.int (gZ k) :: [.int (nI k), .ref z13])) (by rw [nI_clamp (by omega)]) ?_
    refine lv_iload_n hx hb d_MOD_endOff_40 rfl (lv_at hl 2 rfl) ?_
    refine lv_iconst (v := 0) hx hb d_MOD_endOff_41 (by decide) ?_
    refine bx_callV (W.runS (As := [.int cs, .int 0]) (rest := [.int (gZ k), .int (nI k), .ref z13]) ⟨hx, hb, hml, hown, hts⟩ (c_mholds l G cs 0) ⟨(callB_of 2 hts (gi_all wd_685) rfl rfl rfl (hT _ wd_51) (hT _ wd_683) (by decide +kernel) ⟨Nat.le_of_ble_eq_true rfl, Nat.le_of_ble_eq_true rfl⟩), (hT _ wd_684)⟩ (psR bx_nil hGK) rfl rfl hl.1 rfl (lv_room (Nat.le_of_ble_eq_true rfl)) d_MOD_endOff_42 ⟨Nat.le_of_ble_eq_true rfl, Nat.le_of_ble_eq_true rfl⟩) ?_
    refine lv_if_eq (tgt := 52) hx hb d_MOD_endOff_45 (by decide) (fun c_45 => ?_) (fun c_45 => ?_)
    · refine lv_iconst (v := 0) hx hb d_MOD_endOff_52 (by decide) ?_
      refine lv_iadd hx hb d_MOD_endOff_53 ?_
      refine W.eq (g2 := F0 m 54 ls (.int (gZ k) :: [.int (nI k), .ref z13])) (by rw [Int32.add_zero]) ?_
      refine va_iast hx hb hK hP hD hS 5 2 rfl rfl (vp_in_nI (by omega) (by omega)) d_MOD_endOff_54 (fun H locs hP hD hS => ?_)
      rw [nI_clamp (by omega)] at hP hD
      have hP : va_P G.1 vwCl [(z0, .inr (6, [.int cdv, .int (nI nM), .ref z1, .ref z2, .ref z3, .ref z4, .ref z5, .ref z6, .int (nI nC), .ref z7, .ref z8, .ref z9, .ref z10, .ref z11, .ref z12, .ref z13, .ref z14, .ref z15, .ref z16, .int cyc, .int li, .long me, .long mi, .int (nI sn), .ref z17])), (z9, .inl (G.2 3, 20, .inl (upd gP k 0))), (z10, .inl (G.2 3, 20, .inl gQ)), (z11, .inl (G.2 3, 20, .inl gL)), (z12, .inl (G.2 2, 20, .inl (upd gF k ((gF k) + 1)))), (z13, .inl (G.2 2, 20, .inl (upd gZ k (gZ k)))), (z14, .inl (G.2 3, 20, .inl (upd gW k 0)))] H := hP
      have hD : va_D A [(z0, .inr (6, [.int cdv, .int (nI nM), .ref z1, .ref z2, .ref z3, .ref z4, .ref z5, .ref z6, .int (nI nC), .ref z7, .ref z8, .ref z9, .ref z10, .ref z11, .ref z12, .ref z13, .ref z14, .ref z15, .ref z16, .int cyc, .int li, .long me, .long mi, .int (nI sn), .ref z17])), (z9, .inl (G.2 3, 20, .inl (upd gP k 0))), (z10, .inl (G.2 3, 20, .inl gQ)), (z11, .inl (G.2 3, 20, .inl gL)), (z12, .inl (G.2 2, 20, .inl (upd gF k ((gF k) + 1)))), (z13, .inl (G.2 2, 20, .inl (upd gZ k (gZ k)))), (z14, .inl (G.2 3, 20, .inl (upd gW k 0)))] := hD
      refine lv_aload_n hx hb d_MOD_endOff_55 rfl (lv_at hl 0 rfl) ?_
      refine va_get (D := G.1) (ci := 6) (v := .ref z10) (C := R_MOD) (T := T_MOD) (N := 25) hx hb hT in_MOD hown hK hP 0 rfl rfl 12 (by decide) (hT _ wd_594) (fun _ h9 => h9) rfl d_MOD_endOff_56 ?_
      refine lv_iload_n hx hb d_MOD_endOff_59 rfl (lv_at hl 1 rfl) ?_
      refine va_zald hx hb hK hP 2 3 rfl rfl (vp_in_nI (by omega) (by omega)) d_MOD_endOff_60 ?_
      refine W.eq (g2 := F0 m 61 ls (.int (gQ k) :: [])) (by rw [nI_clamp (by omega)]) ?_
      refine lv_if_eq (tgt := 88) hx hb d_MOD_endOff_61 (by decide) (fun c_61 => ?_) (fun c_61 => ?_)
      · refine lv_aload_n hx hb d_MOD_endOff_88 rfl (lv_at hl 0 rfl) ?_
        refine va_get (D := G.1) (ci := 6) (v := .ref z11) (C := R_MOD) (T := T_MOD) (N := 25) hx hb hT in_MOD hown hK hP 0 rfl rfl 13 (by decide) (hT _ wd_595) (fun _ h9 => h9) rfl d_MOD_endOff_89 ?_
        refine lv_iload_n hx hb d_MOD_endOff_92 rfl (lv_at hl 1 rfl) ?_
        refine lv_aload_n hx hb d_MOD_endOff_93 rfl (lv_at hl 0 rfl) ?_
        refine va_get (D := G.1) (ci := 6) (v := .ref z11) (C := R_MOD) (T := T_MOD) (N := 25) hx hb hT in_MOD hown hK hP 0 rfl rfl 13 (by decide) (hT _ wd_595) (fun _ h9 => h9) rfl d_MOD_endOff_94 ?_
        refine lv_iload_n hx hb d_MOD_endOff_97 rfl (lv_at hl 1 rfl) ?_
        refine va_zald hx hb hK hP 3 3 rfl rfl (vp_in_nI (by omega) (by omega)) d_MOD_endOff_98 ?_
        refine W.eq (g2 := F0 m 99 ls (.int (gL k) :: [.int (nI k), .ref z11])) (by rw [nI_clamp (by omega)]) ?_
        refine lv_if_eq (tgt := 116) hx hb d_MOD_endOff_99 (by decide) (fun c_99 => ?_) (fun c_99 => ?_)
        · refine lv_iconst (v := 0) hx hb d_MOD_endOff_116 (by decide) ?_
          refine va_zast hx hb hK hP hD hS 3 3 rfl rfl (vp_in_nI (by omega) (by omega)) d_MOD_endOff_117 (fun H locs hP hD hS => ?_)
          rw [nI_clamp (by omega), vn0] at hP hD
          have hP : va_P G.1 vwCl [(z0, .inr (6, [.int cdv, .int (nI nM), .ref z1, .ref z2, .ref z3, .ref z4, .ref z5, .ref z6, .int (nI nC), .ref z7, .ref z8, .ref z9, .ref z10, .ref z11, .ref z12, .ref z13, .ref z14, .ref z15, .ref z16, .int cyc, .int li, .long me, .long mi, .int (nI sn), .ref z17])), (z9, .inl (G.2 3, 20, .inl (upd gP k 0))), (z10, .inl (G.2 3, 20, .inl gQ)), (z11, .inl (G.2 3, 20, .inl (upd gL k 0))), (z12, .inl (G.2 2, 20, .inl (upd gF k ((gF k) + 1)))), (z13, .inl (G.2 2, 20, .inl (upd gZ k (gZ k)))), (z14, .inl (G.2 3, 20, .inl (upd gW k 0)))] H := hP
          have hD : va_D A [(z0, .inr (6, [.int cdv, .int (nI nM), .ref z1, .ref z2, .ref z3, .ref z4, .ref z5, .ref z6, .int (nI nC), .ref z7, .ref z8, .ref z9, .ref z10, .ref z11, .ref z12, .ref z13, .ref z14, .ref z15, .ref z16, .int cyc, .int li, .long me, .long mi, .int (nI sn), .ref z17])), (z9, .inl (G.2 3, 20, .inl (upd gP k 0))), (z10, .inl (G.2 3, 20, .inl gQ)), (z11, .inl (G.2 3, 20, .inl (upd gL k 0))), (z12, .inl (G.2 2, 20, .inl (upd gF k ((gF k) + 1)))), (z13, .inl (G.2 2, 20, .inl (upd gZ k (gZ k)))), (z14, .inl (G.2 3, 20, .inl (upd gW k 0)))] := hD
          have hw9 : ([(z0, .inr (6, [.int cdv, .int (nI nM), .ref z1, .ref z2, .ref z3, .ref z4, .ref z5, .ref z6, .int (nI nC), .ref z7, .ref z8, .ref z9, .ref z10, .ref z11, .ref z12, .ref z13, .ref z14, .ref z15, .ref z16, .int cyc, .int li, .long me, .long mi, .int (nI sn), .ref z17])), (z9, .inl (G.2 3, 20, .inl (upd gP k (mfP (gP k))))), (z10, .inl (G.2 3, 20, .inl (upd gQ k (mfQ (gQ k) (gF k))))), (z11, .inl (G.2 3, 20, .inl (upd gL k (mfL (gL k) (gZ k) cs)))), (z12, .inl (G.2 2, 20, .inl (upd gF k (gF k + 1)))), (z13, .inl (G.2 2, 20, .inl (upd gZ k (mfZ (gZ k) cs)))), (z14, .inl (G.2 3, 20, .inl (upd gW k (mfW (gP k) (gW k) (gQ k) (gF k)))))] : va_W) = [(z0, .inr (6, [.int cdv, .int (nI nM), .ref z1, .ref z2, .ref z3, .ref z4, .ref z5, .ref z6, .int (nI nC), .ref z7, .ref z8, .ref z9, .ref z10, .ref z11, .ref z12, .ref z13, .ref z14, .ref z15, .ref z16, .int cyc, .int li, .long me, .long mi, .int (nI sn), .ref z17])), (z9, .inl (G.2 3, 20, .inl (upd gP k 0))), (z10, .inl (G.2 3, 20, .inl gQ)), (z11, .inl (G.2 3, 20, .inl (upd gL k 0))), (z12, .inl (G.2 2, 20, .inl (upd gF k ((gF k) + 1)))), (z13, .inl (G.2 2, 20, .inl (upd gZ k (gZ k)))), (z14, .inl (G.2 3, 20, .inl (upd gW k 0)))] := by first | (simp [mfP, mfQ, mfL, mfZ, mfW, mfW1, pk_us, upd_upd, upd_id, upd_idv, c_6, c_45, c_61, c_99]; done) | (simp_all [mfP, mfQ, mfL, mfZ, mfW, mfW1, pk_us, upd_upd, upd_id, upd_idv]; done)
          rw [← hw9] at hP hD
          exact W.vret hx hb hr (fun t ht hW => ⟨⟨rfl, by rw [ht]; exact hP, by rw [hAe]; exact hD⟩, by rw [hAe]; exact hS.F ht⟩) hS.2.2 d_MOD_endOff_118
        · refine lv_aload_n hx hb d_MOD_endOff_102 rfl (lv_at hl 0 rfl) ?_
          refine va_get (D := G.1) (ci := 6) (v := .ref z13) (C := R_MOD) (T := T_MOD) (N := 25) hx hb hT in_MOD hown hK hP 0 rfl rfl 15 (by decide) (hT _ wd_597) (fun _ h9 => h9) rfl d_MOD_endOff_103 ?_
          refine lv_iload_n hx hb d_MOD_endOff_106 rfl (lv_at hl 1 rfl) ?_
          refine va_iald hx hb hK hP 5 2 rfl rfl (vp_in_nI (by omega) (by omega)) d_MOD_endOff_107 ?_
          refine W.eq (g2 := F0 m 108 ls (.int (gZ k) :: [.int (nI k), .ref z11])) (by rw [nI_clamp (by omega), pk_us]) ?_
          refine lv_iconst (v := 3) hx hb d_MOD_endOff_108 (by decide) ?_
          refine lv_icmp_ge (tgt := 116) hx hb d_MOD_endOff_109 (by decide) (fun c_109 => ?_) (fun c_109 => ?_)
          · refine lv_iconst (v := 0) hx hb d_MOD_endOff_116 (by decide) ?_
            refine va_zast hx hb hK hP hD hS 3 3 rfl rfl (vp_in_nI (by omega) (by omega)) d_MOD_endOff_117 (fun H locs hP hD hS => ?_)
            rw [nI_clamp (by omega), vn0] at hP hD
            have hP : va_P G.1 vwCl [(z0, .inr (6, [.int cdv, .int (nI nM), .ref z1, .ref z2, .ref z3, .ref z4, .ref z5, .ref z6, .int (nI nC), .ref z7, .ref z8, .ref z9, .ref z10, .ref z11, .ref z12, .ref z13, .ref z14, .ref z15, .ref z16, .int cyc, .int li, .long me, .long mi, .int (nI sn), .ref z17])), (z9, .inl (G.2 3, 20, .inl (upd gP k 0))), (z10, .inl (G.2 3, 20, .inl gQ)), (z11, .inl (G.2 3, 20, .inl (upd gL k 0))), (z12, .inl (G.2 2, 20, .inl (upd gF k ((gF k) + 1)))), (z13, .inl (G.2 2, 20, .inl (upd gZ k (gZ k)))), (z14, .inl (G.2 3, 20, .inl (upd gW k 0)))] H := hP
            have hD : va_D A [(z0, .inr (6, [.int cdv, .int (nI nM), .ref z1, .ref z2, .ref z3, .ref z4, .ref z5, .ref z6, .int (nI nC), .ref z7, .ref z8, .ref z9, .ref z10, .ref z11, .ref z12, .ref z13, .ref z14, .ref z15, .ref z16, .int cyc, .int li, .long me, .long mi, .int (nI sn), .ref z17])), (z9, .inl (G.2 3, 20, .inl (upd gP k 0))), (z10, .inl (G.2 3, 20, .inl gQ)), (z11, .inl (G.2 3, 20, .inl (upd gL k 0))), (z12, .inl (G.2 2, 20, .inl (upd gF k ((gF k) + 1)))), (z13, .inl (G.2 2, 20, .inl (upd gZ k (gZ k)))), (z14, .inl (G.2 3, 20, .inl (upd gW k 0)))] := hD
            have hw9 : ([(z0, .inr (6, [.int cdv, .int (nI nM), .ref z1, .ref z2, .ref z3, .ref z4, .ref z5, .ref z6, .int (nI nC), .ref z7, .ref z8, .ref z9, .ref z10, .ref z11, .ref z12, .ref z13, .ref z14, .ref z15, .ref z16, .int cyc, .int li, .long me, .long mi, .int (nI sn), .ref z17])), (z9, .inl (G.2 3, 20, .inl (upd gP k (mfP (gP k))))), (z10, .inl (G.2 3, 20, .inl (upd gQ k (mfQ (gQ k) (gF k))))), (z11, .inl (G.2 3, 20, .inl (upd gL k (mfL (gL k) (gZ k) cs)))), (z12, .inl (G.2 2, 20, .inl (upd gF k (gF k + 1)))), (z13, .inl (G.2 2, 20, .inl (upd gZ k (mfZ (gZ k) cs)))), (z14, .inl (G.2 3, 20, .inl (upd gW k (mfW (gP k) (gW k) (gQ k) (gF k)))))] : va_W) = [(z0, .inr (6, [.int cdv, .int (nI nM), .ref z1, .ref z2, .ref z3, .ref z4, .ref z5, .ref z6, .int (nI nC), .ref z7, .ref z8, .ref z9, .ref z10, .ref z11, .ref z12, .ref z13, .ref z14, .ref z15, .ref z16, .int cyc, .int li, .long me, .long mi, .int (nI sn), .ref z17])), (z9, .inl (G.2 3, 20, .inl (upd gP k 0))), (z10, .inl (G.2 3, 20, .inl gQ)), (z11, .inl (G.2 3, 20, .inl (upd gL k 0))), (z12, .inl (G.2 2, 20, .inl (upd gF k ((gF k) + 1)))), (z13, .inl (G.2 2, 20, .inl (upd gZ k (gZ k)))), (z14, .inl (G.2 3, 20, .inl (upd gW k 0)))] := by first | (simp [mfP, mfQ, mfL, mfZ, mfW, mfW1, pk_us, upd_upd, upd_id, upd_idv, c_6, c_45, c_61, c_99, c_109]; done) | (simp_all [mfP, mfQ, mfL, mfZ, mfW, mfW1, pk_us, upd_upd, upd_id, upd_idv]; done)
            rw [← hw9] at hP hD
            exact W.vret hx hb hr (fun t ht hW => ⟨⟨rfl, by rw [ht]; exact hP, by rw [hAe]; exact hD⟩, by rw [hAe]; exact hS.F ht⟩) hS.2.2 d_MOD_endOff_118
          · refine lv_iconst (v := 1) hx hb d_MOD_endOff_112 (by decide) ?_
            refine lv_goto (tgt := 117) hx hb d_MOD_endOff_113 (by decide) ?_
            refine va_zast hx hb hK hP hD hS 3 3 rfl rfl (vp_in_nI (by omega) (by omega)) d_MOD_endOff_117 (fun H locs hP hD hS => ?_)
            rw [nI_clamp (by omega), vn1] at hP hD
            have hP : va_P G.1 vwCl [(z0, .inr (6, [.int cdv, .int (nI nM), .ref z1, .ref z2, .ref z3, .ref z4, .ref z5, .ref z6, .int (nI nC), .ref z7, .ref z8, .ref z9, .ref z10, .ref z11, .ref z12, .ref z13, .ref z14, .ref z15, .ref z16, .int cyc, .int li, .long me, .long mi, .int (nI sn), .ref z17])), (z9, .inl (G.2 3, 20, .inl (upd gP k 0))), (z10, .inl (G.2 3, 20, .inl gQ)), (z11, .inl (G.2 3, 20, .inl (upd gL k 1))), (z12, .inl (G.2 2, 20, .inl (upd gF k ((gF k) + 1)))), (z13, .inl (G.2 2, 20, .inl (upd gZ k (gZ k)))), (z14, .inl (G.2 3, 20, .inl (upd gW k 0)))] H := hP
            have hD : va_D A [(z0, .inr (6, [.int cdv, .int (nI nM), .ref z1, .ref z2, .ref z3, .ref z4, .ref z5, .ref z6, .int (nI nC), .ref z7, .ref z8, .ref z9, .ref z10, .ref z11, .ref z12, .ref z13, .ref z14, .ref z15, .ref z16, .int cyc, .int li, .long me, .long mi, .int (nI sn), .ref z17])), (z9, .inl (G.2 3, 20, .inl (upd gP k 0))), (z10, .inl (G.2 3, 20, .inl gQ)), (z11, .inl (G.2 3, 20, .inl (upd gL k 1))), (z12, .inl (G.2 2, 20, .inl (upd gF k ((gF k) + 1)))), (z13, .inl (G.2 2, 20, .inl (upd gZ k (gZ k)))), (z14, .inl (G.2 3, 20, .inl (upd gW k 0)))] := hD
            have hw9 : ([(z0, .inr (6, [.int cdv, .int (nI nM), .ref z1, .ref z2, .ref z3, .ref z4, .ref z5, .ref z6, .int (nI nC), .ref z7, .ref z8, .ref z9, .ref z10, .ref z11, .ref z12, .ref z13, .ref z14, .ref z15, .ref z16, .int cyc, .int li, .long me, .long mi, .int (nI sn), .ref z17])), (z9, .inl (G.2 3, 20, .inl (upd gP k (mfP (gP k))))), (z10, .inl (G.2 3, 20, .inl (upd gQ k (mfQ (gQ k) (gF k))))), (z11, .inl (G.2 3, 20, .inl (upd gL k (mfL (gL k) (gZ k) cs)))), (z12, .inl (G.2 2, 20, .inl (upd gF k (gF k + 1)))), (z13, .inl (G.2 2, 20, .inl (upd gZ k (mfZ (gZ k) cs)))), (z14, .inl (G.2 3, 20, .inl (upd gW k (mfW (gP k) (gW k) (gQ k) (gF k)))))] : va_W) = [(z0, .inr (6, [.int cdv, .int (nI nM), .ref z1, .ref z2, .ref z3, .ref z4, .ref z5, .ref z6, .int (nI nC), .ref z7, .ref z8, .ref z9, .ref z10, .ref z11, .ref z12, .ref z13, .ref z14, .ref z15, .ref z16, .int cyc, .int li, .long me, .long mi, .int (nI sn), .ref z17])), (z9, .inl (G.2 3, 20, .inl (upd gP k 0))), (z10, .inl (G.2 3, 20, .inl gQ)), (z11, .inl (G.2 3, 20, .inl (upd gL k 1))), (z12, .inl (G.2 2, 20, .inl (upd gF k ((gF k) + 1)))), (z13, .inl (G.2 2, 20, .inl (upd gZ k (gZ k)))), (z14, .inl (G.2 3, 20, .inl (upd gW k 0)))] := by first | (simp [mfP, mfQ, mfL, mfZ, mfW, mfW1, pk_us, upd_upd, upd_id, upd_idv, c_6, c_45, c_61, c_99, c_109]; done) | (simp_all [mfP, mfQ, mfL, mfZ, mfW, mfW1, pk_us, upd_upd, upd_id, upd_idv]; done)
            rw [← hw9] at hP hD
            exact W.vret hx hb hr (fun t ht hW => ⟨⟨rfl, by rw [ht]; exact hP, by rw [hAe]; exact hD⟩, by rw [hAe]; exact hS.F ht⟩) hS.2.2 d_MOD_endOff_118
      · refine lv_aload_n hx hb d_MOD_endOff_64 rfl (lv_at hl 0 rfl) ?_
        refine va_get (D := G.1) (ci := 6) (v := .ref z12) (C := R_MOD) (T := T_MOD) (N := 25) hx hb hT in_MOD hown hK hP 0 rfl rfl 14 (by decide) (hT _ wd_596) (fun _ h9 => h9) rfl d_MOD_endOff_65 ?_
        refine lv_iload_n hx hb d_MOD_endOff_68 rfl (lv_at hl 1 rfl) ?_
        refine va_iald hx hb hK hP 4 2 rfl rfl (vp_in_nI (by omega) (by omega)) d_MOD_endOff_69 ?_
        refine W.eq (g2 := F0 m 70 ls (.int ((gF k) + 1) :: [])) (by rw [nI_clamp (by omega), pk_us]) ?_
        refine lv_iconst (v := 3) hx hb d_MOD_endOff_70 (by decide) ?_
        refine lv_icmp_lt (tgt := 88) hx hb d_MOD_endOff_71 (by decide) (fun c_71 => ?_) (fun c_71 => ?_)
        · refine lv_aload_n hx hb d_MOD_endOff_88 rfl (lv_at hl 0 rfl) ?_
          refine va_get (D := G.1) (ci := 6) (v := .ref z11) (C := R_MOD) (T := T_MOD) (N := 25) hx hb hT in_MOD hown hK hP 0 rfl rfl 13 (by decide) (hT _ wd_595) (fun _ h9 => h9) rfl d_MOD_endOff_89 ?_
          refine lv_iload_n hx hb d_MOD_endOff_92 rfl (lv_at hl 1 rfl) ?_
          refine lv_aload_n hx hb d_MOD_endOff_93 rfl (lv_at hl 0 rfl) ?_
          refine va_get (D := G.1) (ci := 6) (v := .ref z11) (C := R_MOD) (T := T_MOD) (N := 25) hx hb hT in_MOD hown hK hP 0 rfl rfl 13 (by decide) (hT _ wd_595) (fun _ h9 => h9) rfl d_MOD_endOff_94 ?_
          refine lv_iload_n hx hb d_MOD_endOff_97 rfl (lv_at hl 1 rfl) ?_
          refine va_zald hx hb hK hP 3 3 rfl rfl (vp_in_nI (by omega) (by omega)) d_MOD_endOff_98 ?_
          refine W.eq (g2 := F0 m 99 ls (.int (gL k) :: [.int (nI k), .ref z11])) (by rw [nI_clamp (by omega)]) ?_
          refine lv_if_eq (tgt := 116) hx hb d_MOD_endOff_99 (by decide) (fun c_99 => ?_) (fun c_99 => ?_)
          · refine lv_iconst (v := 0) hx hb d_MOD_endOff_116 (by decide) ?_
            refine va_zast hx hb hK hP hD hS 3 3 rfl rfl (vp_in_nI (by omega) (by omega)) d_MOD_endOff_117 (fun H locs hP hD hS => ?_)
            rw [nI_clamp (by omega), vn0] at hP hD
            have hP : va_P G.1 vwCl [(z0, .inr (6, [.int cdv, .int (nI nM), .ref z1, .ref z2, .ref z3, .ref z4, .ref z5, .ref z6, .int (nI nC), .ref z7, .ref z8, .ref z9, .ref z10, .ref z11, .ref z12, .ref z13, .ref z14, .ref z15, .ref z16, .int cyc, .int li, .long me, .long mi, .int (nI sn), .ref z17])), (z9, .inl (G.2 3, 20, .inl (upd gP k 0))), (z10, .inl (G.2 3, 20, .inl gQ)), (z11, .inl (G.2 3, 20, .inl (upd gL k 0))), (z12, .inl (G.2 2, 20, .inl (upd gF k ((gF k) + 1)))), (z13, .inl (G.2 2, 20, .inl (upd gZ k (gZ k)))), (z14, .inl (G.2 3, 20, .inl (upd gW k 0)))] H := hP
            have hD : va_D A [(z0, .inr (6, [.int cdv, .int (nI nM), .ref z1, .ref z2, .ref z3, .ref z4, .ref z5, .ref z6, .int (nI nC), .ref z7, .ref z8, .ref z9, .ref z10, .ref z11, .ref z12, .ref z13, .ref z14, .ref z15, .ref z16, .int cyc, .int li, .long me, .long mi, .int (nI sn), .ref z17])), (z9, .inl (G.2 3, 20, .inl (upd gP k 0))), (z10, .inl (G.2 3, 20, .inl gQ)), (z11, .inl (G.2 3, 20, .inl (upd gL k 0))), (z12, .inl (G.2 2, 20, .inl (upd gF k ((gF k) + 1)))), (z13, .inl (G.2 2, 20, .inl (upd gZ k (gZ k)))), (z14, .inl (G.2 3, 20, .inl (upd gW k 0)))] := hD
            have hw9 : ([(z0, .inr (6, [.int cdv, .int (nI nM), .ref z1, .ref z2, .ref z3, .ref z4, .ref z5, .ref z6, .int (nI nC), .ref z7, .ref z8, .ref z9, .ref z10, .ref z11, .ref z12, .ref z13, .ref z14, .ref z15, .ref z16, .int cyc, .int li, .long me, .long mi, .int (nI sn), .ref z17])), (z9, .inl (G.2 3, 20, .inl (upd gP k (mfP (gP k))))), (z10, .inl (G.2 3, 20, .inl (upd gQ k (mfQ (gQ k) (gF k))))), (z11, .inl (G.2 3, 20, .inl (upd gL k (mfL (gL k) (gZ k) cs)))), (z12, .inl (G.2 2, 20, .inl (upd gF k (gF k + 1)))), (z13, .inl (G.2 2, 20, .inl (upd gZ k (mfZ (gZ k) cs)))), (z14, .inl (G.2 3, 20, .inl (upd gW k (mfW (gP k) (gW k) (gQ k) (gF k)))))] : va_W) = [(z0, .inr (6, [.int cdv, .int (nI nM), .ref z1, .ref z2, .ref z3, .ref z4, .ref z5, .ref z6, .int (nI nC), .ref z7, .ref z8, .ref z9, .ref z10, .ref z11, .ref z12, .ref z13, .ref z14, .ref z15, .ref z16, .int cyc, .int li, .long me, .long mi, .int (nI sn), .ref z17])), (z9, .inl (G.2 3, 20, .inl (upd gP k 0))), (z10, .inl (G.2 3, 20, .inl gQ)), (z11, .inl (G.2 3, 20, .inl (upd gL k 0))), (z12, .inl (G.2 2, 20, .inl (upd gF k ((gF k) + 1)))), (z13, .inl (G.2 2, 20, .inl (upd gZ k (gZ k)))), (z14, .inl (G.2 3, 20, .inl (upd gW k 0)))] := by first | (simp [mfP, mfQ, mfL, mfZ, mfW, mfW1, pk_us, upd_upd, upd_id, upd_idv, c_6, c_45, c_61, c_71, c_99]; done) | (simp_all [mfP, mfQ, mfL, mfZ, mfW, mfW1, pk_us, upd_upd, upd_id, upd_idv]; done)
            rw [← hw9] at hP hD
            exact W.vret hx hb hr (fun t ht hW => ⟨⟨rfl, by rw [ht]; exact hP, by rw [hAe]; exact hD⟩, by rw [hAe]; exact hS.F ht⟩) hS.2.2 d_MOD_endOff_118
          · refine lv_aload_n hx hb d_MOD_endOff_102 rfl (lv_at hl 0 rfl) ?_
            refine va_get (D := G.1) (ci := 6) (v := .ref z13) (C := R_MOD) (T := T_MOD) (N := 25) hx hb hT in_MOD hown hK hP 0 rfl rfl 15 (by decide) (hT _ wd_597) (fun _ h9 => h9) rfl d_MOD_endOff_103 ?_
            refine lv_iload_n hx hb d_MOD_endOff_106 rfl (lv_at hl 1 rfl) ?_
            refine va_iald hx hb hK hP 5 2 rfl rfl (vp_in_nI (by omega) (by omega)) d_MOD_endOff_107 ?_
            refine W.eq (g2 := F0 m 108 ls (.int (gZ k) :: [.int (nI k), .ref z11])) (by rw [nI_clamp (by omega), pk_us]) ?_
            refine lv_iconst (v := 3) hx hb d_MOD_endOff_108 (by decide) ?_
            refine lv_icmp_ge (tgt := 116) hx hb d_MOD_endOff_109 (by decide) (fun c_109 => ?_) (fun c_109 => ?_)
            · refine lv_iconst (v := 0) hx hb d_MOD_endOff_116 (by decide) ?_
              refine va_zast hx hb hK hP hD hS 3 3 rfl rfl (vp_in_nI (by omega) (by omega)) d_MOD_endOff_117 (fun H locs hP hD hS => ?_)
              rw [nI_clamp (by omega), vn0] at hP hD
              have hP : va_P G.1 vwCl [(z0, .inr (6, [.int cdv, .int (nI nM), .ref z1, .ref z2, .ref z3, .ref z4, .ref z5, .ref z6, .int (nI nC), .ref z7, .ref z8, .ref z9, .ref z10, .ref z11, .ref z12, .ref z13, .ref z14, .ref z15, .ref z16, .int cyc, .int li, .long me, .long mi, .int (nI sn), .ref z17])), (z9, .inl (G.2 3, 20, .inl (upd gP k 0))), (z10, .inl (G.2 3, 20, .inl gQ)), (z11, .inl (G.2 3, 20, .inl (upd gL k 0))), (z12, .inl (G.2 2, 20, .inl (upd gF k ((gF k) + 1)))), (z13, .inl (G.2 2, 20, .inl (upd gZ k (gZ k)))), (z14, .inl (G.2 3, 20, .inl (upd gW k 0)))] H := hP
              have hD : va_D A [(z0, .inr (6, [.int cdv, .int (nI nM), .ref z1, .ref z2, .ref z3, .ref z4, .ref z5, .ref z6, .int (nI nC), .ref z7, .ref z8, .ref z9, .ref z10, .ref z11, .ref z12, .ref z13, .ref z14, .ref z15, .ref z16, .int cyc, .int li, .long me, .long mi, .int (nI sn), .ref z17])), (z9, .inl (G.2 3, 20, .inl (upd gP k 0))), (z10, .inl (G.2 3, 20, .inl gQ)), (z11, .inl (G.2 3, 20, .inl (upd gL k 0))), (z12, .inl (G.2 2, 20, .inl (upd gF k ((gF k) + 1)))), (z13, .inl (G.2 2, 20, .inl (upd gZ k (gZ k)))), (z14, .inl (G.2 3, 20, .inl (upd gW k 0)))] := hD
              have hw9 : ([(z0, .inr (6, [.int cdv, .int (nI nM), .ref z1, .ref z2, .ref z3, .ref z4, .ref z5, .ref z6, .int (nI nC), .ref z7, .ref z8, .ref z9, .ref z10, .ref z11, .ref z12, .ref z13, .ref z14, .ref z15, .ref z16, .int cyc, .int li, .long me, .long mi, .int (nI sn), .ref z17])), (z9, .inl (G.2 3, 20, .inl (upd gP k (mfP (gP k))))), (z10, .inl (G.2 3, 20, .inl (upd gQ k (mfQ (gQ k) (gF k))))), (z11, .inl (G.2 3, 20, .inl (upd gL k (mfL (gL k) (gZ k) cs)))), (z12, .inl (G.2 2, 20, .inl (upd gF k (gF k + 1)))), (z13, .inl (G.2 2, 20, .inl (upd gZ k (mfZ (gZ k) cs)))), (z14, .inl (G.2 3, 20, .inl (upd gW k (mfW (gP k) (gW k) (gQ k) (gF k)))))] : va_W) = [(z0, .inr (6, [.int cdv, .int (nI nM), .ref z1, .ref z2, .ref z3, .ref z4, .ref z5, .ref z6, .int (nI nC), .ref z7, .ref z8, .ref z9, .ref z10, .ref z11, .ref z12, .ref z13, .ref z14, .ref z15, .ref z16, .int cyc, .int li, .long me, .long mi, .int (nI sn), .ref z17])), (z9, .inl (G.2 3, 20, .inl (upd gP k 0))), (z10, .inl (G.2 3, 20, .inl gQ)), (z11, .inl (G.2 3, 20, .inl (upd gL k 0))), (z12, .inl (G.2 2, 20, .inl (upd gF k ((gF k) + 1)))), (z13, .inl (G.2 2, 20, .inl (upd gZ k (gZ k)))), (z14, .inl (G.2 3, 20, .inl (upd gW k 0)))] := by first | (simp [mfP, mfQ, mfL, mfZ, mfW, mfW1, pk_us, upd_upd, upd_id, upd_idv, c_6, c_45, c_61, c_71, c_99, c_109]; done) | (simp_all [mfP, mfQ, mfL, mfZ, mfW, mfW1, pk_us, upd_upd, upd_id, upd_idv]; done)
              rw [← hw9] at hP hD
              exact W.vret hx hb hr (fun t ht hW => ⟨⟨rfl, by rw [ht]; exact hP, by rw [hAe]; exact hD⟩, by rw [hAe]; exact hS.F ht⟩) hS.2.2 d_MOD_endOff_118
            · refine lv_iconst (v := 1) hx hb d_MOD_endOff_112 (by decide) ?_
              refine lv_goto (tgt := 117) hx hb d_MOD_endOff_113 (by decide) ?_
              refine va_zast hx hb hK hP hD hS 3 3 rfl rfl (vp_in_nI (by omega) (by omega)) d_MOD_endOff_117 (fun H locs hP hD hS => ?_)
              rw [nI_clamp (by omega), vn1] at hP hD
              have hP : va_P G.1 vwCl [(z0, .inr (6, [.int cdv, .int (nI nM), .ref z1, .ref z2, .ref z3, .ref z4, .ref z5, .ref z6, .int (nI nC), .ref z7, .ref z8, .ref z9, .ref z10, .ref z11, .ref z12, .ref z13, .ref z14, .ref z15, .ref z16, .int cyc, .int li, .long me, .long mi, .int (nI sn), .ref z17])), (z9, .inl (G.2 3, 20, .inl (upd gP k 0))), (z10, .inl (G.2 3, 20, .inl gQ)), (z11, .inl (G.2 3, 20, .inl (upd gL k 1))), (z12, .inl (G.2 2, 20, .inl (upd gF k ((gF k) + 1)))), (z13, .inl (G.2 2, 20, .inl (upd gZ k (gZ k)))), (z14, .inl (G.2 3, 20, .inl (upd gW k 0)))] H := hP
              have hD : va_D A [(z0, .inr (6, [.int cdv, .int (nI nM), .ref z1, .ref z2, .ref z3, .ref z4, .ref z5, .ref z6, .int (nI nC), .ref z7, .ref z8, .ref z9, .ref z10, .ref z11, .ref z12, .ref z13, .ref z14, .ref z15, .ref z16, .int cyc, .int li, .long me, .long mi, .int (nI sn), .ref z17])), (z9, .inl (G.2 3, 20, .inl (upd gP k 0))), (z10, .inl (G.2 3, 20, .inl gQ)), (z11, .inl (G.2 3, 20, .inl (upd gL k 1))), (z12, .inl (G.2 2, 20, .inl (upd gF k ((gF k) + 1)))), (z13, .inl (G.2 2, 20, .inl (upd gZ k (gZ k)))), (z14, .inl (G.2 3, 20, .inl (upd gW k 0)))] := hD
              have hw9 : ([(z0, .inr (6, [.int cdv, .int (nI nM), .ref z1, .ref z2, .ref z3, .ref z4, .ref z5, .ref z6, .int (nI nC), .ref z7, .ref z8, .ref z9, .ref z10, .ref z11, .ref z12, .ref z13, .ref z14, .ref z15, .ref z16, .int cyc, .int li, .long me, .long mi, .int (nI sn), .ref z17])), (z9, .inl (G.2 3, 20, .inl (upd gP k (mfP (gP k))))), (z10, .inl (G.2 3, 20, .inl (upd gQ k (mfQ (gQ k) (gF k))))), (z11, .inl (G.2 3, 20, .inl (upd gL k (mfL (gL k) (gZ k) cs)))), (z12, .inl (G.2 2, 20, .inl (upd gF k (gF k + 1)))), (z13, .inl (G.2 2, 20, .inl (upd gZ k (mfZ (gZ k) cs)))), (z14, .inl (G.2 3, 20, .inl (upd gW k (mfW (gP k) (gW k) (gQ k) (gF k)))))] : va_W) = [(z0, .inr (6, [.int cdv, .int (nI nM), .ref z1, .ref z2, .ref z3, .ref z4, .ref z5, .ref z6, .int (nI nC), .ref z7, .ref z8, .ref z9, .ref z10, .ref z11, .ref z12, .ref z13, .ref z14, .ref z15, .ref z16, .int cyc, .int li, .long me, .long mi, .int (nI sn), .ref z17])), (z9, .inl (G.2 3, 20, .inl (upd gP k 0))), (z10, .inl (G.2 3, 20, .inl gQ)), (z11, .inl (G.2 3, 20, .inl (upd gL k 1))), (z12, .inl (G.2 2, 20, .inl (upd gF k ((gF k) + 1)))), (z13, .inl (G.2 2, 20, .inl (upd gZ k (gZ k)))), (z14, .inl (G.2 3, 20, .inl (upd gW k 0)))] := by first | (simp [mfP, mfQ, mfL, mfZ, mfW, mfW1, pk_us, upd_upd, upd_id, upd_idv, c_6, c_45, c_61, c_71, c_99, c_109]; done) | (simp_all [mfP, mfQ, mfL, mfZ, mfW, mfW1, pk_us, upd_upd, upd_id, upd_idv]; done)
              rw [← hw9] at hP hD
              exact W.vret hx hb hr (fun t ht hW => ⟨⟨rfl, by rw [ht]; exact hP, by rw [hAe]; exact hD⟩, by rw [hAe]; exact hS.F ht⟩) hS.2.2 d_MOD_endOff_118
        · refine lv_aload_n hx hb d_MOD_endOff_74 rfl (lv_at hl 0 rfl) ?_
          refine va_get (D := G.1) (ci := 6) (v := .ref z10) (C := R_MOD) (T := T_MOD) (N := 25) hx hb hT in_MOD hown hK hP 0 rfl rfl 12 (by decide) (hT _ wd_594) (fun _ h9 => h9) rfl d_MOD_endOff_75 ?_
          refine lv_iload_n hx hb d_MOD_endOff_78 rfl (lv_at hl 1 rfl) ?_
          refine lv_iconst (v := 0) hx hb d_MOD_endOff_79 (by decide) ?_
          refine va_zast hx hb hK hP hD hS 2 3 rfl rfl (vp_in_nI (by omega) (by omega)) d_MOD_endOff_80 (fun H locs hP hD hS => ?_)
          rw [nI_clamp (by omega), vn0] at hP hD
          have hP : va_P G.1 vwCl [(z0, .inr (6, [.int cdv, .int (nI nM), .ref z1, .ref z2, .ref z3, .ref z4, .ref z5, .ref z6, .int (nI nC), .ref z7, .ref z8, .ref z9, .ref z10, .ref z11, .ref z12, .ref z13, .ref z14, .ref z15, .ref z16, .int cyc, .int li, .long me, .long mi, .int (nI sn), .ref z17])), (z9, .inl (G.2 3, 20, .inl (upd gP k 0))), (z10, .inl (G.2 3, 20, .inl (upd gQ k 0))), (z11, .inl (G.2 3, 20, .inl gL)), (z12, .inl (G.2 2, 20, .inl (upd gF k ((gF k) + 1)))), (z13, .inl (G.2 2, 20, .inl (upd gZ k (gZ k)))), (z14, .inl (G.2 3, 20, .inl (upd gW k 0)))] H := hP
          have hD : va_D A [(z0, .inr (6, [.int cdv, .int (nI nM), .ref z1, .ref z2, .ref z3, .ref z4, .ref z5, .ref z6, .int (nI nC), .ref z7, .ref z8, .ref z9, .ref z10, .ref z11, .ref z12, .ref z13, .ref z14, .ref z15, .ref z16, .int cyc, .int li, .long me, .long mi, .int (nI sn), .ref z17])), (z9, .inl (G.2 3, 20, .inl (upd gP k 0))), (z10, .inl (G.2 3, 20, .inl (upd gQ k 0))), (z11, .inl (G.2 3, 20, .inl gL)), (z12, .inl (G.2 2, 20, .inl (upd gF k ((gF k) + 1)))), (z13, .inl (G.2 2, 20, .inl (upd gZ k (gZ k)))), (z14, .inl (G.2 3, 20, .inl (upd gW k 0)))] := hD
          refine lv_aload_n hx hb d_MOD_endOff_81 rfl (lv_at hl 0 rfl) ?_
          refine va_get (D := G.1) (ci := 6) (v := .ref z14) (C := R_MOD) (T := T_MOD) (N := 25) hx hb hT in_MOD hown hK hP 0 rfl rfl 16 (by decide) (hT _ wd_598) (fun _ h9 => h9) rfl d_MOD_endOff_82 ?_
          refine lv_iload_n hx hb d_MOD_endOff_85 rfl (lv_at hl 1 rfl) ?_
          refine lv_iconst (v := 0) hx hb d_MOD_endOff_86 (by decide) ?_
          refine va_zast hx hb hK hP hD hS 6 3 rfl rfl (vp_in_nI (by omega) (by omega)) d_MOD_endOff_87 (fun H locs hP hD hS => ?_)
          rw [nI_clamp (by omega), vn0] at hP hD
          have hP : va_P G.1 vwCl [(z0, .inr (6, [.int cdv, .int (nI nM), .ref z1, .ref z2, .ref z3, .ref z4, .ref z5, .ref z6, .int (nI nC), .ref z7, .ref z8, .ref z9, .ref z10, .ref z11, .ref z12, .ref z13, .ref z14, .ref z15, .ref z16, .int cyc, .int li, .long me, .long mi, .int (nI sn), .ref z17])), (z9, .inl (G.2 3, 20, .inl (upd gP k 0))), (z10, .inl (G.2 3, 20, .inl (upd gQ k 0))), (z11, .inl (G.2 3, 20, .inl gL)), (z12, .inl (G.2 2, 20, .inl (upd gF k ((gF k) + 1)))), (z13, .inl (G.2 2, 20, .inl (upd gZ k (gZ k)))), (z14, .inl (G.2 3, 20, .inl (upd (upd gW k 0) k 0)))] H := hP
          have hD : va_D A [(z0, .inr (6, [.int cdv, .int (nI nM), .ref z1, .ref z2, .ref z3, .ref z4, .ref z5, .ref z6, .int (nI nC), .ref z7, .ref z8, .ref z9, .ref z10, .ref z11, .ref z12, .ref z13, .ref z14, .ref z15, .ref z16, .int cyc, .int li, .long me, .long mi, .int (nI sn), .ref z17])), (z9, .inl (G.2 3, 20, .inl (upd gP k 0))), (z10, .inl (G.2 3, 20, .inl (upd gQ k 0))), (z11, .inl (G.2 3, 20, .inl gL)), (z12, .inl (G.2 2, 20, .inl (upd gF k ((gF k) + 1)))), (z13, .inl (G.2 2, 20, .inl (upd gZ k (gZ k)))), (z14, .inl (G.2 3, 20, .inl (upd (upd gW k 0) k 0)))] := hD
          refine lv_aload_n hx hb d_MOD_endOff_88 rfl (lv_at hl 0 rfl) ?_
          refine va_get (D := G.1) (ci := 6) (v := .ref z11) (C := R_MOD) (T := T_MOD) (N := 25) hx hb hT in_MOD hown hK hP 0 rfl rfl 13 (by decide) (hT _ wd_595) (fun _ h9 => h9) rfl d_MOD_endOff_89 ?_
          refine lv_iload_n hx hb d_MOD_endOff_92 rfl (lv_at hl 1 rfl) ?_
          refine lv_aload_n hx hb d_MOD_endOff_93 rfl (lv_at hl 0 rfl) ?_
          refine va_get (D := G.1) (ci := 6) (v := .ref z11) (C := R_MOD) (T := T_MOD) (N := 25) hx hb hT in_MOD hown hK hP 0 rfl rfl 13 (by decide) (hT _ wd_595) (fun _ h9 => h9) rfl d_MOD_endOff_94 ?_
          refine lv_iload_n hx hb d_MOD_endOff_97 rfl (lv_at hl 1 rfl) ?_
          refine va_zald hx hb hK hP 3 3 rfl rfl (vp_in_nI (by omega) (by omega)) d_MOD_endOff_98 ?_
          refine W.eq (g2 := F0 m 99 ls (.int (gL k) :: [.int (nI k), .ref z11])) (by rw [nI_clamp (by omega)]) ?_
          refine lv_if_eq (tgt := 116) hx hb d_MOD_endOff_99 (by decide) (fun c_99 => ?_) (fun c_99 => ?_)
          · refine lv_iconst (v := 0) hx hb d_MOD_endOff_116 (by decide) ?_
            refine va_zast hx hb hK hP hD hS 3 3 rfl rfl (vp_in_nI (by omega) (by omega)) d_MOD_endOff_117 (fun H locs hP hD hS => ?_)
            rw [nI_clamp (by omega), vn0] at hP hD
            have hP : va_P G.1 vwCl [(z0, .inr (6, [.int cdv, .int (nI nM), .ref z1, .ref z2, .ref z3, .ref z4, .ref z5, .ref z6, .int (nI nC), .ref z7, .ref z8, .ref z9, .ref z10, .ref z11, .ref z12, .ref z13, .ref z14, .ref z15, .ref z16, .int cyc, .int li, .long me, .long mi, .int (nI sn), .ref z17])), (z9, .inl (G.2 3, 20, .inl (upd gP k 0))), (z10, .inl (G.2 3, 20, .inl (upd gQ k 0))), (z11, .inl (G.2 3, 20, .inl (upd gL k 0))), (z12, .inl (G.2 2, 20, .inl (upd gF k ((gF k) + 1)))), (z13, .inl (G.2 2, 20, .inl (upd gZ k (gZ k)))), (z14, .inl (G.2 3, 20, .inl (upd (upd gW k 0) k 0)))] H := hP
            have hD : va_D A [(z0, .inr (6, [.int cdv, .int (nI nM), .ref z1, .ref z2, .ref z3, .ref z4, .ref z5, .ref z6, .int (nI nC), .ref z7, .ref z8, .ref z9, .ref z10, .ref z11, .ref z12, .ref z13, .ref z14, .ref z15, .ref z16, .int cyc, .int li, .long me, .long mi, .int (nI sn), .ref z17])), (z9, .inl (G.2 3, 20, .inl (upd gP k 0))), (z10, .inl (G.2 3, 20, .inl (upd gQ k 0))), (z11, .inl (G.2 3, 20, .inl (upd gL k 0))), (z12, .inl (G.2 2, 20, .inl (upd gF k ((gF k) + 1)))), (z13, .inl (G.2 2, 20, .inl (upd gZ k (gZ k)))), (z14, .inl (G.2 3, 20, .inl (upd (upd gW k 0) k 0)))] := hD
            have hw9 : ([(z0, .inr (6, [.int cdv, .int (nI nM), .ref z1, .ref z2, .ref z3, .ref z4, .ref z5, .ref z6, .int (nI nC), .ref z7, .ref z8, .ref z9, .ref z10, .ref z11, .ref z12, .ref z13, .ref z14, .ref z15, .ref z16, .int cyc, .int li, .long me, .long mi, .int (nI sn), .ref z17])), (z9, .inl (G.2 3, 20, .inl (upd gP k (mfP (gP k))))), (z10, .inl (G.2 3, 20, .inl (upd gQ k (mfQ (gQ k) (gF k))))), (z11, .inl (G.2 3, 20, .inl (upd gL k (mfL (gL k) (gZ k) cs)))), (z12, .inl (G.2 2, 20, .inl (upd gF k (gF k + 1)))), (z13, .inl (G.2 2, 20, .inl (upd gZ k (mfZ (gZ k) cs)))), (z14, .inl (G.2 3, 20, .inl (upd gW k (mfW (gP k) (gW k) (gQ k) (gF k)))))] : va_W) = [(z0, .inr (6, [.int cdv, .int (nI nM), .ref z1, .ref z2, .ref z3, .ref z4, .ref z5, .ref z6, .int (nI nC), .ref z7, .ref z8, .ref z9, .ref z10, .ref z11, .ref z12, .ref z13, .ref z14, .ref z15, .ref z16, .int cyc, .int li, .long me, .long mi, .int (nI sn), .ref z17])), (z9, .inl (G.2 3, 20, .inl (upd gP k 0))), (z10, .inl (G.2 3, 20, .inl (upd gQ k 0))), (z11, .inl (G.2 3, 20, .inl (upd gL k 0))), (z12, .inl (G.2 2, 20, .inl (upd gF k ((gF k) + 1)))), (z13, .inl (G.2 2, 20, .inl (upd gZ k (gZ k)))), (z14, .inl (G.2 3, 20, .inl (upd (upd gW k 0) k 0)))] := by first | (simp [mfP, mfQ, mfL, mfZ, mfW, mfW1, pk_us, upd_upd, upd_id, upd_idv, c_6, c_45, c_61, c_71, c_99]; done) | (simp_all [mfP, mfQ, mfL, mfZ, mfW, mfW1, pk_us, upd_upd, upd_id, upd_idv]; done)
            rw [← hw9] at hP hD
            exact W.vret hx hb hr (fun t ht hW => ⟨⟨rfl, by rw [ht]; exact hP, by rw [hAe]; exact hD⟩, by rw [hAe]; exact hS.F ht⟩) hS.2.2 d_MOD_endOff_118
          · refine lv_aload_n hx hb d_MOD_endOff_102 rfl (lv_at hl 0 rfl) ?_
            refine va_get (D := G.1) (ci := 6) (v := .ref z13) (C := R_MOD) (T := T_MOD) (N := 25) hx hb hT in_MOD hown hK hP 0 rfl rfl 15 (by decide) (hT _ wd_597) (fun _ h9 => h9) rfl d_MOD_endOff_103 ?_
            refine lv_iload_n hx hb d_MOD_endOff_106 rfl (lv_at hl 1 rfl) ?_
            refine va_iald hx hb hK hP 5 2 rfl rfl (vp_in_nI (by omega) (by omega)) d_MOD_endOff_107 ?_
            refine W.eq (g2 := F0 m 108 ls (.int (gZ k) :: [.int (nI k), .ref z11])) (by rw [nI_clamp (by omega), pk_us]) ?_
            refine lv_iconst (v := 3) hx hb d_MOD_endOff_108 (by decide) ?_
            refine lv_icmp_ge (tgt := 116) hx hb d_MOD_endOff_109 (by decide) (fun c_109 => ?_) (fun c_109 => ?_)
            · refine lv_iconst (v := 0) hx hb d_MOD_endOff_116 (by decide) ?_
              refine va_zast hx hb hK hP hD hS 3 3 rfl rfl (vp_in_nI (by omega) (by omega)) d_MOD_endOff_117 (fun H locs hP hD hS => ?_)
              rw [nI_clamp (by omega), vn0] at hP hD
              have hP : va_P G.1 vwCl [(z0, .inr (6, [.int cdv, .int (nI nM), .ref z1, .ref z2, .ref z3, .ref z4, .ref z5, .ref z6, .int (nI nC), .ref z7, .ref z8, .ref z9, .ref z10, .ref z11, .ref z12, .ref z13, .ref z14, .ref z15, .ref z16, .int cyc, .int li, .long me, .long mi, .int (nI sn), .ref z17])), (z9, .inl (G.2 3, 20, .inl (upd gP k 0))), (z10, .inl (G.2 3, 20, .inl (upd gQ k 0))), (z11, .inl (G.2 3, 20, .inl (upd gL k 0))), (z12, .inl (G.2 2, 20, .inl (upd gF k ((gF k) + 1)))), (z13, .inl (G.2 2, 20, .inl (upd gZ k (gZ k)))), (z14, .inl (G.2 3, 20, .inl (upd (upd gW k 0) k 0)))] H := hP
              have hD : va_D A [(z0, .inr (6, [.int cdv, .int (nI nM), .ref z1, .ref z2, .ref z3, .ref z4, .ref z5, .ref z6, .int (nI nC), .ref z7, .ref z8, .ref z9, .ref z10, .ref z11, .ref z12, .ref z13, .ref z14, .ref z15, .ref z16, .int cyc, .int li, .long me, .long mi, .int (nI sn), .ref z17])), (z9, .inl (G.2 3, 20, .inl (upd gP k 0))), (z10, .inl (G.2 3, 20, .inl (upd gQ k 0))), (z11, .inl (G.2 3, 20, .inl (upd gL k 0))), (z12, .inl (G.2 2, 20, .inl (upd gF k ((gF k) + 1)))), (z13, .inl (G.2 2, 20, .inl (upd gZ k (gZ k)))), (z14, .inl (G.2 3, 20, .inl (upd (upd gW k 0) k 0)))] := hD
              have hw9 : ([(z0, .inr (6, [.int cdv, .int (nI nM), .ref z1, .ref z2, .ref z3, .ref z4, .ref z5, .ref z6, .int (nI nC), .ref z7, .ref z8, .ref z9, .ref z10, .ref z11, .ref z12, .ref z13, .ref z14, .ref z15, .ref z16, .int cyc, .int li, .long me, .long mi, .int (nI sn), .ref z17])), (z9, .inl (G.2 3, 20, .inl (upd gP k (mfP (gP k))))), (z10, .inl (G.2 3, 20, .inl (upd gQ k (mfQ (gQ k) (gF k))))), (z11, .inl (G.2 3, 20, .inl (upd gL k (mfL (gL k) (gZ k) cs)))), (z12, .inl (G.2 2, 20, .inl (upd gF k (gF k + 1)))), (z13, .inl (G.2 2, 20, .inl (upd gZ k (mfZ (gZ k) cs)))), (z14, .inl (G.2 3, 20, .inl (upd gW k (mfW (gP k) (gW k) (gQ k) (gF k)))))] : va_W) = [(z0, .inr (6, [.int cdv, .int (nI nM), .ref z1, .ref z2, .ref z3, .ref z4, .ref z5, .ref z6, .int (nI nC), .ref z7, .ref z8, .ref z9, .ref z10, .ref z11, .ref z12, .ref z13, .ref z14, .ref z15, .ref z16, .int cyc, .int li, .long me, .long mi, .int (nI sn), .ref z17])), (z9, .inl (G.2 3, 20, .inl (upd gP k 0))), (z10, .inl (G.2 3, 20, .inl (upd gQ k 0))), (z11, .inl (G.2 3, 20, .inl (upd gL k 0))), (z12, .inl (G.2 2, 20, .inl (upd gF k ((gF k) + 1)))), (z13, .inl (G.2 2, 20, .inl (upd gZ k (gZ k)))), (z14, .inl (G.2 3, 20, .inl (upd (upd gW k 0) k 0)))] := by first | (simp [mfP, mfQ, mfL, mfZ, mfW, mfW1, pk_us, upd_upd, upd_id, upd_idv, c_6, c_45, c_61, c_71, c_99, c_109]; done) | (simp_all [mfP, mfQ, mfL, mfZ, mfW, mfW1, pk_us, upd_upd, upd_id, upd_idv]; done)
              rw [← hw9] at hP hD
              exact W.vret hx hb hr (fun t ht hW => ⟨⟨rfl, by rw [ht]; exact hP, by rw [hAe]; exact hD⟩, by rw [hAe]; exact hS.F ht⟩) hS.2.2 d_MOD_endOff_118
            · refine lv_iconst (v := 1) hx hb d_MOD_endOff_112 (by decide) ?_
              refine lv_goto (tgt := 117) hx hb d_MOD_endOff_113 (by decide) ?_
              refine va_zast hx hb hK hP hD hS 3 3 rfl rfl (vp_in_nI (by omega) (by omega)) d_MOD_endOff_117 (fun H locs hP hD hS => ?_)
              rw [nI_clamp (by omega), vn1] at hP hD
              have hP : va_P G.1 vwCl [(z0, .inr (6, [.int cdv, .int (nI nM), .ref z1, .ref z2, .ref z3, .ref z4, .ref z5, .ref z6, .int (nI nC), .ref z7, .ref z8, .ref z9, .ref z10, .ref z11, .ref z12, .ref z13, .ref z14, .ref z15, .ref z16, .int cyc, .int li, .long me, .long mi, .int (nI sn), .ref z17])), (z9, .inl (G.2 3, 20, .inl (upd gP k 0))), (z10, .inl (G.2 3, 20, .inl (upd gQ k 0))), (z11, .inl (G.2 3, 20, .inl (upd gL k 1))), (z12, .inl (G.2 2, 20, .inl (upd gF k ((gF k) + 1)))), (z13, .inl (G.2 2, 20, .inl (upd gZ k (gZ k)))), (z14, .inl (G.2 3, 20, .inl (upd (upd gW k 0) k 0)))] H := hP
              have hD : va_D A [(z0, .inr (6, [.int cdv, .int (nI nM), .ref z1, .ref z2, .ref z3, .ref z4, .ref z5, .ref z6, .int (nI nC), .ref z7, .ref z8, .ref z9, .ref z10, .ref z11, .ref z12, .ref z13, .ref z14, .ref z15, .ref z16, .int cyc, .int li, .long me, .long mi, .int (nI sn), .ref z17])), (z9, .inl (G.2 3, 20, .inl (upd gP k 0))), (z10, .inl (G.2 3, 20, .inl (upd gQ k 0))), (z11, .inl (G.2 3, 20, .inl (upd gL k 1))), (z12, .inl (G.2 2, 20, .inl (upd gF k ((gF k) + 1)))), (z13, .inl (G.2 2, 20, .inl (upd gZ k (gZ k)))), (z14, .inl (G.2 3, 20, .inl (upd (upd gW k 0) k 0)))] := hD
              have hw9 : ([(z0, .inr (6, [.int cdv, .int (nI nM), .ref z1, .ref z2, .ref z3, .ref z4, .ref z5, .ref z6, .int (nI nC), .ref z7, .ref z8, .ref z9, .ref z10, .ref z11, .ref z12, .ref z13, .ref z14, .ref z15, .ref z16, .int cyc, .int li, .long me, .long mi, .int (nI sn), .ref z17])), (z9, .inl (G.2 3, 20, .inl (upd gP k (mfP (gP k))))), (z10, .inl (G.2 3, 20, .inl (upd gQ k (mfQ (gQ k) (gF k))))), (z11, .inl (G.2 3, 20, .inl (upd gL k (mfL (gL k) (gZ k) cs)))), (z12, .inl (G.2 2, 20, .inl (upd gF k (gF k + 1)))), (z13, .inl (G.2 2, 20, .inl (upd gZ k (mfZ (gZ k) cs)))), (z14, .inl (G.2 3, 20, .inl (upd gW k (mfW (gP k) (gW k) (gQ k) (gF k)))))] : va_W) = [(z0, .inr (6, [.int cdv, .int (nI nM), .ref z1, .ref z2, .ref z3, .ref z4, .ref z5, .ref z6, .int (nI nC), .ref z7, .ref z8, .ref z9, .ref z10, .ref z11, .ref z12, .ref z13, .ref z14, .ref z15, .ref z16, .int cyc, .int li, .long me, .long mi, .int (nI sn), .ref z17])), (z9, .inl (G.2 3, 20, .inl (upd gP k 0))), (z10, .inl (G.2 3, 20, .inl (upd gQ k 0))), (z11, .inl (G.2 3, 20, .inl (upd gL k 1))), (z12, .inl (G.2 2, 20, .inl (upd gF k ((gF k) + 1)))), (z13, .inl (G.2 2, 20, .inl (upd gZ k (gZ k)))), (z14, .inl (G.2 3, 20, .inl (upd (upd gW k 0) k 0)))] := by first | (simp [mfP, mfQ, mfL, mfZ, mfW, mfW1, pk_us, upd_upd, upd_id, upd_idv, c_6, c_45, c_61, c_71, c_99, c_109]; done) | (simp_all [mfP, mfQ, mfL, mfZ, mfW, mfW1, pk_us, upd_upd, upd_id, upd_idv]; done)
              rw [← hw9] at hP hD
              exact W.vret hx hb hr (fun t ht hW => ⟨⟨rfl, by rw [ht]; exact hP, by rw [hAe]; exact hD⟩, by rw [hAe]; exact hS.F ht⟩) hS.2.2 d_MOD_endOff_118
    · refine lv_iconst (v := 1) hx hb d_MOD_endOff_48 (by decide) ?_
      refine lv_goto (tgt := 53) hx hb d_MOD_endOff_49 (by decide) ?_
      refine lv_iadd hx hb d_MOD_endOff_53 ?_
      refine va_iast hx hb hK hP hD hS 5 2 rfl rfl (vp_in_nI (by omega) (by omega)) d_MOD_endOff_54 (fun H locs hP hD hS => ?_)
      rw [nI_clamp (by omega)] at hP hD
      have hP : va_P G.1 vwCl [(z0, .inr (6, [.int cdv, .int (nI nM), .ref z1, .ref z2, .ref z3, .ref z4, .ref z5, .ref z6, .int (nI nC), .ref z7, .ref z8, .ref z9, .ref z10, .ref z11, .ref z12, .ref z13, .ref z14, .ref z15, .ref z16, .int cyc, .int li, .long me, .long mi, .int (nI sn), .ref z17])), (z9, .inl (G.2 3, 20, .inl (upd gP k 0))), (z10, .inl (G.2 3, 20, .inl gQ)), (z11, .inl (G.2 3, 20, .inl gL)), (z12, .inl (G.2 2, 20, .inl (upd gF k ((gF k) + 1)))), (z13, .inl (G.2 2, 20, .inl (upd gZ k ((gZ k) + 1)))), (z14, .inl (G.2 3, 20, .inl (upd gW k 0)))] H := hP
      have hD : va_D A [(z0, .inr (6, [.int cdv, .int (nI nM), .ref z1, .ref z2, .ref z3, .ref z4, .ref z5, .ref z6, .int (nI nC), .ref z7, .ref z8, .ref z9, .ref z10, .ref z11, .ref z12, .ref z13, .ref z14, .ref z15, .ref z16, .int cyc, .int li, .long me, .long mi, .int (nI sn), .ref z17])), (z9, .inl (G.2 3, 20, .inl (upd gP k 0))), (z10, .inl (G.2 3, 20, .inl gQ)), (z11, .inl (G.2 3, 20, .inl gL)), (z12, .inl (G.2 2, 20, .inl (upd gF k ((gF k) + 1)))), (z13, .inl (G.2 2, 20, .inl (upd gZ k ((gZ k) + 1)))), (z14, .inl (G.2 3, 20, .inl (upd gW k 0)))] := hD
      refine lv_aload_n hx hb d_MOD_endOff_55 rfl (lv_at hl 0 rfl) ?_
      refine va_get (D := G.1) (ci := 6) (v := .ref z10) (C := R_MOD) (T := T_MOD) (N := 25) hx hb hT in_MOD hown hK hP 0 rfl rfl 12 (by decide) (hT _ wd_594) (fun _ h9 => h9) rfl d_MOD_endOff_56 ?_
      refine lv_iload_n hx hb d_MOD_endOff_59 rfl (lv_at hl 1 rfl) ?_
      refine va_zald hx hb hK hP 2 3 rfl rfl (vp_in_nI (by omega) (by omega)) d_MOD_endOff_60 ?_
      refine W.eq (g2 := F0 m 61 ls (.int (gQ k) :: [])) (by rw [nI_clamp (by omega)]) ?_
      refine lv_if_eq (tgt := 88) hx hb d_MOD_endOff_61 (by decide) (fun c_61 => ?_) (fun c_61 => ?_)
      · refine lv_aload_n hx hb d_MOD_endOff_88 rfl (lv_at hl 0 rfl) ?_
        refine va_get (D := G.1) (ci := 6) (v := .ref z11) (C := R_MOD) (T := T_MOD) (N := 25) hx hb hT in_MOD hown hK hP 0 rfl rfl 13 (by decide) (hT _ wd_595) (fun _ h9 => h9) rfl d_MOD_endOff_89 ?_
        refine lv_iload_n hx hb d_MOD_endOff_92 rfl (lv_at hl 1 rfl) ?_
        refine lv_aload_n hx hb d_MOD_endOff_93 rfl (lv_at hl 0 rfl) ?_
        refine va_get (D := G.1) (ci := 6) (v := .ref z11) (C := R_MOD) (T := T_MOD) (N := 25) hx hb hT in_MOD hown hK hP 0 rfl rfl 13 (by decide) (hT _ wd_595) (fun _ h9 => h9) rfl d_MOD_endOff_94 ?_
        refine lv_iload_n hx hb d_MOD_endOff_97 rfl (lv_at hl 1 rfl) ?_
        refine va_zald hx hb hK hP 3 3 rfl rfl (vp_in_nI (by omega) (by omega)) d_MOD_endOff_98 ?_
        refine W.eq (g2 := F0 m 99 ls (.int (gL k) :: [.int (nI k), .ref z11])) (by rw [nI_clamp (by omega)]) ?_
        refine lv_if_eq (tgt := 116) hx hb d_MOD_endOff_99 (by decide) (fun c_99 => ?_) (fun c_99 => ?_)
        · refine lv_iconst (v := 0) hx hb d_MOD_endOff_116 (by decide) ?_
          refine va_zast hx hb hK hP hD hS 3 3 rfl rfl (vp_in_nI (by omega) (by omega)) d_MOD_endOff_117 (fun H locs hP hD hS => ?_)
          rw [nI_clamp (by omega), vn0] at hP hD
          have hP : va_P G.1 vwCl [(z0, .inr (6, [.int cdv, .int (nI nM), .ref z1, .ref z2, .ref z3, .ref z4, .ref z5, .ref z6, .int (nI nC), .ref z7, .ref z8, .ref z9, .ref z10, .ref z11, .ref z12, .ref z13, .ref z14, .ref z15, .ref z16, .int cyc, .int li, .long me, .long mi, .int (nI sn), .ref z17])), (z9, .inl (G.2 3, 20, .inl (upd gP k 0))), (z10, .inl (G.2 3, 20, .inl gQ)), (z11, .inl (G.2 3, 20, .inl (upd gL k 0))), (z12, .inl (G.2 2, 20, .inl (upd gF k ((gF k) + 1)))), (z13, .inl (G.2 2, 20, .inl (upd gZ k ((gZ k) + 1)))), (z14, .inl (G.2 3, 20, .inl (upd gW k 0)))] H := hP
          have hD : va_D A [(z0, .inr (6, [.int cdv, .int (nI nM), .ref z1, .ref z2, .ref z3, .ref z4, .ref z5, .ref z6, .int (nI nC), .ref z7, .ref z8, .ref z9, .ref z10, .ref z11, .ref z12, .ref z13, .ref z14, .ref z15, .ref z16, .int cyc, .int li, .long me, .long mi, .int (nI sn), .ref z17])), (z9, .inl (G.2 3, 20, .inl (upd gP k 0))), (z10, .inl (G.2 3, 20, .inl gQ)), (z11, .inl (G.2 3, 20, .inl (upd gL k 0))), (z12, .inl (G.2 2, 20, .inl (upd gF k ((gF k) + 1)))), (z13, .inl (G.2 2, 20, .inl (upd gZ k ((gZ k) + 1)))), (z14, .inl (G.2 3, 20, .inl (upd gW k 0)))] := hD
          have hw9 : ([(z0, .inr (6, [.int cdv, .int (nI nM), .ref z1, .ref z2, .ref z3, .ref z4, .ref z5, .ref z6, .int (nI nC), .ref z7, .ref z8, .ref z9, .ref z10, .ref z11, .ref z12, .ref z13, .ref z14, .ref z15, .ref z16, .int cyc, .int li, .long me, .long mi, .int (nI sn), .ref z17])), (z9, .inl (G.2 3, 20, .inl (upd gP k (mfP (gP k))))), (z10, .inl (G.2 3, 20, .inl (upd gQ k (mfQ (gQ k) (gF k))))), (z11, .inl (G.2 3, 20, .inl (upd gL k (mfL (gL k) (gZ k) cs)))), (z12, .inl (G.2 2, 20, .inl (upd gF k (gF k + 1)))), (z13, .inl (G.2 2, 20, .inl (upd gZ k (mfZ (gZ k) cs)))), (z14, .inl (G.2 3, 20, .inl (upd gW k (mfW (gP k) (gW k) (gQ k) (gF k)))))] : va_W) = [(z0, .inr (6, [.int cdv, .int (nI nM), .ref z1, .ref z2, .ref z3, .ref z4, .ref z5, .ref z6, .int (nI nC), .ref z7, .ref z8, .ref z9, .ref z10, .ref z11, .ref z12, .ref z13, .ref z14, .ref z15, .ref z16, .int cyc, .int li, .long me, .long mi, .int (nI sn), .ref z17])), (z9, .inl (G.2 3, 20, .inl (upd gP k 0))), (z10, .inl (G.2 3, 20, .inl gQ)), (z11, .inl (G.2 3, 20, .inl (upd gL k 0))), (z12, .inl (G.2 2, 20, .inl (upd gF k ((gF k) + 1)))), (z13, .inl (G.2 2, 20, .inl (upd gZ k ((gZ k) + 1)))), (z14, .inl (G.2 3, 20, .inl (upd gW k 0)))] := by first | (simp [mfP, mfQ, mfL, mfZ, mfW, mfW1, pk_us, upd_upd, upd_id, upd_idv, c_6, c_45, c_61, c_99]; done) | (simp_all [mfP, mfQ, mfL, mfZ, mfW, mfW1, pk_us, upd_upd, upd_id, upd_idv]; done)
          rw [← hw9] at hP hD
          exact W.vret hx hb hr (fun t ht hW => ⟨⟨rfl, by rw [ht]; exact hP, by rw [hAe]; exact hD⟩, by rw [hAe]; exact hS.F ht⟩) hS.2.2 d_MOD_endOff_118
        · refine lv_aload_n hx hb d_MOD_endOff_102 rfl (lv_at hl 0 rfl) ?_
          refine va_get (D := G.1) (ci := 6) (v := .ref z13) (C := R_MOD) (T := T_MOD) (N := 25) hx hb hT in_MOD hown hK hP 0 rfl rfl 15 (by decide) (hT _ wd_597) (fun _ h9 => h9) rfl d_MOD_endOff_103 ?_
          refine lv_iload_n hx hb d_MOD_endOff_106 rfl (lv_at hl 1 rfl) ?_
          refine va_iald hx hb hK hP 5 2 rfl rfl (vp_in_nI (by omega) (by omega)) d_MOD_endOff_107 ?_
          refine W.eq (g2 := F0 m 108 ls (.int ((gZ k) + 1) :: [.int (nI k), .ref z11])) (by rw [nI_clamp (by omega), pk_us]) ?_
          refine lv_iconst (v := 3) hx hb d_MOD_endOff_108 (by decide) ?_
          refine lv_icmp_ge (tgt := 116) hx hb d_MOD_endOff_109 (by decide) (fun c_109 => ?_) (fun c_109 => ?_)
          · refine lv_iconst (v := 0) hx hb d_MOD_endOff_116 (by decide) ?_
            refine va_zast hx hb hK hP hD hS 3 3 rfl rfl (vp_in_nI (by omega) (by omega)) d_MOD_endOff_117 (fun H locs hP hD hS => ?_)
            rw [nI_clamp (by omega), vn0] at hP hD
            have hP : va_P G.1 vwCl [(z0, .inr (6, [.int cdv, .int (nI nM), .ref z1, .ref z2, .ref z3, .ref z4, .ref z5, .ref z6, .int (nI nC), .ref z7, .ref z8, .ref z9, .ref z10, .ref z11, .ref z12, .ref z13, .ref z14, .ref z15, .ref z16, .int cyc, .int li, .long me, .long mi, .int (nI sn), .ref z17])), (z9, .inl (G.2 3, 20, .inl (upd gP k 0))), (z10, .inl (G.2 3, 20, .inl gQ)), (z11, .inl (G.2 3, 20, .inl (upd gL k 0))), (z12, .inl (G.2 2, 20, .inl (upd gF k ((gF k) + 1)))), (z13, .inl (G.2 2, 20, .inl (upd gZ k ((gZ k) + 1)))), (z14, .inl (G.2 3, 20, .inl (upd gW k 0)))] H := hP
            have hD : va_D A [(z0, .inr (6, [.int cdv, .int (nI nM), .ref z1, .ref z2, .ref z3, .ref z4, .ref z5, .ref z6, .int (nI nC), .ref z7, .ref z8, .ref z9, .ref z10, .ref z11, .ref z12, .ref z13, .ref z14, .ref z15, .ref z16, .int cyc, .int li, .long me, .long mi, .int (nI sn), .ref z17])), (z9, .inl (G.2 3, 20, .inl (upd gP k 0))), (z10, .inl (G.2 3, 20, .inl gQ)), (z11, .inl (G.2 3, 20, .inl (upd gL k 0))), (z12, .inl (G.2 2, 20, .inl (upd gF k ((gF k) + 1)))), (z13, .inl (G.2 2, 20, .inl (upd gZ k ((gZ k) + 1)))), (z14, .inl (G.2 3, 20, .inl (upd gW k 0)))] := hD
            have hw9 : ([(z0, .inr (6, [.int cdv, .int (nI nM), .ref z1, .ref z2, .ref z3, .ref z4, .ref z5, .ref z6, .int (nI nC), .ref z7, .ref z8, .ref z9, .ref z10, .ref z11, .ref z12, .ref z13, .ref z14, .ref z15, .ref z16, .int cyc, .int li, .long me, .long mi, .int (nI sn), .ref z17])), (z9, .inl (G.2 3, 20, .inl (upd gP k (mfP (gP k))))), (z10, .inl (G.2 3, 20, .inl (upd gQ k (mfQ (gQ k) (gF k))))), (z11, .inl (G.2 3, 20, .inl (upd gL k (mfL (gL k) (gZ k) cs)))), (z12, .inl (G.2 2, 20, .inl (upd gF k (gF k + 1)))), (z13, .inl (G.2 2, 20, .inl (upd gZ k (mfZ (gZ k) cs)))), (z14, .inl (G.2 3, 20, .inl (upd gW k (mfW (gP k) (gW k) (gQ k) (gF k)))))] : va_W) = [(z0, .inr (6, [.int cdv, .int (nI nM), .ref z1, .ref z2, .ref z3, .ref z4, .ref z5, .ref z6, .int (nI nC), .ref z7, .ref z8, .ref z9, .ref z10, .ref z11, .ref z12, .ref z13, .ref z14, .ref z15, .ref z16, .int cyc, .int li, .long me, .long mi, .int (nI sn), .ref z17])), (z9, .inl (G.2 3, 20, .inl (upd gP k 0))), (z10, .inl (G.2 3, 20, .inl gQ)), (z11, .inl (G.2 3, 20, .inl (upd gL k 0))), (z12, .inl (G.2 2, 20, .inl (upd gF k ((gF k) + 1)))), (z13, .inl (G.2 2, 20, .inl (upd gZ k ((gZ k) + 1)))), (z14, .inl (G.2 3, 20, .inl (upd gW k 0)))] := by first | (simp [mfP, mfQ, mfL, mfZ, mfW, mfW1, pk_us, upd_upd, upd_id, upd_idv, c_6, c_45, c_61, c_99, c_109]; done) | (simp_all [mfP, mfQ, mfL, mfZ, mfW, mfW1, pk_us, upd_upd, upd_id, upd_idv]; done)
            rw [← hw9] at hP hD
            exact W.vret hx hb hr (fun t ht hW => ⟨⟨rfl, by rw [ht]; exact hP, by rw [hAe]; exact hD⟩, by rw [hAe]; exact hS.F ht⟩) hS.2.2 d_MOD_endOff_118
          · refine lv_iconst (v := 1) hx hb d_MOD_endOff_112 (by decide) ?_
            refine lv_goto (tgt := 117) hx hb d_MOD_endOff_113 (by decide) ?_
            refine va_zast hx hb hK hP hD hS 3 3 rfl rfl (vp_in_nI (by omega) (by omega)) d_MOD_endOff_117 (fun H locs hP hD hS => ?_)
            rw [nI_clamp (by omega), vn1] at hP hD
            have hP : va_P G.1 vwCl [(z0, .inr (6, [.int cdv, .int (nI nM), .ref z1, .ref z2, .ref z3, .ref z4, .ref z5, .ref z6, .int (nI nC), .ref z7, .ref z8, .ref z9, .ref z10, .ref z11, .ref z12, .ref z13, .ref z14, .ref z15, .ref z16, .int cyc, .int li, .long me, .long mi, .int (nI sn), .ref z17])), (z9, .inl (G.2 3, 20, .inl (upd gP k 0))), (z10, .inl (G.2 3, 20, .inl gQ)), (z11, .inl (G.2 3, 20, .inl (upd gL k 1))), (z12, .inl (G.2 2, 20, .inl (upd gF k ((gF k) + 1)))), (z13, .inl (G.2 2, 20, .inl (upd gZ k ((gZ k) + 1)))), (z14, .inl (G.2 3, 20, .inl (upd gW k 0)))] H := hP
            have hD : va_D A [(z0, .inr (6, [.int cdv, .int (nI nM), .ref z1, .ref z2, .ref z3, .ref z4, .ref z5, .ref z6, .int (nI nC), .ref z7, .ref z8, .ref z9, .ref z10, .ref z11, .ref z12, .ref z13, .ref z14, .ref z15, .ref z16, .int cyc, .int li, .long me, .long mi, .int (nI sn), .ref z17])), (z9, .inl (G.2 3, 20, .inl (upd gP k 0))), (z10, .inl (G.2 3, 20, .inl gQ)), (z11, .inl (G.2 3, 20, .inl (upd gL k 1))), (z12, .inl (G.2 2, 20, .inl (upd gF k ((gF k) + 1)))), (z13, .inl (G.2 2, 20, .inl (upd gZ k ((gZ k) + 1)))), (z14, .inl (G.2 3, 20, .inl (upd gW k 0)))] := hD
            have hw9 : ([(z0, .inr (6, [.int cdv, .int (nI nM), .ref z1, .ref z2, .ref z3, .ref z4, .ref z5, .ref z6, .int (nI nC), .ref z7, .ref z8, .ref z9, .ref z10, .ref z11, .ref z12, .ref z13, .ref z14, .ref z15, .ref z16, .int cyc, .int li, .long me, .long mi, .int (nI sn), .ref z17])), (z9, .inl (G.2 3, 20, .inl (upd gP k (mfP (gP k))))), (z10, .inl (G.2 3, 20, .inl (upd gQ k (mfQ (gQ k) (gF k))))), (z11, .inl (G.2 3, 20, .inl (upd gL k (mfL (gL k) (gZ k) cs)))), (z12, .inl (G.2 2, 20, .inl (upd gF k (gF k + 1)))), (z13, .inl (G.2 2, 20, .inl (upd gZ k (mfZ (gZ k) cs)))), (z14, .inl (G.2 3, 20, .inl (upd gW k (mfW (gP k) (gW k) (gQ k) (gF k)))))] : va_W) = [(z0, .inr (6, [.int cdv, .int (nI nM), .ref z1, .ref z2, .ref z3, .ref z4, .ref z5, .ref z6, .int (nI nC), .ref z7, .ref z8, .ref z9, .ref z10, .ref z11, .ref z12, .ref z13, .ref z14, .ref z15, .ref z16, .int cyc, .int li, .long me, .long mi, .int (nI sn), .ref z17])), (z9, .inl (G.2 3, 20, .inl (upd gP k 0))), (z10, .inl (G.2 3, 20, .inl gQ)), (z11, .inl (G.2 3, 20, .inl (upd gL k 1))), (z12, .inl (G.2 2, 20, .inl (upd gF k ((gF k) + 1)))), (z13, .inl (G.2 2, 20, .inl (upd gZ k ((gZ k) + 1)))), (z14, .inl (G.2 3, 20, .inl (upd gW k 0)))] := by first | (simp [mfP, mfQ, mfL, mfZ, mfW, mfW1, pk_us, upd_upd, upd_id, upd_idv, c_6, c_45, c_61, c_99, c_109]; done) | (simp_all [mfP, mfQ, mfL, mfZ, mfW, mfW1, pk_us, upd_upd, upd_id, upd_idv]; done)
            rw [← hw9] at hP hD
            exact W.vret hx hb hr (fun t ht hW => ⟨⟨rfl, by rw [ht]; exact hP, by rw [hAe]; exact hD⟩, by rw [hAe]; exact hS.F ht⟩) hS.2.2 d_MOD_endOff_118
      · refine lv_aload_n hx hb d_MOD_endOff_64 rfl (lv_at hl 0 rfl) ?_
        refine va_get (D := G.1) (ci := 6) (v := .ref z12) (C := R_MOD) (T := T_MOD) (N := 25) hx hb hT in_MOD hown hK hP 0 rfl rfl 14 (by decide) (hT _ wd_596) (fun _ h9 => h9) rfl d_MOD_endOff_65 ?_
        refine lv_iload_n hx hb d_MOD_endOff_68 rfl (lv_at hl 1 rfl) ?_
        refine va_iald hx hb hK hP 4 2 rfl rfl (vp_in_nI (by omega) (by omega)) d_MOD_endOff_69 ?_
        refine W.eq (g2 := F0 m 70 ls (.int ((gF k) + 1) :: [])) (by rw [nI_clamp (by omega), pk_us]) ?_
        refine lv_iconst (v := 3) hx hb d_MOD_endOff_70 (by decide) ?_
        refine lv_icmp_lt (tgt := 88) hx hb d_MOD_endOff_71 (by decide) (fun c_71 => ?_) (fun c_71 => ?_)
        · refine lv_aload_n hx hb d_MOD_endOff_88 rfl (lv_at hl 0 rfl) ?_
          refine va_get (D := G.1) (ci := 6) (v := .ref z11) (C := R_MOD) (T := T_MOD) (N := 25) hx hb hT in_MOD hown hK hP 0 rfl rfl 13 (by decide) (hT _ wd_595) (fun _ h9 => h9) rfl d_MOD_endOff_89 ?_
          refine lv_iload_n hx hb d_MOD_endOff_92 rfl (lv_at hl 1 rfl) ?_
          refine lv_aload_n hx hb d_MOD_endOff_93 rfl (lv_at hl 0 rfl) ?_
          refine va_get (D := G.1) (ci := 6) (v := .ref z11) (C := R_MOD) (T := T_MOD) (N := 25) hx hb hT in_MOD hown hK hP 0 rfl rfl 13 (by decide) (hT _ wd_595) (fun _ h9 => h9) rfl d_MOD_endOff_94 ?_
          refine lv_iload_n hx hb d_MOD_endOff_97 rfl (lv_at hl 1 rfl) ?_
          refine va_zald hx hb hK hP 3 3 rfl rfl (vp_in_nI (by omega) (by omega)) d_MOD_endOff_98 ?_
          refine W.eq (g2 := F0 m 99 ls (.int (gL k) :: [.int (nI k), .ref z11])) (by rw [nI_clamp (by omega)]) ?_
          refine lv_if_eq (tgt := 116) hx hb d_MOD_endOff_99 (by decide) (fun c_99 => ?_) (fun c_99 => ?_)
          · refine lv_iconst (v := 0) hx hb d_MOD_endOff_116 (by decide) ?_
            refine va_zast hx hb hK hP hD hS 3 3 rfl rfl (vp_in_nI (by omega) (by omega)) d_MOD_endOff_117 (fun H locs hP hD hS => ?_)
            rw [nI_clamp (by omega), vn0] at hP hD
            have hP : va_P G.1 vwCl [(z0, .inr (6, [.int cdv, .int (nI nM), .ref z1, .ref z2, .ref z3, .ref z4, .ref z5, .ref z6, .int (nI nC), .ref z7, .ref z8, .ref z9, .ref z10, .ref z11, .ref z12, .ref z13, .ref z14, .ref z15, .ref z16, .int cyc, .int li, .long me, .long mi, .int (nI sn), .ref z17])), (z9, .inl (G.2 3, 20, .inl (upd gP k 0))), (z10, .inl (G.2 3, 20, .inl gQ)), (z11, .inl (G.2 3, 20, .inl (upd gL k 0))), (z12, .inl (G.2 2, 20, .inl (upd gF k ((gF k) + 1)))), (z13, .inl (G.2 2, 20, .inl (upd gZ k ((gZ k) + 1)))), (z14, .inl (G.2 3, 20, .inl (upd gW k 0)))] H := hP
            have hD : va_D A [(z0, .inr (6, [.int cdv, .int (nI nM), .ref z1, .ref z2, .ref z3, .ref z4, .ref z5, .ref z6, .int (nI nC), .ref z7, .ref z8, .ref z9, .ref z10, .ref z11, .ref z12, .ref z13, .ref z14, .ref z15, .ref z16, .int cyc, .int li, .long me, .long mi, .int (nI sn), .ref z17])), (z9, .inl (G.2 3, 20, .inl (upd gP k 0))), (z10, .inl (G.2 3, 20, .inl gQ)), (z11, .inl (G.2 3, 20, .inl (upd gL k 0))), (z12, .inl (G.2 2, 20, .inl (upd gF k ((gF k) + 1)))), (z13, .inl (G.2 2, 20, .inl (upd gZ k ((gZ k) + 1)))), (z14, .inl (G.2 3, 20, .inl (upd gW k 0)))] := hD
            have hw9 : ([(z0, .inr (6, [.int cdv, .int (nI nM), .ref z1, .ref z2, .ref z3, .ref z4, .ref z5, .ref z6, .int (nI nC), .ref z7, .ref z8, .ref z9, .ref z10, .ref z11, .ref z12, .ref z13, .ref z14, .ref z15, .ref z16, .int cyc, .int li, .long me, .long mi, .int (nI sn), .ref z17])), (z9, .inl (G.2 3, 20, .inl (upd gP k (mfP (gP k))))), (z10, .inl (G.2 3, 20, .inl (upd gQ k (mfQ (gQ k) (gF k))))), (z11, .inl (G.2 3, 20, .inl (upd gL k (mfL (gL k) (gZ k) cs)))), (z12, .inl (G.2 2, 20, .inl (upd gF k (gF k + 1)))), (z13, .inl (G.2 2, 20, .inl (upd gZ k (mfZ (gZ k) cs)))), (z14, .inl (G.2 3, 20, .inl (upd gW k (mfW (gP k) (gW k) (gQ k) (gF k)))))] : va_W) = [(z0, .inr (6, [.int cdv, .int (nI nM), .ref z1, .ref z2, .ref z3, .ref z4, .ref z5, .ref z6, .int (nI nC), .ref z7, .ref z8, .ref z9, .ref z10, .ref z11, .ref z12, .ref z13, .ref z14, .ref z15, .ref z16, .int cyc, .int li, .long me, .long mi, .int (nI sn), .ref z17])), (z9, .inl (G.2 3, 20, .inl (upd gP k 0))), (z10, .inl (G.2 3, 20, .inl gQ)), (z11, .inl (G.2 3, 20, .inl (upd gL k 0))), (z12, .inl (G.2 2, 20, .inl (upd gF k ((gF k) + 1)))), (z13, .inl (G.2 2, 20, .inl (upd gZ k ((gZ k) + 1)))), (z14, .inl (G.2 3, 20, .inl (upd gW k 0)))] := by first | (simp [mfP, mfQ, mfL, mfZ, mfW, mfW1, pk_us, upd_upd, upd_id, upd_idv, c_6, c_45, c_61, c_71, c_99]; done) | (simp_all [mfP, mfQ, mfL, mfZ, mfW, mfW1, pk_us, upd_upd, upd_id, upd_idv]; done)
            rw [← hw9] at hP hD
            exact W.vret hx hb hr (fun t ht hW => ⟨⟨rfl, by rw [ht]; exact hP, by rw [hAe]; exact hD⟩, by rw [hAe]; exact hS.F ht⟩) hS.2.2 d_MOD_endOff_118
          · refine lv_aload_n hx hb d_MOD_endOff_102 rfl (lv_at hl 0 rfl) ?_
            refine va_get (D := G.1) (ci := 6) (v := .ref z13) (C := R_MOD) (T := T_MOD) (N := 25) hx hb hT in_MOD hown hK hP 0 rfl rfl 15 (by decide) (hT _ wd_597) (fun _ h9 => h9) rfl d_MOD_endOff_103 ?_
            refine lv_iload_n hx hb d_MOD_endOff_106 rfl (lv_at hl 1 rfl) ?_
            refine va_iald hx hb hK hP 5 2 rfl rfl (vp_in_nI (by omega) (by omega)) d_MOD_endOff_107 ?_
            refine W.eq (g2 := F0 m 108 ls (.int ((gZ k) + 1) :: [.int (nI k), .ref z11])) (by rw [nI_clamp (by omega), pk_us]) ?_
            refine lv_iconst (v := 3) hx hb d_MOD_endOff_108 (by decide) ?_
            refine lv_icmp_ge (tgt := 116) hx hb d_MOD_endOff_109 (by decide) (fun c_109 => ?_) (fun c_109 => ?_)
            · refine lv_iconst (v := 0) hx hb d_MOD_endOff_116 (by decide) ?_
              refine va_zast hx hb hK hP hD hS 3 3 rfl rfl (vp_in_nI (by omega) (by omega)) d_MOD_endOff_117 (fun H locs hP hD hS => ?_)
              rw [nI_clamp (by omega), vn0] at hP hD
              have hP : va_P G.1 vwCl [(z0, .inr (6, [.int cdv, .int (nI nM), .ref z1, .ref z2, .ref z3, .ref z4, .ref z5, .ref z6, .int (nI nC), .ref z7, .ref z8, .ref z9, .ref z10, .ref z11, .ref z12, .ref z13, .ref z14, .ref z15, .ref z16, .int cyc, .int li, .long me, .long mi, .int (nI sn), .ref z17])), (z9, .inl (G.2 3, 20, .inl (upd gP k 0))), (z10, .inl (G.2 3, 20, .inl gQ)), (z11, .inl (G.2 3, 20, .inl (upd gL k 0))), (z12, .inl (G.2 2, 20, .inl (upd gF k ((gF k) + 1)))), (z13, .inl (G.2 2, 20, .inl (upd gZ k ((gZ k) + 1)))), (z14, .inl (G.2 3, 20, .inl (upd gW k 0)))] H := hP
              have hD : va_D A [(z0, .inr (6, [.int cdv, .int (nI nM), .ref z1, .ref z2, .ref z3, .ref z4, .ref z5, .ref z6, .int (nI nC), .ref z7, .ref z8, .ref z9, .ref z10, .ref z11, .ref z12, .ref z13, .ref z14, .ref z15, .ref z16, .int cyc, .int li, .long me, .long mi, .int (nI sn), .ref z17])), (z9, .inl (G.2 3, 20, .inl (upd gP k 0))), (z10, .inl (G.2 3, 20, .inl gQ)), (z11, .inl (G.2 3, 20, .inl (upd gL k 0))), (z12, .inl (G.2 2, 20, .inl (upd gF k ((gF k) + 1)))), (z13, .inl (G.2 2, 20, .inl (upd gZ k ((gZ k) + 1)))), (z14, .inl (G.2 3, 20, .inl (upd gW k 0)))] := hD
              have hw9 : ([(z0, .inr (6, [.int cdv, .int (nI nM), .ref z1, .ref z2, .ref z3, .ref z4, .ref z5, .ref z6, .int (nI nC), .ref z7, .ref z8, .ref z9, .ref z10, .ref z11, .ref z12, .ref z13, .ref z14, .ref z15, .ref z16, .int cyc, .int li, .long me, .long mi, .int (nI sn), .ref z17])), (z9, .inl (G.2 3, 20, .inl (upd gP k (mfP (gP k))))), (z10, .inl (G.2 3, 20, .inl (upd gQ k (mfQ (gQ k) (gF k))))), (z11, .inl (G.2 3, 20, .inl (upd gL k (mfL (gL k) (gZ k) cs)))), (z12, .inl (G.2 2, 20, .inl (upd gF k (gF k + 1)))), (z13, .inl (G.2 2, 20, .inl (upd gZ k (mfZ (gZ k) cs)))), (z14, .inl (G.2 3, 20, .inl (upd gW k (mfW (gP k) (gW k) (gQ k) (gF k)))))] : va_W) = [(z0, .inr (6, [.int cdv, .int (nI nM), .ref z1, .ref z2, .ref z3, .ref z4, .ref z5, .ref z6, .int (nI nC), .ref z7, .ref z8, .ref z9, .ref z10, .ref z11, .ref z12, .ref z13, .ref z14, .ref z15, .ref z16, .int cyc, .int li, .long me, .long mi, .int (nI sn), .ref z17])), (z9, .inl (G.2 3, 20, .inl (upd gP k 0))), (z10, .inl (G.2 3, 20, .inl gQ)), (z11, .inl (G.2 3, 20, .inl (upd gL k 0))), (z12, .inl (G.2 2, 20, .inl (upd gF k ((gF k) + 1)))), (z13, .inl (G.2 2, 20, .inl (upd gZ k ((gZ k) + 1)))), (z14, .inl (G.2 3, 20, .inl (upd gW k 0)))] := by first | (simp [mfP, mfQ, mfL, mfZ, mfW, mfW1, pk_us, upd_upd, upd_id, upd_idv, c_6, c_45, c_61, c_71, c_99, c_109]; done) | (simp_all [mfP, mfQ, mfL, mfZ, mfW, mfW1, pk_us, upd_upd, upd_id, upd_idv]; done)
              rw [← hw9] at hP hD
              exact W.vret hx hb hr (fun t ht hW => ⟨⟨rfl, by rw [ht]; exact hP, by rw [hAe]; exact hD⟩, by rw [hAe]; exact hS.F ht⟩) hS.2.2 d_MOD_endOff_118
            · refine lv_iconst (v := 1) hx hb d_MOD_endOff_112 (by decide) ?_
              refine lv_goto (tgt := 117) hx hb d_MOD_endOff_113 (by decide) ?_
              refine va_zast hx hb hK hP hD hS 3 3 rfl rfl (vp_in_nI (by omega) (by omega)) d_MOD_endOff_117 (fun H locs hP hD hS => ?_)
              rw [nI_clamp (by omega), vn1] at hP hD
              have hP : va_P G.1 vwCl [(z0, .inr (6, [.int cdv, .int (nI nM), .ref z1, .ref z2, .ref z3, .ref z4, .ref z5, .ref z6, .int (nI nC), .ref z7, .ref z8, .ref z9, .ref z10, .ref z11, .ref z12, .ref z13, .ref z14, .ref z15, .ref z16, .int cyc, .int li, .long me, .long mi, .int (nI sn), .ref z17])), (z9, .inl (G.2 3, 20, .inl (upd gP k 0))), (z10, .inl (G.2 3, 20, .inl gQ)), (z11, .inl (G.2 3, 20, .inl (upd gL k 1))), (z12, .inl (G.2 2, 20, .inl (upd gF k ((gF k) + 1)))), (z13, .inl (G.2 2, 20, .inl (upd gZ k ((gZ k) + 1)))), (z14, .inl (G.2 3, 20, .inl (upd gW k 0)))] H := hP
              have hD : va_D A [(z0, .inr (6, [.int cdv, .int (nI nM), .ref z1, .ref z2, .ref z3, .ref z4, .ref z5, .ref z6, .int (nI nC), .ref z7, .ref z8, .ref z9, .ref z10, .ref z11, .ref z12, .ref z13, .ref z14, .ref z15, .ref z16, .int cyc, .int li, .long me, .long mi, .int (nI sn), .ref z17])), (z9, .inl (G.2 3, 20, .inl (upd gP k 0))), (z10, .inl (G.2 3, 20, .inl gQ)), (z11, .inl (G.2 3, 20, .inl (upd gL k 1))), (z12, .inl (G.2 2, 20, .inl (upd gF k ((gF k) + 1)))), (z13, .inl (G.2 2, 20, .inl (upd gZ k ((gZ k) + 1)))), (z14, .inl (G.2 3, 20, .inl (upd gW k 0)))] := hD
              have hw9 : ([(z0, .inr (6, [.int cdv, .int (nI nM), .ref z1, .ref z2, .ref z3, .ref z4, .ref z5, .ref z6, .int (nI nC), .ref z7, .ref z8, .ref z9, .ref z10, .ref z11, .ref z12, .ref z13, .ref z14, .ref z15, .ref z16, .int cyc, .int li, .long me, .long mi, .int (nI sn), .ref z17])), (z9, .inl (G.2 3, 20, .inl (upd gP k (mfP (gP k))))), (z10, .inl (G.2 3, 20, .inl (upd gQ k (mfQ (gQ k) (gF k))))), (z11, .inl (G.2 3, 20, .inl (upd gL k (mfL (gL k) (gZ k) cs)))), (z12, .inl (G.2 2, 20, .inl (upd gF k (gF k + 1)))), (z13, .inl (G.2 2, 20, .inl (upd gZ k (mfZ (gZ k) cs)))), (z14, .inl (G.2 3, 20, .inl (upd gW k (mfW (gP k) (gW k) (gQ k) (gF k)))))] : va_W) = [(z0, .inr (6, [.int cdv, .int (nI nM), .ref z1, .ref z2, .ref z3, .ref z4, .ref z5, .ref z6, .int (nI nC), .ref z7, .ref z8, .ref z9, .ref z10, .ref z11, .ref z12, .ref z13, .ref z14, .ref z15, .ref z16, .int cyc, .int li, .long me, .long mi, .int (nI sn), .ref z17])), (z9, .inl (G.2 3, 20, .inl (upd gP k 0))), (z10, .inl (G.2 3, 20, .inl gQ)), (z11, .inl (G.2 3, 20, .inl (upd gL k 1))), (z12, .inl (G.2 2, 20, .inl (upd gF k ((gF k) + 1)))), (z13, .inl (G.2 2, 20, .inl (upd gZ k ((gZ k) + 1)))), (z14, .inl (G.2 3, 20, .inl (upd gW k 0)))] := by first | (simp [mfP, mfQ, mfL, mfZ, mfW, mfW1, pk_us, upd_upd, upd_id, upd_idv, c_6, c_45, c_61, c_71, c_99, c_109]; done) | (simp_all [mfP, mfQ, mfL, mfZ, mfW, mfW1, pk_us, upd_upd, upd_id, upd_idv]; done)
              rw [← hw9] at hP hD
              exact W.vret hx hb hr (fun t ht hW => ⟨⟨rfl, by rw [ht]; exact hP, by rw [hAe]; exact hD⟩, by rw [hAe]; exact hS.F ht⟩) hS.2.2 d_MOD_endOff_118
        · refine lv_aload_n hx hb d_MOD_endOff_74 rfl (lv_at hl 0 rfl) ?_
          refine va_get (D := G.1) (ci := 6) (v := .ref z10) (C := R_MOD) (T := T_MOD) (N := 25) hx hb hT in_MOD hown hK hP 0 rfl rfl 12 (by decide) (hT _ wd_594) (fun _ h9 => h9) rfl d_MOD_endOff_75 ?_
          refine lv_iload_n hx hb d_MOD_endOff_78 rfl (lv_at hl 1 rfl) ?_
          refine lv_iconst (v := 0) hx hb d_MOD_endOff_79 (by decide) ?_
          refine va_zast hx hb hK hP hD hS 2 3 rfl rfl (vp_in_nI (by omega) (by omega)) d_MOD_endOff_80 (fun H locs hP hD hS => ?_)
          rw [nI_clamp (by omega), vn0] at hP hD
          have hP : va_P G.1 vwCl [(z0, .inr (6, [.int cdv, .int (nI nM), .ref z1, .ref z2, .ref z3, .ref z4, .ref z5, .ref z6, .int (nI nC), .ref z7, .ref z8, .ref z9, .ref z10, .ref z11, .ref z12, .ref z13, .ref z14, .ref z15, .ref z16, .int cyc, .int li, .long me, .long mi, .int (nI sn), .ref z17])), (z9, .inl (G.2 3, 20, .inl (upd gP k 0))), (z10, .inl (G.2 3, 20, .inl (upd gQ k 0))), (z11, .inl (G.2 3, 20, .inl gL)), (z12, .inl (G.2 2, 20, .inl (upd gF k ((gF k) + 1)))), (z13, .inl (G.2 2, 20, .inl (upd gZ k ((gZ k) + 1)))), (z14, .inl (G.2 3, 20, .inl (upd gW k 0)))] H := hP
          have hD : va_D A [(z0, .inr (6, [.int cdv, .int (nI nM), .ref z1, .ref z2, .ref z3, .ref z4, .ref z5, .ref z6, .int (nI nC), .ref z7, .ref z8, .ref z9, .ref z10, .ref z11, .ref z12, .ref z13, .ref z14, .ref z15, .ref z16, .int cyc, .int li, .long me, .long mi, .int (nI sn), .ref z17])), (z9, .inl (G.2 3, 20, .inl (upd gP k 0))), (z10, .inl (G.2 3, 20, .inl (upd gQ k 0))), (z11, .inl (G.2 3, 20, .inl gL)), (z12, .inl (G.2 2, 20, .inl (upd gF k ((gF k) + 1)))), (z13, .inl (G.2 2, 20, .inl (upd gZ k ((gZ k) + 1)))), (z14, .inl (G.2 3, 20, .inl (upd gW k 0)))] := hD
          refine lv_aload_n hx hb d_MOD_endOff_81 rfl (lv_at hl 0 rfl) ?_
          refine va_get (D := G.1) (ci := 6) (v := .ref z14) (C := R_MOD) (T := T_MOD) (N := 25) hx hb hT in_MOD hown hK hP 0 rfl rfl 16 (by decide) (hT _ wd_598) (fun _ h9 => h9) rfl d_MOD_endOff_82 ?_
          refine lv_iload_n hx hb d_MOD_endOff_85 rfl (lv_at hl 1 rfl) ?_
          refine lv_iconst (v := 0) hx hb d_MOD_endOff_86 (by decide) ?_
          refine va_zast hx hb hK hP hD hS 6 3 rfl rfl (vp_in_nI (by omega) (by omega)) d_MOD_endOff_87 (fun H locs hP hD hS => ?_)
          rw [nI_clamp (by omega), vn0] at hP hD
          have hP : va_P G.1 vwCl [(z0, .inr (6, [.int cdv, .int (nI nM), .ref z1, .ref z2, .ref z3, .ref z4, .ref z5, .ref z6, .int (nI nC), .ref z7, .ref z8, .ref z9, .ref z10, .ref z11, .ref z12, .ref z13, .ref z14, .ref z15, .ref z16, .int cyc, .int li, .long me, .long mi, .int (nI sn), .ref z17])), (z9, .inl (G.2 3, 20, .inl (upd gP k 0))), (z10, .inl (G.2 3, 20, .inl (upd gQ k 0))), (z11, .inl (G.2 3, 20, .inl gL)), (z12, .inl (G.2 2, 20, .inl (upd gF k ((gF k) + 1)))), (z13, .inl (G.2 2, 20, .inl (upd gZ k ((gZ k) + 1)))), (z14, .inl (G.2 3, 20, .inl (upd (upd gW k 0) k 0)))] H := hP
          have hD : va_D A [(z0, .inr (6, [.int cdv, .int (nI nM), .ref z1, .ref z2, .ref z3, .ref z4, .ref z5, .ref z6, .int (nI nC), .ref z7, .ref z8, .ref z9, .ref z10, .ref z11, .ref z12, .ref z13, .ref z14, .ref z15, .ref z16, .int cyc, .int li, .long me, .long mi, .int (nI sn), .ref z17])), (z9, .inl (G.2 3, 20, .inl (upd gP k 0))), (z10, .inl (G.2 3, 20, .inl (upd gQ k 0))), (z11, .inl (G.2 3, 20, .inl gL)), (z12, .inl (G.2 2, 20, .inl (upd gF k ((gF k) + 1)))), (z13, .inl (G.2 2, 20, .inl (upd gZ k ((gZ k) + 1)))), (z14, .inl (G.2 3, 20, .inl (upd (upd gW k 0) k 0)))] := hD
          refine lv_aload_n hx hb d_MOD_endOff_88 rfl (lv_at hl 0 rfl) ?_
          refine va_get (D := G.1) (ci := 6) (v := .ref z11) (C := R_MOD) (T := T_MOD) (N := 25) hx hb hT in_MOD hown hK hP 0 rfl rfl 13 (by decide) (hT _ wd_595) (fun _ h9 => h9) rfl d_MOD_endOff_89 ?_
          refine lv_iload_n hx hb d_MOD_endOff_92 rfl (lv_at hl 1 rfl) ?_
          refine lv_aload_n hx hb d_MOD_endOff_93 rfl (lv_at hl 0 rfl) ?_
          refine va_get (D := G.1) (ci := 6) (v := .ref z11) (C := R_MOD) (T := T_MOD) (N := 25) hx hb hT in_MOD hown hK hP 0 rfl rfl 13 (by decide) (hT _ wd_595) (fun _ h9 => h9) rfl d_MOD_endOff_94 ?_
          refine lv_iload_n hx hb d_MOD_endOff_97 rfl (lv_at hl 1 rfl) ?_
          refine va_zald hx hb hK hP 3 3 rfl rfl (vp_in_nI (by omega) (by omega)) d_MOD_endOff_98 ?_
          refine W.eq (g2 := F0 m 99 ls (.int (gL k) :: [.int (nI k), .ref z11])) (by rw [nI_clamp (by omega)]) ?_
          refine lv_if_eq (tgt := 116) hx hb d_MOD_endOff_99 (by decide) (fun c_99 => ?_) (fun c_99 => ?_)
          · refine lv_iconst (v := 0) hx hb d_MOD_endOff_116 (by decide) ?_
            refine va_zast hx hb hK hP hD hS 3 3 rfl rfl (vp_in_nI (by omega) (by omega)) d_MOD_endOff_117 (fun H locs hP hD hS => ?_)
            rw [nI_clamp (by omega), vn0] at hP hD
            have hP : va_P G.1 vwCl [(z0, .inr (6, [.int cdv, .int (nI nM), .ref z1, .ref z2, .ref z3, .ref z4, .ref z5, .ref z6, .int (nI nC), .ref z7, .ref z8, .ref z9, .ref z10, .ref z11, .ref z12, .ref z13, .ref z14, .ref z15, .ref z16, .int cyc, .int li, .long me, .long mi, .int (nI sn), .ref z17])), (z9, .inl (G.2 3, 20, .inl (upd gP k 0))), (z10, .inl (G.2 3, 20, .inl (upd gQ k 0))), (z11, .inl (G.2 3, 20, .inl (upd gL k 0))), (z12, .inl (G.2 2, 20, .inl (upd gF k ((gF k) + 1)))), (z13, .inl (G.2 2, 20, .inl (upd gZ k ((gZ k) + 1)))), (z14, .inl (G.2 3, 20, .inl (upd (upd gW k 0) k 0)))] H := hP
            have hD : va_D A [(z0, .inr (6, [.int cdv, .int (nI nM), .ref z1, .ref z2, .ref z3, .ref z4, .ref z5, .ref z6, .int (nI nC), .ref z7, .ref z8, .ref z9, .ref z10, .ref z11, .ref z12, .ref z13, .ref z14, .ref z15, .ref z16, .int cyc, .int li, .long me, .long mi, .int (nI sn), .ref z17])), (z9, .inl (G.2 3, 20, .inl (upd gP k 0))), (z10, .inl (G.2 3, 20, .inl (upd gQ k 0))), (z11, .inl (G.2 3, 20, .inl (upd gL k 0))), (z12, .inl (G.2 2, 20, .inl (upd gF k ((gF k) + 1)))), (z13, .inl (G.2 2, 20, .inl (upd gZ k ((gZ k) + 1)))), (z14, .inl (G.2 3, 20, .inl (upd (upd gW k 0) k 0)))] := hD
            have hw9 : ([(z0, .inr (6, [.int cdv, .int (nI nM), .ref z1, .ref z2, .ref z3, .ref z4, .ref z5, .ref z6, .int (nI nC), .ref z7, .ref z8, .ref z9, .ref z10, .ref z11, .ref z12, .ref z13, .ref z14, .ref z15, .ref z16, .int cyc, .int li, .long me, .long mi, .int (nI sn), .ref z17])), (z9, .inl (G.2 3, 20, .inl (upd gP k (mfP (gP k))))), (z10, .inl (G.2 3, 20, .inl (upd gQ k (mfQ (gQ k) (gF k))))), (z11, .inl (G.2 3, 20, .inl (upd gL k (mfL (gL k) (gZ k) cs)))), (z12, .inl (G.2 2, 20, .inl (upd gF k (gF k + 1)))), (z13, .inl (G.2 2, 20, .inl (upd gZ k (mfZ (gZ k) cs)))), (z14, .inl (G.2 3, 20, .inl (upd gW k (mfW (gP k) (gW k) (gQ k) (gF k)))))] : va_W) = [(z0, .inr (6, [.int cdv, .int (nI nM), .ref z1, .ref z2, .ref z3, .ref z4, .ref z5, .ref z6, .int (nI nC), .ref z7, .ref z8, .ref z9, .ref z10, .ref z11, .ref z12, .ref z13, .ref z14, .ref z15, .ref z16, .int cyc, .int li, .long me, .long mi, .int (nI sn), .ref z17])), (z9, .inl (G.2 3, 20, .inl (upd gP k 0))), (z10, .inl (G.2 3, 20, .inl (upd gQ k 0))), (z11, .inl (G.2 3, 20, .inl (upd gL k 0))), (z12, .inl (G.2 2, 20, .inl (upd gF k ((gF k) + 1)))), (z13, .inl (G.2 2, 20, .inl (upd gZ k ((gZ k) + 1)))), (z14, .inl (G.2 3, 20, .inl (upd (upd gW k 0) k 0)))] := by first | (simp [mfP, mfQ, mfL, mfZ, mfW, mfW1, pk_us, upd_upd, upd_id, upd_idv, c_6, c_45, c_61, c_71, c_99]; done) | (simp_all [mfP, mfQ, mfL, mfZ, mfW, mfW1, pk_us, upd_upd, upd_id, upd_idv]; done)
            rw [← hw9] at hP hD
            exact W.vret hx hb hr (fun t ht hW => ⟨⟨rfl, by rw [ht]; exact hP, by rw [hAe]; exact hD⟩, by rw [hAe]; exact hS.F ht⟩) hS.2.2 d_MOD_endOff_118
          · refine lv_aload_n hx hb d_MOD_endOff_102 rfl (lv_at hl 0 rfl) ?_
            refine va_get (D := G.1) (ci := 6) (v := .ref z13) (C := R_MOD) (T := T_MOD) (N := 25) hx hb hT in_MOD hown hK hP 0 rfl rfl 15 (by decide) (hT _ wd_597) (fun _ h9 => h9) rfl d_MOD_endOff_103 ?_
            refine lv_iload_n hx hb d_MOD_endOff_106 rfl (lv_at hl 1 rfl) ?_
            refine va_iald hx hb hK hP 5 2 rfl rfl (vp_in_nI (by omega) (by omega)) d_MOD_endOff_107 ?_
            refine W.eq (g2 := F0 m 108 ls (.int ((gZ k) + 1) :: [.int (nI k), .ref z11])) (by rw [nI_clamp (by omega), pk_us]) ?_
            refine lv_iconst (v := 3) hx hb d_MOD_endOff_108 (by decide) ?_
            refine lv_icmp_ge (tgt := 116) hx hb d_MOD_endOff_109 (by decide) (fun c_109 => ?_) (fun c_109 => ?_)
            · refine lv_iconst (v := 0) hx hb d_MOD_endOff_116 (by decide) ?_
              refine va_zast hx hb hK hP hD hS 3 3 rfl rfl (vp_in_nI (by omega) (by omega)) d_MOD_endOff_117 (fun H locs hP hD hS => ?_)
              rw [nI_clamp (by omega), vn0] at hP hD
              have hP : va_P G.1 vwCl [(z0, .inr (6, [.int cdv, .int (nI nM), .ref z1, .ref z2, .ref z3, .ref z4, .ref z5, .ref z6, .int (nI nC), .ref z7, .ref z8, .ref z9, .ref z10, .ref z11, .ref z12, .ref z13, .ref z14, .ref z15, .ref z16, .int cyc, .int li, .long me, .long mi, .int (nI sn), .ref z17])), (z9, .inl (G.2 3, 20, .inl (upd gP k 0))), (z10, .inl (G.2 3, 20, .inl (upd gQ k 0))), (z11, .inl (G.2 3, 20, .inl (upd gL k 0))), (z12, .inl (G.2 2, 20, .inl (upd gF k ((gF k) + 1)))), (z13, .inl (G.2 2, 20, .inl (upd gZ k ((gZ k) + 1)))), (z14, .inl (G.2 3, 20, .inl (upd (upd gW k 0) k 0)))] H := hP
              have hD : va_D A [(z0, .inr (6, [.int cdv, .int (nI nM), .ref z1, .ref z2, .ref z3, .ref z4, .ref z5, .ref z6, .int (nI nC), .ref z7, .ref z8, .ref z9, .ref z10, .ref z11, .ref z12, .ref z13, .ref z14, .ref z15, .ref z16, .int cyc, .int li, .long me, .long mi, .int (nI sn), .ref z17])), (z9, .inl (G.2 3, 20, .inl (upd gP k 0))), (z10, .inl (G.2 3, 20, .inl (upd gQ k 0))), (z11, .inl (G.2 3, 20, .inl (upd gL k 0))), (z12, .inl (G.2 2, 20, .inl (upd gF k ((gF k) + 1)))), (z13, .inl (G.2 2, 20, .inl (upd gZ k ((gZ k) + 1)))), (z14, .inl (G.2 3, 20, .inl (upd (upd gW k 0) k 0)))] := hD
              have hw9 : ([(z0, .inr (6, [.int cdv, .int (nI nM), .ref z1, .ref z2, .ref z3, .ref z4, .ref z5, .ref z6, .int (nI nC), .ref z7, .ref z8, .ref z9, .ref z10, .ref z11, .ref z12, .ref z13, .ref z14, .ref z15, .ref z16, .int cyc, .int li, .long me, .long mi, .int (nI sn), .ref z17])), (z9, .inl (G.2 3, 20, .inl (upd gP k (mfP (gP k))))), (z10, .inl (G.2 3, 20, .inl (upd gQ k (mfQ (gQ k) (gF k))))), (z11, .inl (G.2 3, 20, .inl (upd gL k (mfL (gL k) (gZ k) cs)))), (z12, .inl (G.2 2, 20, .inl (upd gF k (gF k + 1)))), (z13, .inl (G.2 2, 20, .inl (upd gZ k (mfZ (gZ k) cs)))), (z14, .inl (G.2 3, 20, .inl (upd gW k (mfW (gP k) (gW k) (gQ k) (gF k)))))] : va_W) = [(z0, .inr (6, [.int cdv, .int (nI nM), .ref z1, .ref z2, .ref z3, .ref z4, .ref z5, .ref z6, .int (nI nC), .ref z7, .ref z8, .ref z9, .ref z10, .ref z11, .ref z12, .ref z13, .ref z14, .ref z15, .ref z16, .int cyc, .int li, .long me, .long mi, .int (nI sn), .ref z17])), (z9, .inl (G.2 3, 20, .inl (upd gP k 0))), (z10, .inl (G.2 3, 20, .inl (upd gQ k 0))), (z11, .inl (G.2 3, 20, .inl (upd gL k 0))), (z12, .inl (G.2 2, 20, .inl (upd gF k ((gF k) + 1)))), (z13, .inl (G.2 2, 20, .inl (upd gZ k ((gZ k) + 1)))), (z14, .inl (G.2 3, 20, .inl (upd (upd gW k 0) k 0)))] := by first | (simp [mfP, mfQ, mfL, mfZ, mfW, mfW1, pk_us, upd_upd, upd_id, upd_idv, c_6, c_45, c_61, c_71, c_99, c_109]; done) | (simp_all [mfP, mfQ, mfL, mfZ, mfW, mfW1, pk_us, upd_upd, upd_id, upd_idv]; done)
              rw [← hw9] at hP hD
              exact W.vret hx hb hr (fun t ht hW => ⟨⟨rfl, by rw [ht]; exact hP, by rw [hAe]; exact hD⟩, by rw [hAe]; exact hS.F ht⟩) hS.2.2 d_MOD_endOff_118
            · refine lv_iconst (v := 1) hx hb d_MOD_endOff_112 (by decide) ?_
              refine lv_goto (tgt := 117) hx hb d_MOD_endOff_113 (by decide) ?_
              refine va_zast hx hb hK hP hD hS 3 3 rfl rfl (vp_in_nI (by omega) (by omega)) d_MOD_endOff_117 (fun H locs hP hD hS => ?_)
              rw [nI_clamp (by omega), vn1] at hP hD
              have hP : va_P G.1 vwCl [(z0, .inr (6, [.int cdv, .int (nI nM), .ref z1, .ref z2, .ref z3, .ref z4, .ref z5, .ref z6, .int (nI nC), .ref z7, .ref z8, .ref z9, .ref z10, .ref z11, .ref z12, .ref z13, .ref z14, .ref z15, .ref z16, .int cyc, .int li, .long me, .long mi, .int (nI sn), .ref z17])), (z9, .inl (G.2 3, 20, .inl (upd gP k 0))), (z10, .inl (G.2 3, 20, .inl (upd gQ k 0))), (z11, .inl (G.2 3, 20, .inl (upd gL k 1))), (z12, .inl (G.2 2, 20, .inl (upd gF k ((gF k) + 1)))), (z13, .inl (G.2 2, 20, .inl (upd gZ k ((gZ k) + 1)))), (z14, .inl (G.2 3, 20, .inl (upd (upd gW k 0) k 0)))] H := hP
              have hD : va_D A [(z0, .inr (6, [.int cdv, .int (nI nM), .ref z1, .ref z2, .ref z3, .ref z4, .ref z5, .ref z6, .int (nI nC), .ref z7, .ref z8, .ref z9, .ref z10, .ref z11, .ref z12, .ref z13, .ref z14, .ref z15, .ref z16, .int cyc, .int li, .long me, .long mi, .int (nI sn), .ref z17])), (z9, .inl (G.2 3, 20, .inl (upd gP k 0))), (z10, .inl (G.2 3, 20, .inl (upd gQ k 0))), (z11, .inl (G.2 3, 20, .inl (upd gL k 1))), (z12, .inl (G.2 2, 20, .inl (upd gF k ((gF k) + 1)))), (z13, .inl (G.2 2, 20, .inl (upd gZ k ((gZ k) + 1)))), (z14, .inl (G.2 3, 20, .inl (upd (upd gW k 0) k 0)))] := hD
              have hw9 : ([(z0, .inr (6, [.int cdv, .int (nI nM), .ref z1, .ref z2, .ref z3, .ref z4, .ref z5, .ref z6, .int (nI nC), .ref z7, .ref z8, .ref z9, .ref z10, .ref z11, .ref z12, .ref z13, .ref z14, .ref z15, .ref z16, .int cyc, .int li, .long me, .long mi, .int (nI sn), .ref z17])), (z9, .inl (G.2 3, 20, .inl (upd gP k (mfP (gP k))))), (z10, .inl (G.2 3, 20, .inl (upd gQ k (mfQ (gQ k) (gF k))))), (z11, .inl (G.2 3, 20, .inl (upd gL k (mfL (gL k) (gZ k) cs)))), (z12, .inl (G.2 2, 20, .inl (upd gF k (gF k + 1)))), (z13, .inl (G.2 2, 20, .inl (upd gZ k (mfZ (gZ k) cs)))), (z14, .inl (G.2 3, 20, .inl (upd gW k (mfW (gP k) (gW k) (gQ k) (gF k)))))] : va_W) = [(z0, .inr (6, [.int cdv, .int (nI nM), .ref z1, .ref z2, .ref z3, .ref z4, .ref z5, .ref z6, .int (nI nC), .ref z7, .ref z8, .ref z9, .ref z10, .ref z11, .ref z12, .ref z13, .ref z14, .ref z15, .ref z16, .int cyc, .int li, .long me, .long mi, .int (nI sn), .ref z17])), (z9, .inl (G.2 3, 20, .inl (upd gP k 0))), (z10, .inl (G.2 3, 20, .inl (upd gQ k 0))), (z11, .inl (G.2 3, 20, .inl (upd gL k 1))), (z12, .inl (G.2 2, 20, .inl (upd gF k ((gF k) + 1)))), (z13, .inl (G.2 2, 20, .inl (upd gZ k ((gZ k) + 1)))), (z14, .inl (G.2 3, 20, .inl (upd (upd gW k 0) k 0)))] := by first | (simp [mfP, mfQ, mfL, mfZ, mfW, mfW1, pk_us, upd_upd, upd_id, upd_idv, c_6, c_45, c_61, c_71, c_99, c_109]; done) | (simp_all [mfP, mfQ, mfL, mfZ, mfW, mfW1, pk_us, upd_upd, upd_id, upd_idv]; done)
              rw [← hw9] at hP hD
              exact W.vret hx hb hr (fun t ht hW => ⟨⟨rfl, by rw [ht]; exact hP, by rw [hAe]; exact hD⟩, by rw [hAe]; exact hS.F ht⟩) hS.2.2 d_MOD_endOff_118
end
section
/-! the reference's larger methods, as functions -/
section MF2
theorem pj_at {α : Type} (π : α → Int32) (f : Nat → α) (k : Nat) : (fun i => π (f i)) k = π (f k) := rfl
def fzF (gW : Nat → Int32) (n : Nat) : Nat → Nat
  | 0 => n
  | j + 1 => if gW (n - (j + 1)) = 0 then fzF gW n j else n - (j + 1)
theorem fzF_step {gW : Nat → Int32} {n k : Nat} (h : k < n) : fzF gW n (n - k) = if gW k = 0 then fzF gW n (n - (k + 1)) else k := by
  obtain ⟨h1, h2⟩ := fu_ix h
  rw [h1, fzF, h2]
def mostF (v : Int64) : Int32 := if lg_cmp v 65535 ≤ 0 then v.toInt32 else 65535
theorem inF_isM (mo : Int32) {n : Nat} (hn : n ≤ 20) : inF mo.toInt64 1 (nI n).toInt64 = isM mo n := by
  unfold inF isM
  have e1 : lg_cmp mo.toInt64 1 < 0 ↔ mo < 1 := by
    rw [lg_cmp_lt, Int64.lt_iff_toInt_lt, Int32.lt_iff_toInt_lt, Int32.toInt_toInt64]
    exact Iff.rfl
  have e2 : 0 < lg_cmp mo.toInt64 (nI n).toInt64 ↔ nI n < mo := by
    rw [lg_cmp_gt, Int64.lt_iff_toInt_lt, Int32.lt_iff_toInt_lt, Int32.toInt_toInt64, Int32.toInt_toInt64]
  simp only [e1, e2]
def mcnF (fR fH : Nat → Int32) (nM : Nat) (mo wh : Int32) : Int32 := if inF mo.toInt64 1 (nI nM).toInt64 = 0 then (-1) else if wh = 0 then fR (ixM mo) else fH (ixM mo)
def mrF (fK fY : Nat → Int32) (kd : Int32) (n : Nat) : Nat → Int32 → Int32
  | 0, acc => acc
  | j + 1, acc => mrF fK fY kd n j (if fK (n - (j + 1)) = kd then (if fY (n - (j + 1)) = 0 then 0 else if acc = 0 then 0 else 1) else acc)
theorem mrF_step {fK fY : Nat → Int32} (kd acc : Int32) {n k : Nat} (h : k < n) : mrF fK fY kd n (n - k) acc = mrF fK fY kd n (n - (k + 1)) (if fK k = kd then (if fY k = 0 then 0 else if acc = 0 then 0 else 1) else acc) := by
  obtain ⟨h1, h2⟩ := fu_ix h
  rw [h1, mrF, h2]
def mrdy (fK fY : Nat → Int32) (nM : Nat) (kd : Int32) : Int32 := if inF kd.toInt64 0 3 = 0 then (-2) else mrF fK fY kd nM nM 2
def mpF (gN gL : Nat → Int32) (i : Int32) (n : Nat) : Nat → Int32 → Int32
  | 0, _ => 0
  | j + 1, bf => if gL (n - (j + 1)) = 0 then mpF gN gL i n j bf else if bf = i then gN (n - (j + 1)) else mpF gN gL i n j (bf + 1)
theorem mpF_step {gN gL : Nat → Int32} (i bf : Int32) {n k : Nat} (h : k < n) : mpF gN gL i n (n - k) bf = if gL k = 0 then mpF gN gL i n (n - (k + 1)) bf else if bf = i then gN k else mpF gN gL i n (n - (k + 1)) (bf + 1) := by
  obtain ⟨h1, h2⟩ := fu_ix h
  rw [h1, mpF, h2]
def mkF (gN : Nat → Int32) (nu : Int32) (n : Nat) : Nat → Nat
  | 0 => n
  | j + 1 => if gN (n - (j + 1)) = nu then n - (j + 1) else mkF gN nu n j
theorem mkF_step {gN : Nat → Int32} (nu : Int32) {n k : Nat} (h : k < n) : mkF gN nu n (n - k) = if gN k = nu then k else mkF gN nu n (n - (k + 1)) := by
  obtain ⟨h1, h2⟩ := fu_ix h
  rw [h1, mkF, h2]
def zk (f : Nat → Int32) (k : Nat) : Nat → Int32 := fun i => if i < k then 0 else f i
theorem zk_zero (f : Nat → Int32) : zk f 0 = f := by funext i; simp [zk]
theorem zk_succ (f : Nat → Int32) (k : Nat) : upd (zk f k) k 0 = zk f (k + 1) := by
  funext i
  unfold upd zk
  by_cases h1 : i = k
  · subst h1
    simp
  · by_cases h2 : i < k
    · simp [h1, h2, Nat.lt_succ_of_lt h2]
    · simp [h1, h2, show ¬ i < k + 1 by omega]
def mlB (xm xi : Int64) : Int32 := if inF xm 0 1000000000 = 0 then 0 else if inF xi 0 1000000000 = 0 then 0 else 1
def mlX (xm xi : Int64) (li : Int32) (x d : Int64) : Int64 := if mlB xm xi = 0 then x else if li = 0 then x else x + d
def mlR (xm xi : Int64) (li : Int32) : Int32 := if mlB xm xi = 0 then (-2) else if li = 0 then 0 else 1
def mfz (gN gW gC gD : Nat → Int32) (nC : Nat) (mi : Int64) (i : Int32) : Int32 :=
  if inF i.toInt64 0 3 = 0 then (-2) else if i = 3 then mostF mi else if nI (fzF gW nC nC) = nI nC then 0 else if i = 0 then gN (fzF gW nC nC) else if i = 1 then gC (fzF gW nC nC) else gD (fzF gW nC nC)
theorem fzF_le {gW : Nat → Int32} {n : Nat} : ∀ m, fzF gW n m ≤ n
  | 0 => Nat.le_refl _
  | m + 1 => by
    rw [fzF]
    split
    · exact fzF_le m
    · omega
abbrev MB : Type := Nat × (Nat → Int32)
def mPut (b : MB) (v : Int32) : MB := (b.1 + 1, upd b.2 b.1 (v &&& 255))
def mTwo (b : MB) (v : Int32) : MB := mPut (mPut b (v >>> ((8 : Int32) &&& 31))) v
def msF (f : Nat → Int32) : Nat → Int32
  | 0 => 0
  | k + 1 => msF f k + f k
def mbF (fK fY : Nat → Int32) : Nat → Int32
  | 0 => 0
  | k + 1 => mbF fK fY k ||| (if fY k = 0 then (1 : Int32) <<< (fK k &&& 31) else 0)
def mtS (b : MB) (gQ fK fY : Nat → Int32) (nC nM : Nat) (li : Int32) : MB := mPut (mPut (mPut (mPut b 65) 1) (mcnt gQ nC + (if li = 0 then 0 else 128))) (mbF fK fY nM)
def mtF (b : MB) (id : Int32) (gN gW gC gD : Nat → Int32) (nC : Nat) : MB := if nI nC ≤ nI (fzF gW nC nC) then b else mPut (mTwo (mTwo (mPut (mPut b 66) id) (gN (fzF gW nC nC))) (gC (fzF gW nC nC))) (if bitF (gD (fzF gW nC nC)) id = 0 then 0 else 1)
def mtold (md pe co la : Int32) : Int32 := if md = 3 then (if co = 0 then 0 else 1) else if md = 7 then (if pe = 0 then 0 else 1) else if md = 10 then (if la = 0 then 0 else 1) else 0
def mtcF (gN gP gQ gL : Nat → Int32) (md : Int32) (n : Nat) : Nat → MB → MB
  | 0, b => b
  | j + 1, b => mtcF gN gP gQ gL md n j (if mtold md (gP (n - (j + 1))) (gQ (n - (j + 1))) (gL (n - (j + 1))) = 0 then b else mTwo b (gN (n - (j + 1))))
theorem mtcF_step {gN gP gQ gL : Nat → Int32} (md : Int32) (b : MB) {n k : Nat} (h : k < n) : mtcF gN gP gQ gL md n (n - k) b = mtcF gN gP gQ gL md n (n - (k + 1)) (if mtold md (gP k) (gQ k) (gL k) = 0 then b else mTwo b (gN k)) := by
  obtain ⟨h1, h2⟩ := fu_ix h
  rw [h1, mtcF, h2]
def mtnF (fR fH : Nat → Int32) (n : Nat) : Nat → MB → MB
  | 0, b => b
  | j + 1, b => mtnF fR fH n j (mPut (mPut b (fR (n - (j + 1)))) (fH (n - (j + 1))))
theorem mtnF_step {fR fH : Nat → Int32} (b : MB) {n k : Nat} (h : k < n) : mtnF fR fH n (n - k) b = mtnF fR fH n (n - (k + 1)) (mPut (mPut b (fR k)) (fH k)) := by
  obtain ⟨h1, h2⟩ := fu_ix h
  rw [h1, mtnF, h2]
end MF2
end
section
abbrev b_MOD_confirmedCodes : ByteArray := prog_7_method_10_code
def y_MOD_confirmedCodes : MethodName := ⟨R_MOD, "confirmedCodes", "()I"⟩
def w_MOD_confirmedCodes : List Cond := .code y_MOD_confirmedCodes b_MOD_confirmedCodes 3 (some .int) :: lwG
theorem d_MOD_confirmedCodes_0 : decode b_MOD_confirmedCodes 0 = .ok (.iconst 0, 1) := by decide +kernel
theorem d_MOD_confirmedCodes_1 : decode b_MOD_confirmedCodes 1 = .ok (.istore_n 1, 1) := by decide +kernel
theorem d_MOD_confirmedCodes_2 : decode b_MOD_confirmedCodes 2 = .ok (.iconst 0, 1) := by decide +kernel
theorem d_MOD_confirmedCodes_3 : decode b_MOD_confirmedCodes 3 = .ok (.istore_n 2, 1) := by decide +kernel
theorem d_MOD_confirmedCodes_4 : decode b_MOD_confirmedCodes 4 = .ok (.iload_n 2, 1) := by decide +kernel
theorem d_MOD_confirmedCodes_5 : decode b_MOD_confirmedCodes 5 = .ok (.aload_n 0, 1) := by decide +kernel
theorem d_MOD_confirmedCodes_6 : decode b_MOD_confirmedCodes 6 = .ok (.getfield 84, 3) := by decide +kernel
theorem d_MOD_confirmedCodes_9 : decode b_MOD_confirmedCodes 9 = .ok (.if_icmp .ge 26, 3) := by decide +kernel
theorem d_MOD_confirmedCodes_12 : decode b_MOD_confirmedCodes 12 = .ok (.iload_n 1, 1) := by decide +kernel
theorem d_MOD_confirmedCodes_13 : decode b_MOD_confirmedCodes 13 = .ok (.aload_n 0, 1) := by decide +kernel
theorem d_MOD_confirmedCodes_14 : decode b_MOD_confirmedCodes 14 = .ok (.getfield 38, 3) := by decide +kernel
theorem d_MOD_confirmedCodes_17 : decode b_MOD_confirmedCodes 17 = .ok (.iload_n 2, 1) := by decide +kernel
theorem d_MOD_confirmedCodes_18 : decode b_MOD_confirmedCodes 18 = .ok (.baload, 1) := by decide +kernel
theorem d_MOD_confirmedCodes_19 : decode b_MOD_confirmedCodes 19 = .ok (.ifCond .eq 7, 3) := by decide +kernel
theorem d_MOD_confirmedCodes_22 : decode b_MOD_confirmedCodes 22 = .ok (.iconst 1, 1) := by decide +kernel
theorem d_MOD_confirmedCodes_23 : decode b_MOD_confirmedCodes 23 = .ok (.goto 4, 3) := by decide +kernel
theorem d_MOD_confirmedCodes_26 : decode b_MOD_confirmedCodes 26 = .ok (.iconst 0, 1) := by decide +kernel
theorem d_MOD_confirmedCodes_27 : decode b_MOD_confirmedCodes 27 = .ok (.iadd, 1) := by decide +kernel
theorem d_MOD_confirmedCodes_28 : decode b_MOD_confirmedCodes 28 = .ok (.istore_n 1, 1) := by decide +kernel
theorem d_MOD_confirmedCodes_29 : decode b_MOD_confirmedCodes 29 = .ok (.iinc 2 1, 3) := by decide +kernel
theorem d_MOD_confirmedCodes_32 : decode b_MOD_confirmedCodes 32 = .ok (.goto (-28), 3) := by decide +kernel
theorem d_MOD_confirmedCodes_35 : decode b_MOD_confirmedCodes 35 = .ok (.iload_n 1, 1) := by decide +kernel
theorem d_MOD_confirmedCodes_36 : decode b_MOD_confirmedCodes 36 = .ok (.ireturn, 1) := by decide +kernel
abbrev b_MOD_firstFrozen : ByteArray := prog_7_method_19_code
def y_MOD_firstFrozen : MethodName := ⟨R_MOD, "firstFrozen", "()I"⟩
def w_MOD_firstFrozen : List Cond := .code y_MOD_firstFrozen b_MOD_firstFrozen 2 (some .int) :: lwG
theorem d_MOD_firstFrozen_0 : decode b_MOD_firstFrozen 0 = .ok (.iconst 0, 1) := by decide +kernel
theorem d_MOD_firstFrozen_1 : decode b_MOD_firstFrozen 1 = .ok (.istore_n 1, 1) := by decide +kernel
theorem d_MOD_firstFrozen_2 : decode b_MOD_firstFrozen 2 = .ok (.iload_n 1, 1) := by decide +kernel
theorem d_MOD_firstFrozen_3 : decode b_MOD_firstFrozen 3 = .ok (.aload_n 0, 1) := by decide +kernel
theorem d_MOD_firstFrozen_4 : decode b_MOD_firstFrozen 4 = .ok (.getfield 84, 3) := by decide +kernel
theorem d_MOD_firstFrozen_7 : decode b_MOD_firstFrozen 7 = .ok (.if_icmp .ge 18, 3) := by decide +kernel
theorem d_MOD_firstFrozen_10 : decode b_MOD_firstFrozen 10 = .ok (.aload_n 0, 1) := by decide +kernel
theorem d_MOD_firstFrozen_11 : decode b_MOD_firstFrozen 11 = .ok (.getfield 50, 3) := by decide +kernel
theorem d_MOD_firstFrozen_14 : decode b_MOD_firstFrozen 14 = .ok (.iload_n 1, 1) := by decide +kernel
theorem d_MOD_firstFrozen_15 : decode b_MOD_firstFrozen 15 = .ok (.baload, 1) := by decide +kernel
theorem d_MOD_firstFrozen_16 : decode b_MOD_firstFrozen 16 = .ok (.ifCond .ne 9, 3) := by decide +kernel
theorem d_MOD_firstFrozen_19 : decode b_MOD_firstFrozen 19 = .ok (.iinc 1 1, 3) := by decide +kernel
theorem d_MOD_firstFrozen_22 : decode b_MOD_firstFrozen 22 = .ok (.goto (-20), 3) := by decide +kernel
theorem d_MOD_firstFrozen_25 : decode b_MOD_firstFrozen 25 = .ok (.iload_n 1, 1) := by decide +kernel
theorem d_MOD_firstFrozen_26 : decode b_MOD_firstFrozen 26 = .ok (.ireturn, 1) := by decide +kernel
abbrev b_MOD_most : ByteArray := prog_7_method_20_code
def y_MOD_most : MethodName := ⟨R_MOD, "most", "(J)I"⟩
def w_MOD_most : List Cond := .code y_MOD_most b_MOD_most 2 (some .int) :: lwG
theorem d_MOD_most_0 : decode b_MOD_most 0 = .ok (.lload_n 0, 1) := by decide +kernel
theorem d_MOD_most_1 : decode b_MOD_most 1 = .ok (.ldc2_w 89, 3) := by decide +kernel
theorem d_MOD_most_4 : decode b_MOD_most 4 = .ok (.lcmp, 1) := by decide +kernel
theorem d_MOD_most_5 : decode b_MOD_most 5 = .ok (.ifCond .le 8, 3) := by decide +kernel
theorem d_MOD_most_8 : decode b_MOD_most 8 = .ok (.ldc 124, 2) := by decide +kernel
theorem d_MOD_most_10 : decode b_MOD_most 10 = .ok (.goto 5, 3) := by decide +kernel
theorem d_MOD_most_13 : decode b_MOD_most 13 = .ok (.lload_n 0, 1) := by decide +kernel
theorem d_MOD_most_14 : decode b_MOD_most 14 = .ok (.l2i, 1) := by decide +kernel
theorem d_MOD_most_15 : decode b_MOD_most 15 = .ok (.ireturn, 1) := by decide +kernel
abbrev b_MOD_count_0 : ByteArray := prog_7_method_12_code
def y_MOD_count_0 : MethodName := ⟨R_MOD, "count", "(II)I"⟩
def w_MOD_count_0 : List Cond := .code y_MOD_count_0 b_MOD_count_0 3 (some .int) :: lwG
theorem d_MOD_count_0_0 : decode b_MOD_count_0 0 = .ok (.aload_n 0, 1) := by decide +kernel
theorem d_MOD_count_0_1 : decode b_MOD_count_0 1 = .ok (.iconst 0, 1) := by decide +kernel
theorem d_MOD_count_0_2 : decode b_MOD_count_0 2 = .ok (.putfield 62, 3) := by decide +kernel
theorem d_MOD_count_0_5 : decode b_MOD_count_0 5 = .ok (.iload_n 1, 1) := by decide +kernel
theorem d_MOD_count_0_6 : decode b_MOD_count_0 6 = .ok (.i2l, 1) := by decide +kernel
theorem d_MOD_count_0_7 : decode b_MOD_count_0 7 = .ok (.lconst 1, 1) := by decide +kernel
theorem d_MOD_count_0_8 : decode b_MOD_count_0 8 = .ok (.aload_n 0, 1) := by decide +kernel
theorem d_MOD_count_0_9 : decode b_MOD_count_0 9 = .ok (.getfield 74, 3) := by decide +kernel
theorem d_MOD_count_0_12 : decode b_MOD_count_0 12 = .ok (.i2l, 1) := by decide +kernel
theorem d_MOD_count_0_13 : decode b_MOD_count_0 13 = .ok (.invokestatic 68, 3) := by decide +kernel
theorem d_MOD_count_0_16 : decode b_MOD_count_0 16 = .ok (.ifCond .ne 5, 3) := by decide +kernel
theorem d_MOD_count_0_19 : decode b_MOD_count_0 19 = .ok (.iconst (-1), 1) := by decide +kernel
theorem d_MOD_count_0_20 : decode b_MOD_count_0 20 = .ok (.ireturn, 1) := by decide +kernel
theorem d_MOD_count_0_21 : decode b_MOD_count_0 21 = .ok (.iload_n 2, 1) := by decide +kernel
theorem d_MOD_count_0_22 : decode b_MOD_count_0 22 = .ok (.ifCond .ne 14, 3) := by decide +kernel
theorem d_MOD_count_0_25 : decode b_MOD_count_0 25 = .ok (.aload_n 0, 1) := by decide +kernel
theorem d_MOD_count_0_26 : decode b_MOD_count_0 26 = .ok (.getfield 16, 3) := by decide +kernel
theorem d_MOD_count_0_29 : decode b_MOD_count_0 29 = .ok (.iload_n 1, 1) := by decide +kernel
theorem d_MOD_count_0_30 : decode b_MOD_count_0 30 = .ok (.iconst 1, 1) := by decide +kernel
theorem d_MOD_count_0_31 : decode b_MOD_count_0 31 = .ok (.isub, 1) := by decide +kernel
theorem d_MOD_count_0_32 : decode b_MOD_count_0 32 = .ok (.iaload, 1) := by decide +kernel
theorem d_MOD_count_0_33 : decode b_MOD_count_0 33 = .ok (.goto 11, 3) := by decide +kernel
theorem d_MOD_count_0_36 : decode b_MOD_count_0 36 = .ok (.aload_n 0, 1) := by decide +kernel
theorem d_MOD_count_0_37 : decode b_MOD_count_0 37 = .ok (.getfield 19, 3) := by decide +kernel
theorem d_MOD_count_0_40 : decode b_MOD_count_0 40 = .ok (.iload_n 1, 1) := by decide +kernel
theorem d_MOD_count_0_41 : decode b_MOD_count_0 41 = .ok (.iconst 1, 1) := by decide +kernel
theorem d_MOD_count_0_42 : decode b_MOD_count_0 42 = .ok (.isub, 1) := by decide +kernel
theorem d_MOD_count_0_43 : decode b_MOD_count_0 43 = .ok (.iaload, 1) := by decide +kernel
theorem d_MOD_count_0_44 : decode b_MOD_count_0 44 = .ok (.ireturn, 1) := by decide +kernel
abbrev b_MOD_ready : ByteArray := prog_7_method_14_code
def y_MOD_ready : MethodName := ⟨R_MOD, "ready", "(I)I"⟩
def w_MOD_ready : List Cond := .code y_MOD_ready b_MOD_ready 4 (some .int) :: lwG
theorem d_MOD_ready_0 : decode b_MOD_ready 0 = .ok (.aload_n 0, 1) := by decide +kernel
theorem d_MOD_ready_1 : decode b_MOD_ready 1 = .ok (.iconst 0, 1) := by decide +kernel
theorem d_MOD_ready_2 : decode b_MOD_ready 2 = .ok (.putfield 62, 3) := by decide +kernel
theorem d_MOD_ready_5 : decode b_MOD_ready 5 = .ok (.iload_n 1, 1) := by decide +kernel
theorem d_MOD_ready_6 : decode b_MOD_ready 6 = .ok (.i2l, 1) := by decide +kernel
theorem d_MOD_ready_7 : decode b_MOD_ready 7 = .ok (.lconst 0, 1) := by decide +kernel
theorem d_MOD_ready_8 : decode b_MOD_ready 8 = .ok (.ldc2_w 66, 3) := by decide +kernel
theorem d_MOD_ready_11 : decode b_MOD_ready 11 = .ok (.invokestatic 68, 3) := by decide +kernel
theorem d_MOD_ready_14 : decode b_MOD_ready 14 = .ok (.ifCond .ne 6, 3) := by decide +kernel
theorem d_MOD_ready_17 : decode b_MOD_ready 17 = .ok (.bipush (-2), 2) := by decide +kernel
theorem d_MOD_ready_19 : decode b_MOD_ready 19 = .ok (.ireturn, 1) := by decide +kernel
theorem d_MOD_ready_20 : decode b_MOD_ready 20 = .ok (.iconst 2, 1) := by decide +kernel
theorem d_MOD_ready_21 : decode b_MOD_ready 21 = .ok (.istore_n 2, 1) := by decide +kernel
theorem d_MOD_ready_22 : decode b_MOD_ready 22 = .ok (.iconst 0, 1) := by decide +kernel
theorem d_MOD_ready_23 : decode b_MOD_ready 23 = .ok (.istore_n 3, 1) := by decide +kernel
theorem d_MOD_ready_24 : decode b_MOD_ready 24 = .ok (.iload_n 3, 1) := by decide +kernel
theorem d_MOD_ready_25 : decode b_MOD_ready 25 = .ok (.aload_n 0, 1) := by decide +kernel
theorem d_MOD_ready_26 : decode b_MOD_ready 26 = .ok (.getfield 74, 3) := by decide +kernel
theorem d_MOD_ready_29 : decode b_MOD_ready 29 = .ok (.if_icmp .ge 38, 3) := by decide +kernel
theorem d_MOD_ready_32 : decode b_MOD_ready 32 = .ok (.aload_n 0, 1) := by decide +kernel
theorem d_MOD_ready_33 : decode b_MOD_ready 33 = .ok (.getfield 7, 3) := by decide +kernel
theorem d_MOD_ready_36 : decode b_MOD_ready 36 = .ok (.iload_n 3, 1) := by decide +kernel
theorem d_MOD_ready_37 : decode b_MOD_ready 37 = .ok (.iaload, 1) := by decide +kernel
theorem d_MOD_ready_38 : decode b_MOD_ready 38 = .ok (.iload_n 1, 1) := by decide +kernel
theorem d_MOD_ready_39 : decode b_MOD_ready 39 = .ok (.if_icmp .ne 22, 3) := by decide +kernel
theorem d_MOD_ready_42 : decode b_MOD_ready 42 = .ok (.aload_n 0, 1) := by decide +kernel
theorem d_MOD_ready_43 : decode b_MOD_ready 43 = .ok (.getfield 25, 3) := by decide +kernel
theorem d_MOD_ready_46 : decode b_MOD_ready 46 = .ok (.iload_n 3, 1) := by decide +kernel
theorem d_MOD_ready_47 : decode b_MOD_ready 47 = .ok (.baload, 1) := by decide +kernel
theorem d_MOD_ready_48 : decode b_MOD_ready 48 = .ok (.ifCond .eq 11, 3) := by decide +kernel
theorem d_MOD_ready_51 : decode b_MOD_ready 51 = .ok (.iload_n 2, 1) := by decide +kernel
theorem d_MOD_ready_52 : decode b_MOD_ready 52 = .ok (.ifCond .eq 7, 3) := by decide +kernel
theorem d_MOD_ready_55 : decode b_MOD_ready 55 = .ok (.iconst 1, 1) := by decide +kernel
theorem d_MOD_ready_56 : decode b_MOD_ready 56 = .ok (.goto 4, 3) := by decide +kernel
theorem d_MOD_ready_59 : decode b_MOD_ready 59 = .ok (.iconst 0, 1) := by decide +kernel
theorem d_MOD_ready_60 : decode b_MOD_ready 60 = .ok (.istore_n 2, 1) := by decide +kernel
theorem d_MOD_ready_61 : decode b_MOD_ready 61 = .ok (.iinc 3 1, 3) := by decide +kernel
theorem d_MOD_ready_64 : decode b_MOD_ready 64 = .ok (.goto (-40), 3) := by decide +kernel
theorem d_MOD_ready_67 : decode b_MOD_ready 67 = .ok (.iload_n 2, 1) := by decide +kernel
theorem d_MOD_ready_68 : decode b_MOD_ready 68 = .ok (.ireturn, 1) := by decide +kernel
abbrev b_MOD_permanent : ByteArray := prog_7_method_16_code
def y_MOD_permanent : MethodName := ⟨R_MOD, "permanent", "(I)I"⟩
def w_MOD_permanent : List Cond := .code y_MOD_permanent b_MOD_permanent 4 (some .int) :: lwG
theorem d_MOD_permanent_0 : decode b_MOD_permanent 0 = .ok (.aload_n 0, 1) := by decide +kernel
theorem d_MOD_permanent_1 : decode b_MOD_permanent 1 = .ok (.iconst 0, 1) := by decide +kernel
theorem d_MOD_permanent_2 : decode b_MOD_permanent 2 = .ok (.putfield 62, 3) := by decide +kernel
theorem d_MOD_permanent_5 : decode b_MOD_permanent 5 = .ok (.iconst 0, 1) := by decide +kernel
theorem d_MOD_permanent_6 : decode b_MOD_permanent 6 = .ok (.istore_n 2, 1) := by decide +kernel
theorem d_MOD_permanent_7 : decode b_MOD_permanent 7 = .ok (.iconst 0, 1) := by decide +kernel
theorem d_MOD_permanent_8 : decode b_MOD_permanent 8 = .ok (.istore_n 3, 1) := by decide +kernel
theorem d_MOD_permanent_9 : decode b_MOD_permanent 9 = .ok (.iload_n 3, 1) := by decide +kernel
theorem d_MOD_permanent_10 : decode b_MOD_permanent 10 = .ok (.aload_n 0, 1) := by decide +kernel
theorem d_MOD_permanent_11 : decode b_MOD_permanent 11 = .ok (.getfield 84, 3) := by decide +kernel
theorem d_MOD_permanent_14 : decode b_MOD_permanent 14 = .ok (.if_icmp .ge 33, 3) := by decide +kernel
theorem d_MOD_permanent_17 : decode b_MOD_permanent 17 = .ok (.aload_n 0, 1) := by decide +kernel
theorem d_MOD_permanent_18 : decode b_MOD_permanent 18 = .ok (.getfield 41, 3) := by decide +kernel
theorem d_MOD_permanent_21 : decode b_MOD_permanent 21 = .ok (.iload_n 3, 1) := by decide +kernel
theorem d_MOD_permanent_22 : decode b_MOD_permanent 22 = .ok (.baload, 1) := by decide +kernel
theorem d_MOD_permanent_23 : decode b_MOD_permanent 23 = .ok (.ifCond .eq 18, 3) := by decide +kernel
theorem d_MOD_permanent_26 : decode b_MOD_permanent 26 = .ok (.iload_n 2, 1) := by decide +kernel
theorem d_MOD_permanent_27 : decode b_MOD_permanent 27 = .ok (.iload_n 1, 1) := by decide +kernel
theorem d_MOD_permanent_28 : decode b_MOD_permanent 28 = .ok (.if_icmp .ne 10, 3) := by decide +kernel
theorem d_MOD_permanent_31 : decode b_MOD_permanent 31 = .ok (.aload_n 0, 1) := by decide +kernel
theorem d_MOD_permanent_32 : decode b_MOD_permanent 32 = .ok (.getfield 29, 3) := by decide +kernel
theorem d_MOD_permanent_35 : decode b_MOD_permanent 35 = .ok (.iload_n 3, 1) := by decide +kernel
theorem d_MOD_permanent_36 : decode b_MOD_permanent 36 = .ok (.iaload, 1) := by decide +kernel
theorem d_MOD_permanent_37 : decode b_MOD_permanent 37 = .ok (.ireturn, 1) := by decide +kernel
theorem d_MOD_permanent_38 : decode b_MOD_permanent 38 = .ok (.iinc 2 1, 3) := by decide +kernel
theorem d_MOD_permanent_41 : decode b_MOD_permanent 41 = .ok (.iinc 3 1, 3) := by decide +kernel
theorem d_MOD_permanent_44 : decode b_MOD_permanent 44 = .ok (.goto (-35), 3) := by decide +kernel
theorem d_MOD_permanent_47 : decode b_MOD_permanent 47 = .ok (.iconst 0, 1) := by decide +kernel
theorem d_MOD_permanent_48 : decode b_MOD_permanent 48 = .ok (.ireturn, 1) := by decide +kernel
abbrev b_MOD_lamp : ByteArray := prog_7_method_18_code
def y_MOD_lamp : MethodName := ⟨R_MOD, "lamp", "(JJ)I"⟩
def w_MOD_lamp : List Cond := .code y_MOD_lamp b_MOD_lamp 5 (some .int) :: lwG
theorem d_MOD_lamp_0 : decode b_MOD_lamp 0 = .ok (.aload_n 0, 1) := by decide +kernel
theorem d_MOD_lamp_1 : decode b_MOD_lamp 1 = .ok (.iconst 0, 1) := by decide +kernel
theorem d_MOD_lamp_2 : decode b_MOD_lamp 2 = .ok (.putfield 62, 3) := by decide +kernel
theorem d_MOD_lamp_5 : decode b_MOD_lamp 5 = .ok (.lload_n 1, 1) := by decide +kernel
theorem d_MOD_lamp_6 : decode b_MOD_lamp 6 = .ok (.lconst 0, 1) := by decide +kernel
theorem d_MOD_lamp_7 : decode b_MOD_lamp 7 = .ok (.ldc2_w 122, 3) := by decide +kernel
theorem d_MOD_lamp_10 : decode b_MOD_lamp 10 = .ok (.invokestatic 68, 3) := by decide +kernel
theorem d_MOD_lamp_13 : decode b_MOD_lamp 13 = .ok (.ifCond .eq 14, 3) := by decide +kernel
theorem d_MOD_lamp_16 : decode b_MOD_lamp 16 = .ok (.lload_n 3, 1) := by decide +kernel
theorem d_MOD_lamp_17 : decode b_MOD_lamp 17 = .ok (.lconst 0, 1) := by decide +kernel
theorem d_MOD_lamp_18 : decode b_MOD_lamp 18 = .ok (.ldc2_w 122, 3) := by decide +kernel
theorem d_MOD_lamp_21 : decode b_MOD_lamp 21 = .ok (.invokestatic 68, 3) := by decide +kernel
theorem d_MOD_lamp_24 : decode b_MOD_lamp 24 = .ok (.ifCond .ne 6, 3) := by decide +kernel
theorem d_MOD_lamp_27 : decode b_MOD_lamp 27 = .ok (.bipush (-2), 2) := by decide +kernel
theorem d_MOD_lamp_29 : decode b_MOD_lamp 29 = .ok (.ireturn, 1) := by decide +kernel
theorem d_MOD_lamp_30 : decode b_MOD_lamp 30 = .ok (.aload_n 0, 1) := by decide +kernel
theorem d_MOD_lamp_31 : decode b_MOD_lamp 31 = .ok (.getfield 109, 3) := by decide +kernel
theorem d_MOD_lamp_34 : decode b_MOD_lamp 34 = .ok (.ifCond .ne 5, 3) := by decide +kernel
theorem d_MOD_lamp_37 : decode b_MOD_lamp 37 = .ok (.iconst 0, 1) := by decide +kernel
theorem d_MOD_lamp_38 : decode b_MOD_lamp 38 = .ok (.ireturn, 1) := by decide +kernel
theorem d_MOD_lamp_39 : decode b_MOD_lamp 39 = .ok (.aload_n 0, 1) := by decide +kernel
theorem d_MOD_lamp_40 : decode b_MOD_lamp 40 = .ok (.dup, 1) := by decide +kernel
theorem d_MOD_lamp_41 : decode b_MOD_lamp 41 = .ok (.getfield 113, 3) := by decide +kernel
theorem d_MOD_lamp_44 : decode b_MOD_lamp 44 = .ok (.lload_n 1, 1) := by decide +kernel
theorem d_MOD_lamp_45 : decode b_MOD_lamp 45 = .ok (.ladd, 1) := by decide +kernel
theorem d_MOD_lamp_46 : decode b_MOD_lamp 46 = .ok (.putfield 113, 3) := by decide +kernel
theorem d_MOD_lamp_49 : decode b_MOD_lamp 49 = .ok (.aload_n 0, 1) := by decide +kernel
theorem d_MOD_lamp_50 : decode b_MOD_lamp 50 = .ok (.dup, 1) := by decide +kernel
theorem d_MOD_lamp_51 : decode b_MOD_lamp 51 = .ok (.getfield 117, 3) := by decide +kernel
theorem d_MOD_lamp_54 : decode b_MOD_lamp 54 = .ok (.lload_n 3, 1) := by decide +kernel
theorem d_MOD_lamp_55 : decode b_MOD_lamp 55 = .ok (.ladd, 1) := by decide +kernel
theorem d_MOD_lamp_56 : decode b_MOD_lamp 56 = .ok (.putfield 117, 3) := by decide +kernel
theorem d_MOD_lamp_59 : decode b_MOD_lamp 59 = .ok (.iconst 1, 1) := by decide +kernel
theorem d_MOD_lamp_60 : decode b_MOD_lamp 60 = .ok (.ireturn, 1) := by decide +kernel
abbrev b_MOD_freeze : ByteArray := prog_7_method_21_code
def y_MOD_freeze : MethodName := ⟨R_MOD, "freeze", "(I)I"⟩
def w_MOD_freeze : List Cond := .code y_MOD_freeze b_MOD_freeze 3 (some .int) :: lwG
theorem d_MOD_freeze_0 : decode b_MOD_freeze 0 = .ok (.aload_n 0, 1) := by decide +kernel
theorem d_MOD_freeze_1 : decode b_MOD_freeze 1 = .ok (.iconst 0, 1) := by decide +kernel
theorem d_MOD_freeze_2 : decode b_MOD_freeze 2 = .ok (.putfield 62, 3) := by decide +kernel
theorem d_MOD_freeze_5 : decode b_MOD_freeze 5 = .ok (.iload_n 1, 1) := by decide +kernel
theorem d_MOD_freeze_6 : decode b_MOD_freeze 6 = .ok (.i2l, 1) := by decide +kernel
theorem d_MOD_freeze_7 : decode b_MOD_freeze 7 = .ok (.lconst 0, 1) := by decide +kernel
theorem d_MOD_freeze_8 : decode b_MOD_freeze 8 = .ok (.ldc2_w 66, 3) := by decide +kernel
theorem d_MOD_freeze_11 : decode b_MOD_freeze 11 = .ok (.invokestatic 68, 3) := by decide +kernel
theorem d_MOD_freeze_14 : decode b_MOD_freeze 14 = .ok (.ifCond .ne 6, 3) := by decide +kernel
theorem d_MOD_freeze_17 : decode b_MOD_freeze 17 = .ok (.bipush (-2), 2) := by decide +kernel
theorem d_MOD_freeze_19 : decode b_MOD_freeze 19 = .ok (.ireturn, 1) := by decide +kernel
theorem d_MOD_freeze_20 : decode b_MOD_freeze 20 = .ok (.iload_n 1, 1) := by decide +kernel
theorem d_MOD_freeze_21 : decode b_MOD_freeze 21 = .ok (.iconst 3, 1) := by decide +kernel
theorem d_MOD_freeze_22 : decode b_MOD_freeze 22 = .ok (.if_icmp .ne 11, 3) := by decide +kernel
theorem d_MOD_freeze_25 : decode b_MOD_freeze 25 = .ok (.aload_n 0, 1) := by decide +kernel
theorem d_MOD_freeze_26 : decode b_MOD_freeze 26 = .ok (.getfield 117, 3) := by decide +kernel
theorem d_MOD_freeze_29 : decode b_MOD_freeze 29 = .ok (.invokestatic 125, 3) := by decide +kernel
theorem d_MOD_freeze_32 : decode b_MOD_freeze 32 = .ok (.ireturn, 1) := by decide +kernel
theorem d_MOD_freeze_33 : decode b_MOD_freeze 33 = .ok (.aload_n 0, 1) := by decide +kernel
theorem d_MOD_freeze_34 : decode b_MOD_freeze 34 = .ok (.invokevirtual 129, 3) := by decide +kernel
theorem d_MOD_freeze_37 : decode b_MOD_freeze 37 = .ok (.istore_n 2, 1) := by decide +kernel
theorem d_MOD_freeze_38 : decode b_MOD_freeze 38 = .ok (.iload_n 2, 1) := by decide +kernel
theorem d_MOD_freeze_39 : decode b_MOD_freeze 39 = .ok (.aload_n 0, 1) := by decide +kernel
theorem d_MOD_freeze_40 : decode b_MOD_freeze 40 = .ok (.getfield 84, 3) := by decide +kernel
theorem d_MOD_freeze_43 : decode b_MOD_freeze 43 = .ok (.if_icmp .ne 7, 3) := by decide +kernel
theorem d_MOD_freeze_46 : decode b_MOD_freeze 46 = .ok (.iconst 0, 1) := by decide +kernel
theorem d_MOD_freeze_47 : decode b_MOD_freeze 47 = .ok (.goto 36, 3) := by decide +kernel
theorem d_MOD_freeze_50 : decode b_MOD_freeze 50 = .ok (.iload_n 1, 1) := by decide +kernel
theorem d_MOD_freeze_51 : decode b_MOD_freeze 51 = .ok (.ifCond .ne 12, 3) := by decide +kernel
theorem d_MOD_freeze_54 : decode b_MOD_freeze 54 = .ok (.aload_n 0, 1) := by decide +kernel
theorem d_MOD_freeze_55 : decode b_MOD_freeze 55 = .ok (.getfield 29, 3) := by decide +kernel
theorem d_MOD_freeze_58 : decode b_MOD_freeze 58 = .ok (.iload_n 2, 1) := by decide +kernel
theorem d_MOD_freeze_59 : decode b_MOD_freeze 59 = .ok (.iaload, 1) := by decide +kernel
theorem d_MOD_freeze_60 : decode b_MOD_freeze 60 = .ok (.goto 23, 3) := by decide +kernel
theorem d_MOD_freeze_63 : decode b_MOD_freeze 63 = .ok (.iload_n 1, 1) := by decide +kernel
theorem d_MOD_freeze_64 : decode b_MOD_freeze 64 = .ok (.iconst 1, 1) := by decide +kernel
theorem d_MOD_freeze_65 : decode b_MOD_freeze 65 = .ok (.if_icmp .ne 12, 3) := by decide +kernel
theorem d_MOD_freeze_68 : decode b_MOD_freeze 68 = .ok (.aload_n 0, 1) := by decide +kernel
theorem d_MOD_freeze_69 : decode b_MOD_freeze 69 = .ok (.getfield 53, 3) := by decide +kernel
theorem d_MOD_freeze_72 : decode b_MOD_freeze 72 = .ok (.iload_n 2, 1) := by decide +kernel
theorem d_MOD_freeze_73 : decode b_MOD_freeze 73 = .ok (.iaload, 1) := by decide +kernel
theorem d_MOD_freeze_74 : decode b_MOD_freeze 74 = .ok (.goto 9, 3) := by decide +kernel
theorem d_MOD_freeze_77 : decode b_MOD_freeze 77 = .ok (.aload_n 0, 1) := by decide +kernel
theorem d_MOD_freeze_78 : decode b_MOD_freeze 78 = .ok (.getfield 56, 3) := by decide +kernel
theorem d_MOD_freeze_81 : decode b_MOD_freeze 81 = .ok (.iload_n 2, 1) := by decide +kernel
theorem d_MOD_freeze_82 : decode b_MOD_freeze 82 = .ok (.iaload, 1) := by decide +kernel
theorem d_MOD_freeze_83 : decode b_MOD_freeze 83 = .ok (.ireturn, 1) := by decide +kernel
abbrev b_MOD_put : ByteArray := prog_7_method_22_code
def y_MOD_put : MethodName := ⟨R_MOD, "put", "(I)V"⟩
def w_MOD_put : List Cond := .code y_MOD_put b_MOD_put 2 none :: lwG
theorem d_MOD_put_0 : decode b_MOD_put 0 = .ok (.aload_n 0, 1) := by decide +kernel
theorem d_MOD_put_1 : decode b_MOD_put 1 = .ok (.getfield 59, 3) := by decide +kernel
theorem d_MOD_put_4 : decode b_MOD_put 4 = .ok (.aload_n 0, 1) := by decide +kernel
theorem d_MOD_put_5 : decode b_MOD_put 5 = .ok (.getfield 132, 3) := by decide +kernel
theorem d_MOD_put_8 : decode b_MOD_put 8 = .ok (.iload_n 1, 1) := by decide +kernel
theorem d_MOD_put_9 : decode b_MOD_put 9 = .ok (.sipush 255, 3) := by decide +kernel
theorem d_MOD_put_12 : decode b_MOD_put 12 = .ok (.iand, 1) := by decide +kernel
theorem d_MOD_put_13 : decode b_MOD_put 13 = .ok (.iastore, 1) := by decide +kernel
theorem d_MOD_put_14 : decode b_MOD_put 14 = .ok (.aload_n 0, 1) := by decide +kernel
theorem d_MOD_put_15 : decode b_MOD_put 15 = .ok (.dup, 1) := by decide +kernel
theorem d_MOD_put_16 : decode b_MOD_put 16 = .ok (.getfield 132, 3) := by decide +kernel
theorem d_MOD_put_19 : decode b_MOD_put 19 = .ok (.iconst 1, 1) := by decide +kernel
theorem d_MOD_put_20 : decode b_MOD_put 20 = .ok (.iadd, 1) := by decide +kernel
theorem d_MOD_put_21 : decode b_MOD_put 21 = .ok (.putfield 132, 3) := by decide +kernel
theorem d_MOD_put_24 : decode b_MOD_put 24 = .ok (.return_, 1) := by decide +kernel
abbrev b_MOD_putTwo : ByteArray := prog_7_method_23_code
def y_MOD_putTwo : MethodName := ⟨R_MOD, "putTwo", "(I)V"⟩
def w_MOD_putTwo : List Cond := .code y_MOD_putTwo b_MOD_putTwo 2 none :: lwG
theorem d_MOD_putTwo_0 : decode b_MOD_putTwo 0 = .ok (.aload_n 0, 1) := by decide +kernel
theorem d_MOD_putTwo_1 : decode b_MOD_putTwo 1 = .ok (.iload_n 1, 1) := by decide +kernel
theorem d_MOD_putTwo_2 : decode b_MOD_putTwo 2 = .ok (.bipush 8, 2) := by decide +kernel
theorem d_MOD_putTwo_4 : decode b_MOD_putTwo 4 = .ok (.ishr, 1) := by decide +kernel
theorem d_MOD_putTwo_5 : decode b_MOD_putTwo 5 = .ok (.invokevirtual 135, 3) := by decide +kernel
theorem d_MOD_putTwo_8 : decode b_MOD_putTwo 8 = .ok (.aload_n 0, 1) := by decide +kernel
theorem d_MOD_putTwo_9 : decode b_MOD_putTwo 9 = .ok (.iload_n 1, 1) := by decide +kernel
theorem d_MOD_putTwo_10 : decode b_MOD_putTwo 10 = .ok (.invokevirtual 135, 3) := by decide +kernel
theorem d_MOD_putTwo_13 : decode b_MOD_putTwo 13 = .ok (.return_, 1) := by decide +kernel
abbrev b_MOD_sum : ByteArray := prog_7_method_29_code
def y_MOD_sum : MethodName := ⟨R_MOD, "sum", "()I"⟩
def w_MOD_sum : List Cond := .code y_MOD_sum b_MOD_sum 3 (some .int) :: lwG
theorem d_MOD_sum_0 : decode b_MOD_sum 0 = .ok (.aload_n 0, 1) := by decide +kernel
theorem d_MOD_sum_1 : decode b_MOD_sum 1 = .ok (.iconst 0, 1) := by decide +kernel
theorem d_MOD_sum_2 : decode b_MOD_sum 2 = .ok (.putfield 62, 3) := by decide +kernel
theorem d_MOD_sum_5 : decode b_MOD_sum 5 = .ok (.iconst 0, 1) := by decide +kernel
theorem d_MOD_sum_6 : decode b_MOD_sum 6 = .ok (.istore_n 1, 1) := by decide +kernel
theorem d_MOD_sum_7 : decode b_MOD_sum 7 = .ok (.iconst 0, 1) := by decide +kernel
theorem d_MOD_sum_8 : decode b_MOD_sum 8 = .ok (.istore_n 2, 1) := by decide +kernel
theorem d_MOD_sum_9 : decode b_MOD_sum 9 = .ok (.iload_n 2, 1) := by decide +kernel
theorem d_MOD_sum_10 : decode b_MOD_sum 10 = .ok (.aload_n 0, 1) := by decide +kernel
theorem d_MOD_sum_11 : decode b_MOD_sum 11 = .ok (.getfield 132, 3) := by decide +kernel
theorem d_MOD_sum_14 : decode b_MOD_sum 14 = .ok (.if_icmp .ge 18, 3) := by decide +kernel
theorem d_MOD_sum_17 : decode b_MOD_sum 17 = .ok (.iload_n 1, 1) := by decide +kernel
theorem d_MOD_sum_18 : decode b_MOD_sum 18 = .ok (.aload_n 0, 1) := by decide +kernel
theorem d_MOD_sum_19 : decode b_MOD_sum 19 = .ok (.getfield 59, 3) := by decide +kernel
theorem d_MOD_sum_22 : decode b_MOD_sum 22 = .ok (.iload_n 2, 1) := by decide +kernel
theorem d_MOD_sum_23 : decode b_MOD_sum 23 = .ok (.iaload, 1) := by decide +kernel
theorem d_MOD_sum_24 : decode b_MOD_sum 24 = .ok (.iadd, 1) := by decide +kernel
theorem d_MOD_sum_25 : decode b_MOD_sum 25 = .ok (.istore_n 1, 1) := by decide +kernel
theorem d_MOD_sum_26 : decode b_MOD_sum 26 = .ok (.iinc 2 1, 3) := by decide +kernel
theorem d_MOD_sum_29 : decode b_MOD_sum 29 = .ok (.goto (-20), 3) := by decide +kernel
theorem d_MOD_sum_32 : decode b_MOD_sum 32 = .ok (.iload_n 1, 1) := by decide +kernel
theorem d_MOD_sum_33 : decode b_MOD_sum 33 = .ok (.ireturn, 1) := by decide +kernel
end
section
set_option maxHeartbeats 4000000 in
set_option maxRecDepth 100000 in
theorem c_confirmedCodes (l : Launch) (G : GG) (z0 : Nat) (z1 : Nat) (z2 : Nat) (z3 : Nat) (z4 : Nat) (z5 : Nat) (z6 : Nat) (z7 : Nat) (z8 : Nat) (z9 : Nat) (z10 : Nat) (z11 : Nat) (z12 : Nat) (z13 : Nat) (z14 : Nat) (z15 : Nat) (z16 : Nat) (z17 : Nat) (cdv : Int32) (cyc : Int32) (li : Int32) (nM : Nat) (nC : Nat) (sn : Nat) (me : Int64) (mi : Int64) (gQ : Nat → Int32) (hn : nC ≤ 20) : Met l y_MOD_confirmedCodes w_MOD_confirmedCodes ({ frames := 0, cells := 0, slots := 0, locals := 0 }) (va_Pc [.ref z0] (Rw G [(z0, .inr (6, [.int cdv, .int (nI nM), .ref z1, .ref z2, .ref z3, .ref z4, .ref z5, .ref z6, .int (nI nC), .ref z7, .ref z8, .ref z9, .ref z10, .ref z11, .ref z12, .ref z13, .ref z14, .ref z15, .ref z16, .int cyc, .int li, .long me, .long mi, .int (nI sn), .ref z17])), (z10, .inl (G.2 3, 20, .inl gQ))])) (k2_QcV (.int (mcnt gQ nC))) 0 0 (fun _ => False) := by
  refine Met.ofW (cc := b_MOD_confirmedCodes) (maxL := 3) (ret := (some .int)) (by decide) rfl ?_
  intro p e s m args below meth c s₁ B hml hv
  obtain ⟨rfl, hP, hGK⟩ := hv
  have hx := B.exec
  have hb := B.bytes
  have hr := B.returns
  have hts := atoms_spec (ws := w_MOD_confirmedCodes) B.pre
  have hT : ∀ w ∈ lwG, w.before _ s = true := fun w h => hts w (List.mem_cons_of_mem _ h)
  have hown : s.vm.findClass R_MOD = some m.cls := findClass_of_methodNamed B.named
  have hlocks := B.notSynchronized
  have hK := hGK.1
  have hN := hGK.2
  have hP : va_P G.1 vwCl [(z0, .inr (6, [.int cdv, .int (nI nM), .ref z1, .ref z2, .ref z3, .ref z4, .ref z5, .ref z6, .int (nI nC), .ref z7, .ref z8, .ref z9, .ref z10, .ref z11, .ref z12, .ref z13, .ref z14, .ref z15, .ref z16, .int cyc, .int li, .long me, .long mi, .int (nI sn), .ref z17])), (z10, .inl (G.2 3, 20, .inl gQ))] s.heap := hP
  have hl := lv_entry ([.ref z0]) (n := 3) (Nat.le_of_ble_eq_true rfl)
  rw [lg_entry_eq]
  generalize (lg_sl ([.ref z0]) ++ List.replicate (3 - (lg_sl ([.ref z0])).length) Slot.unset).toArray = ls at hl ⊢
  have hl : lv_has ls 3 [(0, .ref z0)] := hl
  generalize hHe : s.heap = H at hP ⊢
  refine lv_iconst (v := 0) hx hb d_MOD_confirmedCodes_0 (by decide) ?_
  refine lv_istore_n (lv' := [(1, .int 0), (0, .ref z0)]) hx hb d_MOD_confirmedCodes_1 rfl hl (by decide) rfl (fun ls hl => ?_)
  refine lv_iconst (v := 0) hx hb d_MOD_confirmedCodes_2 (by decide) ?_
  refine lv_istore_n (lv' := [(2, .int 0), (1, .int 0), (0, .ref z0)]) hx hb d_MOD_confirmedCodes_3 rfl hl (by decide) rfl (fun ls hl => ?_)
  refine bx_loopR (σ := Nat × Int32) (fun q ls => q.1 ≤ nC ∧ q.2 = mcnt gQ q.1 ∧ lv_has ls 3 [(0, .ref z0), (1, .int q.2), (2, .int (nI q.1))]) (fun q => nC - q.1) _ (fun q ls hI ih => ?_) (0, 0) ls ⟨Nat.zero_le _, rfl, lv_sub hl [2, 1, 0] rfl⟩
  obtain ⟨k, ac1⟩ := q
  obtain ⟨hknk, hac, hl⟩ := hI
  have hknk : k ≤ nC := hknk
  have hac : ac1 = mcnt gQ k := hac
  have hl : lv_has ls 3 [(0, .ref z0), (1, .int ac1), (2, .int (nI k))] := hl
  refine lv_iload_n hx hb d_MOD_confirmedCodes_4 rfl (lv_at hl 2 rfl) ?_
  refine lv_aload_n hx hb d_MOD_confirmedCodes_5 rfl (lv_at hl 0 rfl) ?_
  refine va_get (D := G.1) (ci := 6) (v := .int (nI nC)) (C := R_MOD) (T := T_MOD) (N := 25) hx hb hT in_MOD hown hK hP 0 rfl rfl 8 (by decide) (hT _ wd_590) (fun _ h9 => h9) rfl d_MOD_confirmedCodes_6 ?_
  refine lv_icmp_ge (tgt := 35) hx hb d_MOD_confirmedCodes_9 (by decide) (fun c_9 => ?_) (fun c_9 => ?_)
  · have hge : nC ≤ k := (nI_leI (by omega) (by omega)).mp c_9
    have hke : k = nC := by omega
    refine lv_iload_n hx hb d_MOD_confirmedCodes_35 rfl (lv_at hl 1 rfl) ?_
    have hq9 : (.int (mcnt gQ nC)) = (.int ac1 : Value) := by rw [hac, hke]
    exact W.iret (v := ac1) hx hb hr (fun t ht _ => ⟨by rw [hq9], ht.trans hHe.symm⟩) (fun _ h => by cases h) d_MOD_confirmedCodes_36
  · have hk : k < nC := Nat.not_le.mp (fun z => c_9 (nI_le z (by omega)))
    refine lv_iload_n hx hb d_MOD_confirmedCodes_12 rfl (lv_at hl 1 rfl) ?_
    refine lv_aload_n hx hb d_MOD_confirmedCodes_13 rfl (lv_at hl 0 rfl) ?_
    refine va_get (D := G.1) (ci := 6) (v := .ref z10) (C := R_MOD) (T := T_MOD) (N := 25) hx hb hT in_MOD hown hK hP 0 rfl rfl 12 (by decide) (hT _ wd_594) (fun _ h9 => h9) rfl d_MOD_confirmedCodes_14 ?_
    refine lv_iload_n hx hb d_MOD_confirmedCodes_17 rfl (lv_at hl 2 rfl) ?_
    refine va_zald hx hb hK hP 1 3 rfl rfl (vp_in_nI (by omega) (by omega)) d_MOD_confirmedCodes_18 ?_
    refine W.eq (g2 := F0 m 19 ls (.int (gQ k) :: [.int ac1])) (by rw [nI_clamp (by omega)]) ?_
    refine lv_if_eq (tgt := 26) hx hb d_MOD_confirmedCodes_19 (by decide) (fun c_19 => ?_) (fun c_19 => ?_)
    · refine lv_iconst (v := 0) hx hb d_MOD_confirmedCodes_26 (by decide) ?_
      refine lv_iadd hx hb d_MOD_confirmedCodes_27 ?_
      refine W.eq (g2 := F0 m 28 ls (.int ac1 :: [])) (by rw [Int32.add_zero]) ?_
      refine lv_istore_n (lv' := [(1, .int ac1), (0, .ref z0), (2, .int (nI k))]) hx hb d_MOD_confirmedCodes_28 rfl hl (by decide) rfl (fun ls hl => ?_)
      refine lv_iinc (v := nI (k + 1)) (lv' := [(2, .int (nI (k + 1))), (1, .int ac1), (0, .ref z0)]) hx hb d_MOD_confirmedCodes_29 hl (k := 2) rfl (nI_succ _).symm (by decide) rfl (fun ls hl => ?_)
      refine lv_goto (tgt := 4) hx hb d_MOD_confirmedCodes_32 (by decide) ?_
      exact ih ((k + 1), ac1) _ ⟨hk, by simp [mcnt, hac, c_9, c_19], lv_sub hl [2, 1, 0] rfl⟩ (by show nC - (k + 1) < nC - k; omega)
    · refine lv_iconst (v := 1) hx hb d_MOD_confirmedCodes_22 (by decide) ?_
      refine lv_goto (tgt := 27) hx hb d_MOD_confirmedCodes_23 (by decide) ?_
      refine lv_iadd hx hb d_MOD_confirmedCodes_27 ?_
      refine lv_istore_n (lv' := [(1, .int (ac1 + 1)), (0, .ref z0), (2, .int (nI k))]) hx hb d_MOD_confirmedCodes_28 rfl hl (by decide) rfl (fun ls hl => ?_)
      refine lv_iinc (v := nI (k + 1)) (lv' := [(2, .int (nI (k + 1))), (1, .int (ac1 + 1)), (0, .ref z0)]) hx hb d_MOD_confirmedCodes_29 hl (k := 2) rfl (nI_succ _).symm (by decide) rfl (fun ls hl => ?_)
      refine lv_goto (tgt := 4) hx hb d_MOD_confirmedCodes_32 (by decide) ?_
      exact ih ((k + 1), ac1 + 1) _ ⟨hk, by simp [mcnt, hac, c_9, c_19], lv_sub hl [2, 1, 0] rfl⟩ (by show nC - (k + 1) < nC - k; omega)
set_option maxHeartbeats 4000000 in
set_option maxRecDepth 100000 in
theorem c_mfirstFrozen (l : Launch) (G : GG) (z0 : Nat) (z1 : Nat) (z2 : Nat) (z3 : Nat) (z4 : Nat) (z5 : Nat) (z6 : Nat) (z7 : Nat) (z8 : Nat) (z9 : Nat) (z10 : Nat) (z11 : Nat) (z12 : Nat) (z13 : Nat) (z14 : Nat) (z15 : Nat) (z16 : Nat) (z17 : Nat) (cdv : Int32) (cyc : Int32) (li : Int32) (nM : Nat) (nC : Nat) (sn : Nat) (me : Int64) (mi : Int64) (gW : Nat → Int32) (hn : nC ≤ 20) : Met l y_MOD_firstFrozen w_MOD_firstFrozen ({ frames := 0, cells := 0, slots := 0, locals := 0 }) (va_Pc [.ref z0] (Rw G [(z0, .inr (6, [.int cdv, .int (nI nM), .ref z1, .ref z2, .ref z3, .ref z4, .ref z5, .ref z6, .int (nI nC), .ref z7, .ref z8, .ref z9, .ref z10, .ref z11, .ref z12, .ref z13, .ref z14, .ref z15, .ref z16, .int cyc, .int li, .long me, .long mi, .int (nI sn), .ref z17])), (z14, .inl (G.2 3, 20, .inl gW))])) (k2_QcV (.int (nI (fzF gW nC nC)))) 0 0 (fun _ => False) := by
  refine Met.ofW (cc := b_MOD_firstFrozen) (maxL := 2) (ret := (some .int)) (by decide) rfl ?_
  intro p e s m args below meth c s₁ B hml hv
  obtain ⟨rfl, hP, hGK⟩ := hv
  have hx := B.exec
  have hb := B.bytes
  have hr := B.returns
  have hts := atoms_spec (ws := w_MOD_firstFrozen) B.pre
  have hT : ∀ w ∈ lwG, w.before _ s = true := fun w h => hts w (List.mem_cons_of_mem _ h)
  have hown : s.vm.findClass R_MOD = some m.cls := findClass_of_methodNamed B.named
  have hlocks := B.notSynchronized
  have hK := hGK.1
  have hN := hGK.2
  have hP : va_P G.1 vwCl [(z0, .inr (6, [.int cdv, .int (nI nM), .ref z1, .ref z2, .ref z3, .ref z4, .ref z5, .ref z6, .int (nI nC), .ref z7, .ref z8, .ref z9, .ref z10, .ref z11, .ref z12, .ref z13, .ref z14, .ref z15, .ref z16, .int cyc, .int li, .long me, .long mi, .int (nI sn), .ref z17])), (z14, .inl (G.2 3, 20, .inl gW))] s.heap := hP
  have hl := lv_entry ([.ref z0]) (n := 2) (Nat.le_of_ble_eq_true rfl)
  rw [lg_entry_eq]
  generalize (lg_sl ([.ref z0]) ++ List.replicate (2 - (lg_sl ([.ref z0])).length) Slot.unset).toArray = ls at hl ⊢
  have hl : lv_has ls 2 [(0, .ref z0)] := hl
  generalize hHe : s.heap = H at hP ⊢
  refine lv_iconst (v := 0) hx hb d_MOD_firstFrozen_0 (by decide) ?_
  refine lv_istore_n (lv' := [(1, .int 0), (0, .ref z0)]) hx hb d_MOD_firstFrozen_1 rfl hl (by decide) rfl (fun ls hl => ?_)
  refine bx_loopR (σ := Nat) (fun q ls => q ≤ nC ∧ fzF gW nC (nC - q) = fzF gW nC nC ∧ lv_has ls 2 [(0, .ref z0), (1, .int (nI q))]) (fun q => nC - q) _ (fun q ls hI ih => ?_) 0 ls ⟨Nat.zero_le _, rfl, lv_sub hl [1, 0] rfl⟩
  revert hI ih; generalize q = k; intro hI ih
  obtain ⟨hknk, hfz, hl⟩ := hI
  have hknk : k ≤ nC := hknk
  have hfz : fzF gW nC (nC - k) = fzF gW nC nC := hfz
  have hl : lv_has ls 2 [(0, .ref z0), (1, .int (nI k))] := hl
  refine lv_iload_n hx hb d_MOD_firstFrozen_2 rfl (lv_at hl 1 rfl) ?_
  refine lv_aload_n hx hb d_MOD_firstFrozen_3 rfl (lv_at hl 0 rfl) ?_
  refine va_get (D := G.1) (ci := 6) (v := .int (nI nC)) (C := R_MOD) (T := T_MOD) (N := 25) hx hb hT in_MOD hown hK hP 0 rfl rfl 8 (by decide) (hT _ wd_590) (fun _ h9 => h9) rfl d_MOD_firstFrozen_4 ?_
  refine lv_icmp_ge (tgt := 25) hx hb d_MOD_firstFrozen_7 (by decide) (fun c_7 => ?_) (fun c_7 => ?_)
  · have hge : nC ≤ k := (nI_leI (by omega) (by omega)).mp c_7
    have hke : k = nC := by omega
    refine lv_iload_n hx hb d_MOD_firstFrozen_25 rfl (lv_at hl 1 rfl) ?_
    have hq9 : (.int (nI (fzF gW nC nC))) = (.int (nI k) : Value) := by rw [← hfz, hke, Nat.sub_self]; rfl
    exact W.iret (v := nI k) hx hb hr (fun t ht _ => ⟨by rw [hq9], ht.trans hHe.symm⟩) (fun _ h => by cases h) d_MOD_firstFrozen_26
  · have hk : k < nC := Nat.not_le.mp (fun z => c_7 (nI_le z (by omega)))
    refine lv_aload_n hx hb d_MOD_firstFrozen_10 rfl (lv_at hl 0 rfl) ?_
    refine va_get (D := G.1) (ci := 6) (v := .ref z14) (C := R_MOD) (T := T_MOD) (N := 25) hx hb hT in_MOD hown hK hP 0 rfl rfl 16 (by decide) (hT _ wd_598) (fun _ h9 => h9) rfl d_MOD_firstFrozen_11 ?_
    refine lv_iload_n hx hb d_MOD_firstFrozen_14 rfl (lv_at hl 1 rfl) ?_
    refine va_zald hx hb hK hP 1 3 rfl rfl (vp_in_nI (by omega) (by omega)) d_MOD_firstFrozen_15 ?_
    refine W.eq (g2 := F0 m 16 ls (.int (gW k) :: [])) (by rw [nI_clamp (by omega)]) ?_
    refine lv_if_ne (tgt := 25) hx hb d_MOD_firstFrozen_16 (by decide) (fun c_16 => ?_) (fun c_16 => ?_)
    · refine lv_iload_n hx hb d_MOD_firstFrozen_25 rfl (lv_at hl 1 rfl) ?_
      have hq9 : (.int (nI (fzF gW nC nC))) = (.int (nI k) : Value) := by rw [← hfz, fzF_step hk, if_neg c_16]
      exact W.iret (v := nI k) hx hb hr (fun t ht _ => ⟨by rw [hq9], ht.trans hHe.symm⟩) (fun _ h => by cases h) d_MOD_firstFrozen_26
    · refine lv_iinc (v := nI (k + 1)) (lv' := [(1, .int (nI (k + 1))), (0, .ref z0)]) hx hb d_MOD_firstFrozen_19 hl (k := 1) rfl (nI_succ _).symm (by decide) rfl (fun ls hl => ?_)
      refine lv_goto (tgt := 2) hx hb d_MOD_firstFrozen_22 (by decide) ?_
      exact ih (k + 1) _ ⟨hk, by rw [← hfz, fzF_step hk]; simp [c_7, c_16], lv_sub hl [1, 0] rfl⟩ (by show nC - (k + 1) < nC - k; omega)
set_option maxHeartbeats 4000000 in
set_option maxRecDepth 100000 in
theorem c_most (l : Launch) (G : GG) (vv : Int64)  : Met l y_MOD_most w_MOD_most ({ frames := 0, cells := 0, slots := 0, locals := 0 }) (va_Pc [.long vv] (Rw G [])) (k2_QcV (.int (mostF vv))) 0 0 (fun _ => False) := by
  refine Met.ofW (cc := b_MOD_most) (maxL := 2) (ret := (some .int)) (by decide) rfl ?_
  intro p e s m args below meth c s₁ B hml hv
  obtain ⟨rfl, hP, hGK⟩ := hv
  have hx := B.exec
  have hb := B.bytes
  have hr := B.returns
  have hts := atoms_spec (ws := w_MOD_most) B.pre
  have hT : ∀ w ∈ lwG, w.before _ s = true := fun w h => hts w (List.mem_cons_of_mem _ h)
  have hown : s.vm.findClass R_MOD = some m.cls := findClass_of_methodNamed B.named
  have hlocks := B.notSynchronized
  have hK := hGK.1
  have hN := hGK.2
  have hP : va_P G.1 vwCl [] s.heap := hP
  have hl := lv_entry ([.long vv]) (n := 2) (Nat.le_of_ble_eq_true rfl)
  rw [lg_entry_eq]
  generalize (lg_sl ([.long vv]) ++ List.replicate (2 - (lg_sl ([.long vv])).length) Slot.unset).toArray = ls at hl ⊢
  have hl : lv_has ls 2 [(0, .long vv)] := hl
  generalize hHe : s.heap = H at hP ⊢
  refine lv_lload_n hx hb d_MOD_most_0 rfl (lv_at hl 0 rfl) ?_
  refine lv_ldc2 (v := 65535) hx hb hown (hT _ wd_678) d_MOD_most_1 ?_
  refine W.lcmp hx hb d_MOD_most_4 ?_
  refine lv_if_le (tgt := 13) hx hb d_MOD_most_5 (by decide) (fun c_5 => ?_) (fun c_5 => ?_)
  · refine lv_lload_n hx hb d_MOD_most_13 rfl (lv_at hl 0 rfl) ?_
    refine lv_l2i (v := vv.toInt32) hx hb d_MOD_most_14 rfl ?_
    have hq9 : (.int (mostF vv)) = (.int vv.toInt32 : Value) := by first | (simp [mostF, c_5]; done) | (simp_all [mostF]; done)
    exact W.iret (v := vv.toInt32) hx hb hr (fun t ht _ => ⟨by rw [hq9], ht.trans hHe.symm⟩) (fun _ h => by cases h) d_MOD_most_15
  · refine lv_ldc (v := 65535) hx hb hown (hT _ wd_739) d_MOD_most_8 ?_
    refine lv_goto (tgt := 15) hx hb d_MOD_most_10 (by decide) ?_
    have hq9 : (.int (mostF vv)) = (.int 65535 : Value) := by first | (simp [mostF, c_5]; done) | (simp_all [mostF]; done)
    exact W.iret (v := 65535) hx hb hr (fun t ht _ => ⟨by rw [hq9], ht.trans hHe.symm⟩) (fun _ h => by cases h) d_MOD_most_15
set_option maxHeartbeats 4000000 in
set_option maxRecDepth 100000 in
theorem c_mcountOf (l : Launch) (G : GG) (sz : Nat) (z0 : Nat) (z1 : Nat) (z2 : Nat) (z3 : Nat) (z4 : Nat) (z5 : Nat) (z6 : Nat) (z7 : Nat) (z8 : Nat) (z9 : Nat) (z10 : Nat) (z11 : Nat) (z12 : Nat) (z13 : Nat) (z14 : Nat) (z15 : Nat) (z16 : Nat) (z17 : Nat) (cdv : Int32) (cyc : Int32) (li : Int32) (nM : Nat) (nC : Nat) (sn : Nat) (me : Int64) (mi : Int64) (fR : Nat → Int32) (fH : Nat → Int32) (mo : Int32) (wh : Int32) (hm : nM ≤ 16) : Met l y_MOD_count_0 w_MOD_count_0 ({ frames := 1, cells := 0, slots := 0, locals := 25 }) (va_Pc [.ref z0, .int mo, .int wh] (Pw G sz [(z0, .inr (6, [.int cdv, .int (nI nM), .ref z1, .ref z2, .ref z3, .ref z4, .ref z5, .ref z6, .int (nI nC), .ref z7, .ref z8, .ref z9, .ref z10, .ref z11, .ref z12, .ref z13, .ref z14, .ref z15, .ref z16, .int cyc, .int li, .long me, .long mi, .int (nI sn), .ref z17])), (z3, .inl (G.2 2, 16, .inl fR)), (z4, .inl (G.2 2, 16, .inl fH))])) (QW G (some (.int (mcnF fR fH nM mo wh))) [(z0, .inr (6, [.int cdv, .int (nI nM), .ref z1, .ref z2, .ref z3, .ref z4, .ref z5, .ref z6, .int (nI nC), .ref z7, .ref z8, .ref z9, .ref z10, .ref z11, .ref z12, .ref z13, .ref z14, .ref z15, .ref z16, .int cyc, .int li, .long me, .long mi, .int (nI sn), .ref z17])), (z3, .inl (G.2 2, 16, .inl fR)), (z4, .inl (G.2 2, 16, .inl fH))] [(z0, .inr (6, [.int 0, .int (nI nM), .ref z1, .ref z2, .ref z3, .ref z4, .ref z5, .ref z6, .int (nI nC), .ref z7, .ref z8, .ref z9, .ref z10, .ref z11, .ref z12, .ref z13, .ref z14, .ref z15, .ref z16, .int cyc, .int li, .long me, .long mi, .int (nI sn), .ref z17])), (z3, .inl (G.2 2, 16, .inl fR)), (z4, .inl (G.2 2, 16, .inl fH))] sz) 0 0 (va_A [(z0, .inr (6, [.int cdv, .int (nI nM), .ref z1, .ref z2, .ref z3, .ref z4, .ref z5, .ref z6, .int (nI nC), .ref z7, .ref z8, .ref z9, .ref z10, .ref z11, .ref z12, .ref z13, .ref z14, .ref z15, .ref z16, .int cyc, .int li, .long me, .long mi, .int (nI sn), .ref z17])), (z3, .inl (G.2 2, 16, .inl fR)), (z4, .inl (G.2 2, 16, .inl fH))] sz) := by
  refine Met.ofW (cc := b_MOD_count_0) (maxL := 3) (ret := (some .int)) (by decide) rfl ?_
  intro p e s m args below meth c s₁ B hml hv
  obtain ⟨rfl, hsz, hP, hGK, hD0⟩ := hv
  have hx := B.exec
  have hb := B.bytes
  have hr := B.returns
  have hts := atoms_spec (ws := w_MOD_count_0) B.pre
  have hT : ∀ w ∈ lwG, w.before _ s = true := fun w h => hts w (List.mem_cons_of_mem _ h)
  have hown : s.vm.findClass R_MOD = some m.cls := findClass_of_methodNamed B.named
  have hlocks := B.notSynchronized
  have hK := hGK.1
  have hN := hGK.2
  subst hsz
  have hD := hD0.self (sz := s.heap.size)
  generalize hAe : va_A [(z0, .inr (6, [.int cdv, .int (nI nM), .ref z1, .ref z2, .ref z3, .ref z4, .ref z5, .ref z6, .int (nI nC), .ref z7, .ref z8, .ref z9, .ref z10, .ref z11, .ref z12, .ref z13, .ref z14, .ref z15, .ref z16, .int cyc, .int li, .long me, .long mi, .int (nI sn), .ref z17])), (z3, .inl (G.2 2, 16, .inl fR)), (z4, .inl (G.2 2, 16, .inl fH))] s.heap.size = A at hD ⊢
  have hA : ∀ q : Nat, s.heap.size ≤ q → A q := fun q h => by rw [← hAe]; exact Or.inr h
  have hS : va_S A s.heap s.heap [] := va_S.rf
  have hP : va_P G.1 vwCl [(z0, .inr (6, [.int cdv, .int (nI nM), .ref z1, .ref z2, .ref z3, .ref z4, .ref z5, .ref z6, .int (nI nC), .ref z7, .ref z8, .ref z9, .ref z10, .ref z11, .ref z12, .ref z13, .ref z14, .ref z15, .ref z16, .int cyc, .int li, .long me, .long mi, .int (nI sn), .ref z17])), (z3, .inl (G.2 2, 16, .inl fR)), (z4, .inl (G.2 2, 16, .inl fH))] s.heap := hP
  have hl := lv_entry ([.ref z0, .int mo, .int wh]) (n := 3) (Nat.le_of_ble_eq_true rfl)
  rw [lg_entry_eq]
  generalize (lg_sl ([.ref z0, .int mo, .int wh]) ++ List.replicate (3 - (lg_sl ([.ref z0, .int mo, .int wh])).length) Slot.unset).toArray = ls at hl ⊢
  have hl : lv_has ls 3 [(0, .ref z0), (1, .int mo), (2, .int wh)] := hl
  refine lv_aload_n hx hb d_MOD_count_0_0 rfl (lv_at hl 0 rfl) ?_
  refine lv_iconst (v := 0) hx hb d_MOD_count_0_1 (by decide) ?_
  refine va_put (D := G.1) (ci := 6) (v := .int 0) (ty := .int) (C := R_MOD) (T := T_MOD) (N := 25) hx hb hT in_MOD t_MOD tok_MOD nok_MOD hown hK hP hD hS 0 rfl rfl 0 (by decide) (hT _ wd_582) (fun _ h9 => h9) rfl (by decide +kernel) rfl rfl (Nat.le_of_ble_eq_true rfl) d_MOD_count_0_2 (fun H locs hP hD hS => ?_)
  have hP : va_P G.1 vwCl [(z0, .inr (6, [.int 0, .int (nI nM), .ref z1, .ref z2, .ref z3, .ref z4, .ref z5, .ref z6, .int (nI nC), .ref z7, .ref z8, .ref z9, .ref z10, .ref z11, .ref z12, .ref z13, .ref z14, .ref z15, .ref z16, .int cyc, .int li, .long me, .long mi, .int (nI sn), .ref z17])), (z3, .inl (G.2 2, 16, .inl fR)), (z4, .inl (G.2 2, 16, .inl fH))] H := hP
  have hD : va_D A [(z0, .inr (6, [.int 0, .int (nI nM), .ref z1, .ref z2, .ref z3, .ref z4, .ref z5, .ref z6, .int (nI nC), .ref z7, .ref z8, .ref z9, .ref z10, .ref z11, .ref z12, .ref z13, .ref z14, .ref z15, .ref z16, .int cyc, .int li, .long me, .long mi, .int (nI sn), .ref z17])), (z3, .inl (G.2 2, 16, .inl fR)), (z4, .inl (G.2 2, 16, .inl fH))] := hD
  refine lv_iload_n hx hb d_MOD_count_0_5 rfl (lv_at hl 1 rfl) ?_
  refine lv_i2l (v := mo.toInt64) hx hb d_MOD_count_0_6 rfl ?_
  refine lv_lconst (v := 1) hx hb d_MOD_count_0_7 (by decide) ?_
  refine lv_aload_n hx hb d_MOD_count_0_8 rfl (lv_at hl 0 rfl) ?_
  refine va_get (D := G.1) (ci := 6) (v := .int (nI nM)) (C := R_MOD) (T := T_MOD) (N := 25) hx hb hT in_MOD hown hK hP 0 rfl rfl 1 (by decide) (hT _ wd_583) (fun _ h9 => h9) rfl d_MOD_count_0_9 ?_
  refine lv_i2l (v := (nI nM).toInt64) hx hb d_MOD_count_0_12 rfl ?_
  refine bx_callV (W.runS (As := [.long mo.toInt64, .long 1, .long ((nI nM).toInt64)]) (rest := []) ⟨hx, hb, hml, hown, hts⟩ (c_isIn l G mo.toInt64 1 ((nI nM).toInt64)) ⟨(callB_of 3 hts (gi_all wd_671) rfl rfl rfl (hT _ wd_51) (hT _ wd_669) (by decide +kernel) ⟨Nat.le_of_ble_eq_true rfl, Nat.le_of_ble_eq_true rfl⟩), (hT _ wd_670)⟩ (psR bx_nil hGK) rfl rfl hl.1 rfl (lv_room (Nat.le_of_ble_eq_true rfl)) d_MOD_count_0_13 ⟨Nat.le_of_ble_eq_true rfl, Nat.le_of_ble_eq_true rfl⟩) ?_
  refine lv_if_ne (tgt := 21) hx hb d_MOD_count_0_16 (by decide) (fun c_16 => ?_) (fun c_16 => ?_)
  · obtain ⟨k, hk, hmo⟩ := isM_some (by rw [← inF_isM mo (by omega)]; exact c_16) (by omega : nM ≤ 20)
    have e9 : mo - 1 = nI k := by rw [hmo]; exact nI_pred k
    have ex9 : ixM mo = k := by rw [hmo]; exact ixM_at (by omega)
    refine lv_iload_n hx hb d_MOD_count_0_21 rfl (lv_at hl 2 rfl) ?_
    refine lv_if_ne (tgt := 36) hx hb d_MOD_count_0_22 (by decide) (fun c_22 => ?_) (fun c_22 => ?_)
    · refine lv_aload_n hx hb d_MOD_count_0_36 rfl (lv_at hl 0 rfl) ?_
      refine va_get (D := G.1) (ci := 6) (v := .ref z4) (C := R_MOD) (T := T_MOD) (N := 25) hx hb hT in_MOD hown hK hP 0 rfl rfl 5 (by decide) (hT _ wd_587) (fun _ h9 => h9) rfl d_MOD_count_0_37 ?_
      refine lv_iload_n hx hb d_MOD_count_0_40 rfl (lv_at hl 1 rfl) ?_
      refine lv_iconst (v := 1) hx hb d_MOD_count_0_41 (by decide) ?_
      refine lv_isub hx hb d_MOD_count_0_42 ?_
      rw [e9]
      refine va_iald hx hb hK hP 2 2 rfl rfl (vp_in_nI (by omega) (by omega)) d_MOD_count_0_43 ?_
      refine W.eq (g2 := F0 m 44 ls (.int (fH k) :: [])) (by rw [nI_clamp (by omega)]) ?_
      have hq9 : (.int (mcnF fR fH nM mo wh)) = (.int (fH k) : Value) := by simp only [mcnF, ex9, if_neg c_16]; simp [c_22]
      exact W.iret (v := fH k) hx hb hr (fun t ht hW => ⟨⟨by rw [hq9], by rw [ht]; exact hP, by rw [hAe]; exact hD⟩, by rw [hAe]; exact hS.F ht⟩) hS.2.2 d_MOD_count_0_44
    · refine lv_aload_n hx hb d_MOD_count_0_25 rfl (lv_at hl 0 rfl) ?_
      refine va_get (D := G.1) (ci := 6) (v := .ref z3) (C := R_MOD) (T := T_MOD) (N := 25) hx hb hT in_MOD hown hK hP 0 rfl rfl 4 (by decide) (hT _ wd_586) (fun _ h9 => h9) rfl d_MOD_count_0_26 ?_
      refine lv_iload_n hx hb d_MOD_count_0_29 rfl (lv_at hl 1 rfl) ?_
      refine lv_iconst (v := 1) hx hb d_MOD_count_0_30 (by decide) ?_
      refine lv_isub hx hb d_MOD_count_0_31 ?_
      rw [e9]
      refine va_iald hx hb hK hP 1 2 rfl rfl (vp_in_nI (by omega) (by omega)) d_MOD_count_0_32 ?_
      refine W.eq (g2 := F0 m 33 ls (.int (fR k) :: [])) (by rw [nI_clamp (by omega)]) ?_
      refine lv_goto (tgt := 44) hx hb d_MOD_count_0_33 (by decide) ?_
      have hq9 : (.int (mcnF fR fH nM mo wh)) = (.int (fR k) : Value) := by simp only [mcnF, ex9, if_neg c_16]; simp [c_22]
      exact W.iret (v := fR k) hx hb hr (fun t ht hW => ⟨⟨by rw [hq9], by rw [ht]; exact hP, by rw [hAe]; exact hD⟩, by rw [hAe]; exact hS.F ht⟩) hS.2.2 d_MOD_count_0_44
  · refine lv_iconst (v := (-1)) hx hb d_MOD_count_0_19 (by decide) ?_
    have hq9 : (.int (mcnF fR fH nM mo wh)) = (.int (-1) : Value) := by first | (simp [mcnF, c_16]; done) | (simp_all [mcnF]; done)
    exact W.iret (v := (-1)) hx hb hr (fun t ht hW => ⟨⟨by rw [hq9], by rw [ht]; exact hP, by rw [hAe]; exact hD⟩, by rw [hAe]; exact hS.F ht⟩) hS.2.2 d_MOD_count_0_20
set_option maxHeartbeats 4000000 in
set_option maxRecDepth 100000 in
theorem c_mready (l : Launch) (G : GG) (sz : Nat) (z0 : Nat) (z1 : Nat) (z2 : Nat) (z3 : Nat) (z4 : Nat) (z5 : Nat) (z6 : Nat) (z7 : Nat) (z8 : Nat) (z9 : Nat) (z10 : Nat) (z11 : Nat) (z12 : Nat) (z13 : Nat) (z14 : Nat) (z15 : Nat) (z16 : Nat) (z17 : Nat) (cdv : Int32) (cyc : Int32) (li : Int32) (nM : Nat) (nC : Nat) (sn : Nat) (me : Int64) (mi : Int64) (fK : Nat → Int32) (fY : Nat → Int32) (kd : Int32) (hm : nM ≤ 16) : Met l y_MOD_ready w_MOD_ready ({ frames := 1, cells := 0, slots := 0, locals := 25 }) (va_Pc [.ref z0, .int kd] (Pw G sz [(z0, .inr (6, [.int cdv, .int (nI nM), .ref z1, .ref z2, .ref z3, .ref z4, .ref z5, .ref z6, .int (nI nC), .ref z7, .ref z8, .ref z9, .ref z10, .ref z11, .ref z12, .ref z13, .ref z14, .ref z15, .ref z16, .int cyc, .int li, .long me, .long mi, .int (nI sn), .ref z17])), (z1, .inl (G.2 2, 16, .inl fK)), (z6, .inl (G.2 3, 16, .inl fY))])) (QW G (some (.int (mrdy fK fY nM kd))) [(z0, .inr (6, [.int cdv, .int (nI nM), .ref z1, .ref z2, .ref z3, .ref z4, .ref z5, .ref z6, .int (nI nC), .ref z7, .ref z8, .ref z9, .ref z10, .ref z11, .ref z12, .ref z13, .ref z14, .ref z15, .ref z16, .int cyc, .int li, .long me, .long mi, .int (nI sn), .ref z17])), (z1, .inl (G.2 2, 16, .inl fK)), (z6, .inl (G.2 3, 16, .inl fY))] [(z0, .inr (6, [.int 0, .int (nI nM), .ref z1, .ref z2, .ref z3, .ref z4, .ref z5, .ref z6, .int (nI nC), .ref z7, .ref z8, .ref z9, .ref z10, .ref z11, .ref z12, .ref z13, .ref z14, .ref z15, .ref z16, .int cyc, .int li, .long me, .long mi, .int (nI sn), .ref z17])), (z1, .inl (G.2 2, 16, .inl fK)), (z6, .inl (G.2 3, 16, .inl fY))] sz) 0 0 (va_A [(z0, .inr (6, [.int cdv, .int (nI nM), .ref z1, .ref z2, .ref z3, .ref z4, .ref z5, .ref z6, .int (nI nC), .ref z7, .ref z8, .ref z9, .ref z10, .ref z11, .ref z12, .ref z13, .ref z14, .ref z15, .ref z16, .int cyc, .int li, .long me, .long mi, .int (nI sn), .ref z17])), (z1, .inl (G.2 2, 16, .inl fK)), (z6, .inl (G.2 3, 16, .inl fY))] sz) := by
  refine Met.ofW (cc := b_MOD_ready) (maxL := 4) (ret := (some .int)) (by decide) rfl ?_
  intro p e s m args below meth c s₁ B hml hv
  obtain ⟨rfl, hsz, hP, hGK, hD0⟩ := hv
  have hx := B.exec
  have hb := B.bytes
  have hr := B.returns
  have hts := atoms_spec (ws := w_MOD_ready) B.pre
  have hT : ∀ w ∈ lwG, w.before _ s = true := fun w h => hts w (List.mem_cons_of_mem _ h)
  have hown : s.vm.findClass R_MOD = some m.cls := findClass_of_methodNamed B.named
  have hlocks := B.notSynchronized
  have hK := hGK.1
  have hN := hGK.2
  subst hsz
  have hD := hD0.self (sz := s.heap.size)
  generalize hAe : va_A [(z0, .inr (6, [.int cdv, .int (nI nM), .ref z1, .ref z2, .ref z3, .ref z4, .ref z5, .ref z6, .int (nI nC), .ref z7, .ref z8, .ref z9, .ref z10, .ref z11, .ref z12, .ref z13, .ref z14, .ref z15, .ref z16, .int cyc, .int li, .long me, .long mi, .int (nI sn), .ref z17])), (z1, .inl (G.2 2, 16, .inl fK)), (z6, .inl (G.2 3, 16, .inl fY))] s.heap.size = A at hD ⊢
  have hA : ∀ q : Nat, s.heap.size ≤ q → A q := fun q h => by rw [← hAe]; exact Or.inr h
  have hS : va_S A s.heap s.heap [] := va_S.rf
  have hP : va_P G.1 vwCl [(z0, .inr (6, [.int cdv, .int (nI nM), .ref z1, .ref z2, .ref z3, .ref z4, .ref z5, .ref z6, .int (nI nC), .ref z7, .ref z8, .ref z9, .ref z10, .ref z11, .ref z12, .ref z13, .ref z14, .ref z15, .ref z16, .int cyc, .int li, .long me, .long mi, .int (nI sn), .ref z17])), (z1, .inl (G.2 2, 16, .inl fK)), (z6, .inl (G.2 3, 16, .inl fY))] s.heap := hP
  have hl := lv_entry ([.ref z0, .int kd]) (n := 4) (Nat.le_of_ble_eq_true rfl)
  rw [lg_entry_eq]
  generalize (lg_sl ([.ref z0, .int kd]) ++ List.replicate (4 - (lg_sl ([.ref z0, .int kd])).length) Slot.unset).toArray = ls at hl ⊢
  have hl : lv_has ls 4 [(0, .ref z0), (1, .int kd)] := hl
  refine lv_aload_n hx hb d_MOD_ready_0 rfl (lv_at hl 0 rfl) ?_
  refine lv_iconst (v := 0) hx hb d_MOD_ready_1 (by decide) ?_
  refine va_put (D := G.1) (ci := 6) (v := .int 0) (ty := .int) (C := R_MOD) (T := T_MOD) (N := 25) hx hb hT in_MOD t_MOD tok_MOD nok_MOD hown hK hP hD hS 0 rfl rfl 0 (by decide) (hT _ wd_582) (fun _ h9 => h9) rfl (by decide +kernel) rfl rfl (Nat.le_of_ble_eq_true rfl) d_MOD_ready_2 (fun H locs hP hD hS => ?_)
  have hP : va_P G.1 vwCl [(z0, .inr (6, [.int 0, .int (nI nM), .ref z1, .ref z2, .ref z3, .ref z4, .ref z5, .ref z6, .int (nI nC), .ref z7, .ref z8, .ref z9, .ref z10, .ref z11, .ref z12, .ref z13, .ref z14, .ref z15, .ref z16, .int cyc, .int li, .long me, .long mi, .int (nI sn), .ref z17])), (z1, .inl (G.2 2, 16, .inl fK)), (z6, .inl (G.2 3, 16, .inl fY))] H := hP
  have hD : va_D A [(z0, .inr (6, [.int 0, .int (nI nM), .ref z1, .ref z2, .ref z3, .ref z4, .ref z5, .ref z6, .int (nI nC), .ref z7, .ref z8, .ref z9, .ref z10, .ref z11, .ref z12, .ref z13, .ref z14, .ref z15, .ref z16, .int cyc, .int li, .long me, .long mi, .int (nI sn), .ref z17])), (z1, .inl (G.2 2, 16, .inl fK)), (z6, .inl (G.2 3, 16, .inl fY))] := hD
  refine lv_iload_n hx hb d_MOD_ready_5 rfl (lv_at hl 1 rfl) ?_
  refine lv_i2l (v := kd.toInt64) hx hb d_MOD_ready_6 rfl ?_
  refine lv_lconst (v := 0) hx hb d_MOD_ready_7 (by decide) ?_
  refine lv_ldc2 (v := 3) hx hb hown (hT _ wd_668) d_MOD_ready_8 ?_
  refine bx_callV (W.runS (As := [.long kd.toInt64, .long 0, .long 3]) (rest := []) ⟨hx, hb, hml, hown, hts⟩ (c_isIn l G kd.toInt64 0 3) ⟨(callB_of 3 hts (gi_all wd_671) rfl rfl rfl (hT _ wd_51) (hT _ wd_669) (by decide +kernel) ⟨Nat.le_of_ble_eq_true rfl, Nat.le_of_ble_eq_true rfl⟩), (hT _ wd_670)⟩ (psR bx_nil hGK) rfl rfl hl.1 rfl (lv_room (Nat.le_of_ble_eq_true rfl)) d_MOD_ready_11 ⟨Nat.le_of_ble_eq_true rfl, Nat.le_of_ble_eq_true rfl⟩) ?_
  refine lv_if_ne (tgt := 20) hx hb d_MOD_ready_14 (by decide) (fun c_14 => ?_) (fun c_14 => ?_)
  · refine lv_iconst (v := 2) hx hb d_MOD_ready_20 (by decide) ?_
    refine lv_istore_n (lv' := [(2, .int 2), (0, .ref z0), (1, .int kd)]) hx hb d_MOD_ready_21 rfl hl (by decide) rfl (fun ls hl => ?_)
    refine lv_iconst (v := 0) hx hb d_MOD_ready_22 (by decide) ?_
    refine lv_istore_n (lv' := [(3, .int 0), (2, .int 2), (0, .ref z0), (1, .int kd)]) hx hb d_MOD_ready_23 rfl hl (by decide) rfl (fun ls hl => ?_)
    refine bx_loop (σ := Nat × Int32) (fun q H locs ls => q.1 ≤ nM ∧ mrF fK fY kd nM (nM - q.1) q.2 = mrF fK fY kd nM nM 2 ∧ va_P G.1 vwCl [(z0, .inr (6, [.int 0, .int (nI nM), .ref z1, .ref z2, .ref z3, .ref z4, .ref z5, .ref z6, .int (nI nC), .ref z7, .ref z8, .ref z9, .ref z10, .ref z11, .ref z12, .ref z13, .ref z14, .ref z15, .ref z16, .int cyc, .int li, .long me, .long mi, .int (nI sn), .ref z17])), (z1, .inl (G.2 2, 16, .inl fK)), (z6, .inl (G.2 3, 16, .inl fY))] H ∧ va_D A [(z0, .inr (6, [.int 0, .int (nI nM), .ref z1, .ref z2, .ref z3, .ref z4, .ref z5, .ref z6, .int (nI nC), .ref z7, .ref z8, .ref z9, .ref z10, .ref z11, .ref z12, .ref z13, .ref z14, .ref z15, .ref z16, .int cyc, .int li, .long me, .long mi, .int (nI sn), .ref z17])), (z1, .inl (G.2 2, 16, .inl fK)), (z6, .inl (G.2 3, 16, .inl fY))] ∧ va_S A s.heap H locs ∧ lv_has ls 4 [(0, .ref z0), (1, .int kd), (2, .int q.2), (3, .int (nI q.1))]) (fun q => nM - q.1) _ (fun q H locs ls hI ih => ?_) (0, 2) ls ⟨Nat.zero_le _, rfl, hP, hD, hS, lv_sub hl [2, 3, 1, 0] rfl⟩
    obtain ⟨k, ac1⟩ := q
    obtain ⟨hknk, hmr, hP, hD, hS, hl⟩ := hI
    have hknk : k ≤ nM := hknk
    have hmr : mrF fK fY kd nM (nM - k) ac1 = mrF fK fY kd nM nM 2 := hmr
    have hP : va_P G.1 vwCl [(z0, .inr (6, [.int 0, .int (nI nM), .ref z1, .ref z2, .ref z3, .ref z4, .ref z5, .ref z6, .int (nI nC), .ref z7, .ref z8, .ref z9, .ref z10, .ref z11, .ref z12, .ref z13, .ref z14, .ref z15, .ref z16, .int cyc, .int li, .long me, .long mi, .int (nI sn), .ref z17])), (z1, .inl (G.2 2, 16, .inl fK)), (z6, .inl (G.2 3, 16, .inl fY))] H := hP
    have hD : va_D A [(z0, .inr (6, [.int 0, .int (nI nM), .ref z1, .ref z2, .ref z3, .ref z4, .ref z5, .ref z6, .int (nI nC), .ref z7, .ref z8, .ref z9, .ref z10, .ref z11, .ref z12, .ref z13, .ref z14, .ref z15, .ref z16, .int cyc, .int li, .long me, .long mi, .int (nI sn), .ref z17])), (z1, .inl (G.2 2, 16, .inl fK)), (z6, .inl (G.2 3, 16, .inl fY))] := hD
    have hl : lv_has ls 4 [(0, .ref z0), (1, .int kd), (2, .int ac1), (3, .int (nI k))] := hl
    refine lv_iload_n hx hb d_MOD_ready_24 rfl (lv_at hl 3 rfl) ?_
    refine lv_aload_n hx hb d_MOD_ready_25 rfl (lv_at hl 0 rfl) ?_
    refine va_get (D := G.1) (ci := 6) (v := .int (nI nM)) (C := R_MOD) (T := T_MOD) (N := 25) hx hb hT in_MOD hown hK hP 0 rfl rfl 1 (by decide) (hT _ wd_583) (fun _ h9 => h9) rfl d_MOD_ready_26 ?_
    refine lv_icmp_ge (tgt := 67) hx hb d_MOD_ready_29 (by decide) (fun c_29 => ?_) (fun c_29 => ?_)
    · have hge : nM ≤ k := (nI_leI (by omega) (by omega)).mp c_29
      have hke : k = nM := by omega
      refine lv_iload_n hx hb d_MOD_ready_67 rfl (lv_at hl 2 rfl) ?_
      have hq9 : (.int (mrdy fK fY nM kd)) = (.int ac1 : Value) := by rw [mrdy, if_neg c_14, ← hmr, hke, Nat.sub_self]; rfl
      exact W.iret (v := ac1) hx hb hr (fun t ht hW => ⟨⟨by rw [hq9], by rw [ht]; exact hP, by rw [hAe]; exact hD⟩, by rw [hAe]; exact hS.F ht⟩) hS.2.2 d_MOD_ready_68
    · have hk : k < nM := Nat.not_le.mp (fun z => c_29 (nI_le z (by omega)))
      refine lv_aload_n hx hb d_MOD_ready_32 rfl (lv_at hl 0 rfl) ?_
      refine va_get (D := G.1) (ci := 6) (v := .ref z1) (C := R_MOD) (T := T_MOD) (N := 25) hx hb hT in_MOD hown hK hP 0 rfl rfl 2 (by decide) (hT _ wd_584) (fun _ h9 => h9) rfl d_MOD_ready_33 ?_
      refine lv_iload_n hx hb d_MOD_ready_36 rfl (lv_at hl 3 rfl) ?_
      refine va_iald hx hb hK hP 1 2 rfl rfl (vp_in_nI (by omega) (by omega)) d_MOD_ready_37 ?_
      refine W.eq (g2 := F0 m 38 ls (.int (fK k) :: [])) (by rw [nI_clamp (by omega)]) ?_
      refine lv_iload_n hx hb d_MOD_ready_38 rfl (lv_at hl 1 rfl) ?_
      refine lv_icmp_ne (tgt := 61) hx hb d_MOD_ready_39 (by decide) (fun c_39 => ?_) (fun c_39 => ?_)
      · refine lv_iinc (v := nI (k + 1)) (lv' := [(3, .int (nI (k + 1))), (0, .ref z0), (1, .int kd), (2, .int ac1)]) hx hb d_MOD_ready_61 hl (k := 3) rfl (nI_succ _).symm (by decide) rfl (fun ls hl => ?_)
        refine lv_goto (tgt := 24) hx hb d_MOD_ready_64 (by decide) ?_
        exact ih ((k + 1), ac1) _ _ _ ⟨hk, by rw [← hmr, mrF_step _ _ hk]; simp [c_14, c_29, c_39], hP, hD, hS, lv_sub hl [1, 2, 3, 0] rfl⟩ (by show nM - (k + 1) < nM - k; omega)
      · refine lv_aload_n hx hb d_MOD_ready_42 rfl (lv_at hl 0 rfl) ?_
        refine va_get (D := G.1) (ci := 6) (v := .ref z6) (C := R_MOD) (T := T_MOD) (N := 25) hx hb hT in_MOD hown hK hP 0 rfl rfl 7 (by decide) (hT _ wd_589) (fun _ h9 => h9) rfl d_MOD_ready_43 ?_
        refine lv_iload_n hx hb d_MOD_ready_46 rfl (lv_at hl 3 rfl) ?_
        refine va_zald hx hb hK hP 2 3 rfl rfl (vp_in_nI (by omega) (by omega)) d_MOD_ready_47 ?_
        refine W.eq (g2 := F0 m 48 ls (.int (fY k) :: [])) (by rw [nI_clamp (by omega)]) ?_
        refine lv_if_eq (tgt := 59) hx hb d_MOD_ready_48 (by decide) (fun c_48 => ?_) (fun c_48 => ?_)
        · refine lv_iconst (v := 0) hx hb d_MOD_ready_59 (by decide) ?_
          refine lv_istore_n (lv' := [(2, .int 0), (0, .ref z0), (1, .int kd), (3, .int (nI k))]) hx hb d_MOD_ready_60 rfl hl (by decide) rfl (fun ls hl => ?_)
          refine lv_iinc (v := nI (k + 1)) (lv' := [(3, .int (nI (k + 1))), (2, .int 0), (0, .ref z0), (1, .int kd)]) hx hb d_MOD_ready_61 hl (k := 3) rfl (nI_succ _).symm (by decide) rfl (fun ls hl => ?_)
          refine lv_goto (tgt := 24) hx hb d_MOD_ready_64 (by decide) ?_
          exact ih ((k + 1), 0) _ _ _ ⟨hk, by rw [← hmr, mrF_step _ _ hk]; simp [c_14, c_29, c_39, c_48], hP, hD, hS, lv_sub hl [2, 3, 1, 0] rfl⟩ (by show nM - (k + 1) < nM - k; omega)
        · refine lv_iload_n hx hb d_MOD_ready_51 rfl (lv_at hl 2 rfl) ?_
          refine lv_if_eq (tgt := 59) hx hb d_MOD_ready_52 (by decide) (fun c_52 => ?_) (fun c_52 => ?_)
          · refine lv_iconst (v := 0) hx hb d_MOD_ready_59 (by decide) ?_
            refine lv_istore_n (lv' := [(2, .int 0), (0, .ref z0), (1, .int kd), (3, .int (nI k))]) hx hb d_MOD_ready_60 rfl hl (by decide) rfl (fun ls hl => ?_)
            refine lv_iinc (v := nI (k + 1)) (lv' := [(3, .int (nI (k + 1))), (2, .int 0), (0, .ref z0), (1, .int kd)]) hx hb d_MOD_ready_61 hl (k := 3) rfl (nI_succ _).symm (by decide) rfl (fun ls hl => ?_)
            refine lv_goto (tgt := 24) hx hb d_MOD_ready_64 (by decide) ?_
            exact ih ((k + 1), 0) _ _ _ ⟨hk, by rw [← hmr, mrF_step _ _ hk]; simp [c_14, c_29, c_39, c_48, c_52], hP, hD, hS, lv_sub hl [2, 3, 1, 0] rfl⟩ (by show nM - (k + 1) < nM - k; omega)
          · refine lv_iconst (v := 1) hx hb d_MOD_ready_55 (by decide) ?_
            refine lv_goto (tgt := 60) hx hb d_MOD_ready_56 (by decide) ?_
            refine lv_istore_n (lv' := [(2, .int 1), (0, .ref z0), (1, .int kd), (3, .int (nI k))]) hx hb d_MOD_ready_60 rfl hl (by decide) rfl (fun ls hl => ?_)
            refine lv_iinc (v := nI (k + 1)) (lv' := [(3, .int (nI (k + 1))), (2, .int 1), (0, .ref z0), (1, .int kd)]) hx hb d_MOD_ready_61 hl (k := 3) rfl (nI_succ _).symm (by decide) rfl (fun ls hl => ?_)
            refine lv_goto (tgt := 24) hx hb d_MOD_ready_64 (by decide) ?_
            exact ih ((k + 1), 1) _ _ _ ⟨hk, by rw [← hmr, mrF_step _ _ hk]; simp [c_14, c_29, c_39, c_48, c_52], hP, hD, hS, lv_sub hl [2, 3, 1, 0] rfl⟩ (by show nM - (k + 1) < nM - k; omega)
  · refine lv_bipush (v := (-2)) hx hb d_MOD_ready_17 (by decide) ?_
    have hq9 : (.int (mrdy fK fY nM kd)) = (.int (-2) : Value) := by first | (simp [mrdy, c_14]; done) | (simp_all [mrdy]; done)
    exact W.iret (v := (-2)) hx hb hr (fun t ht hW => ⟨⟨by rw [hq9], by rw [ht]; exact hP, by rw [hAe]; exact hD⟩, by rw [hAe]; exact hS.F ht⟩) hS.2.2 d_MOD_ready_19
set_option maxHeartbeats 4000000 in
set_option maxRecDepth 100000 in
theorem c_mpermanent (l : Launch) (G : GG) (sz : Nat) (z0 : Nat) (z1 : Nat) (z2 : Nat) (z3 : Nat) (z4 : Nat) (z5 : Nat) (z6 : Nat) (z7 : Nat) (z8 : Nat) (z9 : Nat) (z10 : Nat) (z11 : Nat) (z12 : Nat) (z13 : Nat) (z14 : Nat) (z15 : Nat) (z16 : Nat) (z17 : Nat) (cdv : Int32) (cyc : Int32) (li : Int32) (nM : Nat) (nC : Nat) (sn : Nat) (me : Int64) (mi : Int64) (gN : Nat → Int32) (gL : Nat → Int32) (pi : Int32) (hn : nC ≤ 20) : Met l y_MOD_permanent w_MOD_permanent ({ frames := 0, cells := 0, slots := 0, locals := 0 }) (va_Pc [.ref z0, .int pi] (Pw G sz [(z0, .inr (6, [.int cdv, .int (nI nM), .ref z1, .ref z2, .ref z3, .ref z4, .ref z5, .ref z6, .int (nI nC), .ref z7, .ref z8, .ref z9, .ref z10, .ref z11, .ref z12, .ref z13, .ref z14, .ref z15, .ref z16, .int cyc, .int li, .long me, .long mi, .int (nI sn), .ref z17])), (z7, .inl (G.2 2, 20, .inl gN)), (z11, .inl (G.2 3, 20, .inl gL))])) (QW G (some (.int (mpF gN gL pi nC nC 0))) [(z0, .inr (6, [.int cdv, .int (nI nM), .ref z1, .ref z2, .ref z3, .ref z4, .ref z5, .ref z6, .int (nI nC), .ref z7, .ref z8, .ref z9, .ref z10, .ref z11, .ref z12, .ref z13, .ref z14, .ref z15, .ref z16, .int cyc, .int li, .long me, .long mi, .int (nI sn), .ref z17])), (z7, .inl (G.2 2, 20, .inl gN)), (z11, .inl (G.2 3, 20, .inl gL))] [(z0, .inr (6, [.int 0, .int (nI nM), .ref z1, .ref z2, .ref z3, .ref z4, .ref z5, .ref z6, .int (nI nC), .ref z7, .ref z8, .ref z9, .ref z10, .ref z11, .ref z12, .ref z13, .ref z14, .ref z15, .ref z16, .int cyc, .int li, .long me, .long mi, .int (nI sn), .ref z17])), (z7, .inl (G.2 2, 20, .inl gN)), (z11, .inl (G.2 3, 20, .inl gL))] sz) 0 0 (va_A [(z0, .inr (6, [.int cdv, .int (nI nM), .ref z1, .ref z2, .ref z3, .ref z4, .ref z5, .ref z6, .int (nI nC), .ref z7, .ref z8, .ref z9, .ref z10, .ref z11, .ref z12, .ref z13, .ref z14, .ref z15, .ref z16, .int cyc, .int li, .long me, .long mi, .int (nI sn), .ref z17])), (z7, .inl (G.2 2, 20, .inl gN)), (z11, .inl (G.2 3, 20, .inl gL))] sz) := by
  refine Met.ofW (cc := b_MOD_permanent) (maxL := 4) (ret := (some .int)) (by decide) rfl ?_
  intro p e s m args below meth c s₁ B hml hv
  obtain ⟨rfl, hsz, hP, hGK, hD0⟩ := hv
  have hx := B.exec
  have hb := B.bytes
  have hr := B.returns
  have hts := atoms_spec (ws := w_MOD_permanent) B.pre
  have hT : ∀ w ∈ lwG, w.before _ s = true := fun w h => hts w (List.mem_cons_of_mem _ h)
  have hown : s.vm.findClass R_MOD = some m.cls := findClass_of_methodNamed B.named
  have hlocks := B.notSynchronized
  have hK := hGK.1
  have hN := hGK.2
  subst hsz
  have hD := hD0.self (sz := s.heap.size)
  generalize hAe : va_A [(z0, .inr (6, [.int cdv, .int (nI nM), .ref z1, .ref z2, .ref z3, .ref z4, .ref z5, .ref z6, .int (nI nC), .ref z7, .ref z8, .ref z9, .ref z10, .ref z11, .ref z12, .ref z13, .ref z14, .ref z15, .ref z16, .int cyc, .int li, .long me, .long mi, .int (nI sn), .ref z17])), (z7, .inl (G.2 2, 20, .inl gN)), (z11, .inl (G.2 3, 20, .inl gL))] s.heap.size = A at hD ⊢
  have hA : ∀ q : Nat, s.heap.size ≤ q → A q := fun q h => by rw [← hAe]; exact Or.inr h
  have hS : va_S A s.heap s.heap [] := va_S.rf
  have hP : va_P G.1 vwCl [(z0, .inr (6, [.int cdv, .int (nI nM), .ref z1, .ref z2, .ref z3, .ref z4, .ref z5, .ref z6, .int (nI nC), .ref z7, .ref z8, .ref z9, .ref z10, .ref z11, .ref z12, .ref z13, .ref z14, .ref z15, .ref z16, .int cyc, .int li, .long me, .long mi, .int (nI sn), .ref z17])), (z7, .inl (G.2 2, 20, .inl gN)), (z11, .inl (G.2 3, 20, .inl gL))] s.heap := hP
  have hl := lv_entry ([.ref z0, .int pi]) (n := 4) (Nat.le_of_ble_eq_true rfl)
  rw [lg_entry_eq]
  generalize (lg_sl ([.ref z0, .int pi]) ++ List.replicate (4 - (lg_sl ([.ref z0, .int pi])).length) Slot.unset).toArray = ls at hl ⊢
  have hl : lv_has ls 4 [(0, .ref z0), (1, .int pi)] := hl
  refine lv_aload_n hx hb d_MOD_permanent_0 rfl (lv_at hl 0 rfl) ?_
  refine lv_iconst (v := 0) hx hb d_MOD_permanent_1 (by decide) ?_
  refine va_put (D := G.1) (ci := 6) (v := .int 0) (ty := .int) (C := R_MOD) (T := T_MOD) (N := 25) hx hb hT in_MOD t_MOD tok_MOD nok_MOD hown hK hP hD hS 0 rfl rfl 0 (by decide) (hT _ wd_582) (fun _ h9 => h9) rfl (by decide +kernel) rfl rfl (Nat.le_of_ble_eq_true rfl) d_MOD_permanent_2 (fun H locs hP hD hS => ?_)
  have hP : va_P G.1 vwCl [(z0, .inr (6, [.int 0, .int (nI nM), .ref z1, .ref z2, .ref z3, .ref z4, .ref z5, .ref z6, .int (nI nC), .ref z7, .ref z8, .ref z9, .ref z10, .ref z11, .ref z12, .ref z13, .ref z14, .ref z15, .ref z16, .int cyc, .int li, .long me, .long mi, .int (nI sn), .ref z17])), (z7, .inl (G.2 2, 20, .inl gN)), (z11, .inl (G.2 3, 20, .inl gL))] H := hP
  have hD : va_D A [(z0, .inr (6, [.int 0, .int (nI nM), .ref z1, .ref z2, .ref z3, .ref z4, .ref z5, .ref z6, .int (nI nC), .ref z7, .ref z8, .ref z9, .ref z10, .ref z11, .ref z12, .ref z13, .ref z14, .ref z15, .ref z16, .int cyc, .int li, .long me, .long mi, .int (nI sn), .ref z17])), (z7, .inl (G.2 2, 20, .inl gN)), (z11, .inl (G.2 3, 20, .inl gL))] := hD
  refine lv_iconst (v := 0) hx hb d_MOD_permanent_5 (by decide) ?_
  refine lv_istore_n (lv' := [(2, .int 0), (0, .ref z0), (1, .int pi)]) hx hb d_MOD_permanent_6 rfl hl (by decide) rfl (fun ls hl => ?_)
  refine lv_iconst (v := 0) hx hb d_MOD_permanent_7 (by decide) ?_
  refine lv_istore_n (lv' := [(3, .int 0), (2, .int 0), (0, .ref z0), (1, .int pi)]) hx hb d_MOD_permanent_8 rfl hl (by decide) rfl (fun ls hl => ?_)
  refine bx_loop (σ := Nat × Int32) (fun q H locs ls => q.1 ≤ nC ∧ mpF gN gL pi nC (nC - q.1) q.2 = mpF gN gL pi nC nC 0 ∧ va_P G.1 vwCl [(z0, .inr (6, [.int 0, .int (nI nM), .ref z1, .ref z2, .ref z3, .ref z4, .ref z5, .ref z6, .int (nI nC), .ref z7, .ref z8, .ref z9, .ref z10, .ref z11, .ref z12, .ref z13, .ref z14, .ref z15, .ref z16, .int cyc, .int li, .long me, .long mi, .int (nI sn), .ref z17])), (z7, .inl (G.2 2, 20, .inl gN)), (z11, .inl (G.2 3, 20, .inl gL))] H ∧ va_D A [(z0, .inr (6, [.int 0, .int (nI nM), .ref z1, .ref z2, .ref z3, .ref z4, .ref z5, .ref z6, .int (nI nC), .ref z7, .ref z8, .ref z9, .ref z10, .ref z11, .ref z12, .ref z13, .ref z14, .ref z15, .ref z16, .int cyc, .int li, .long me, .long mi, .int (nI sn), .ref z17])), (z7, .inl (G.2 2, 20, .inl gN)), (z11, .inl (G.2 3, 20, .inl gL))] ∧ va_S A s.heap H locs ∧ lv_has ls 4 [(0, .ref z0), (1, .int pi), (2, .int q.2), (3, .int (nI q.1))]) (fun q => nC - q.1) _ (fun q H locs ls hI ih => ?_) (0, 0) ls ⟨Nat.zero_le _, rfl, hP, hD, hS, lv_sub hl [2, 3, 1, 0] rfl⟩
  obtain ⟨k, bf⟩ := q
  obtain ⟨hknk, hpm, hP, hD, hS, hl⟩ := hI
  have hknk : k ≤ nC := hknk
  have hpm : mpF gN gL pi nC (nC - k) bf = mpF gN gL pi nC nC 0 := hpm
  have hP : va_P G.1 vwCl [(z0, .inr (6, [.int 0, .int (nI nM), .ref z1, .ref z2, .ref z3, .ref z4, .ref z5, .ref z6, .int (nI nC), .ref z7, .ref z8, .ref z9, .ref z10, .ref z11, .ref z12, .ref z13, .ref z14, .ref z15, .ref z16, .int cyc, .int li, .long me, .long mi, .int (nI sn), .ref z17])), (z7, .inl (G.2 2, 20, .inl gN)), (z11, .inl (G.2 3, 20, .inl gL))] H := hP
  have hD : va_D A [(z0, .inr (6, [.int 0, .int (nI nM), .ref z1, .ref z2, .ref z3, .ref z4, .ref z5, .ref z6, .int (nI nC), .ref z7, .ref z8, .ref z9, .ref z10, .ref z11, .ref z12, .ref z13, .ref z14, .ref z15, .ref z16, .int cyc, .int li, .long me, .long mi, .int (nI sn), .ref z17])), (z7, .inl (G.2 2, 20, .inl gN)), (z11, .inl (G.2 3, 20, .inl gL))] := hD
  have hl : lv_has ls 4 [(0, .ref z0), (1, .int pi), (2, .int bf), (3, .int (nI k))] := hl
  refine lv_iload_n hx hb d_MOD_permanent_9 rfl (lv_at hl 3 rfl) ?_
  refine lv_aload_n hx hb d_MOD_permanent_10 rfl (lv_at hl 0 rfl) ?_
  refine va_get (D := G.1) (ci := 6) (v := .int (nI nC)) (C := R_MOD) (T := T_MOD) (N := 25) hx hb hT in_MOD hown hK hP 0 rfl rfl 8 (by decide) (hT _ wd_590) (fun _ h9 => h9) rfl d_MOD_permanent_11 ?_
  refine lv_icmp_ge (tgt := 47) hx hb d_MOD_permanent_14 (by decide) (fun c_14 => ?_) (fun c_14 => ?_)
  · have hge : nC ≤ k := (nI_leI (by omega) (by omega)).mp c_14
    have hke : k = nC := by omega
    refine lv_iconst (v := 0) hx hb d_MOD_permanent_47 (by decide) ?_
    have hq9 : (.int (mpF gN gL pi nC nC 0)) = (.int 0 : Value) := by rw [← hpm, hke, Nat.sub_self]; rfl
    exact W.iret (v := 0) hx hb hr (fun t ht hW => ⟨⟨by rw [hq9], by rw [ht]; exact hP, by rw [hAe]; exact hD⟩, by rw [hAe]; exact hS.F ht⟩) hS.2.2 d_MOD_permanent_48
  · have hk : k < nC := Nat.not_le.mp (fun z => c_14 (nI_le z (by omega)))
    refine lv_aload_n hx hb d_MOD_permanent_17 rfl (lv_at hl 0 rfl) ?_
    refine va_get (D := G.1) (ci := 6) (v := .ref z11) (C := R_MOD) (T := T_MOD) (N := 25) hx hb hT in_MOD hown hK hP 0 rfl rfl 13 (by decide) (hT _ wd_595) (fun _ h9 => h9) rfl d_MOD_permanent_18 ?_
    refine lv_iload_n hx hb d_MOD_permanent_21 rfl (lv_at hl 3 rfl) ?_
    refine va_zald hx hb hK hP 2 3 rfl rfl (vp_in_nI (by omega) (by omega)) d_MOD_permanent_22 ?_
    refine W.eq (g2 := F0 m 23 ls (.int (gL k) :: [])) (by rw [nI_clamp (by omega)]) ?_
    refine lv_if_eq (tgt := 41) hx hb d_MOD_permanent_23 (by decide) (fun c_23 => ?_) (fun c_23 => ?_)
    · refine lv_iinc (v := nI (k + 1)) (lv' := [(3, .int (nI (k + 1))), (0, .ref z0), (1, .int pi), (2, .int bf)]) hx hb d_MOD_permanent_41 hl (k := 3) rfl (nI_succ _).symm (by decide) rfl (fun ls hl => ?_)
      refine lv_goto (tgt := 9) hx hb d_MOD_permanent_44 (by decide) ?_
      exact ih ((k + 1), bf) _ _ _ ⟨hk, by rw [← hpm, mpF_step _ _ hk]; simp [c_14, c_23], hP, hD, hS, lv_sub hl [1, 2, 3, 0] rfl⟩ (by show nC - (k + 1) < nC - k; omega)
    · refine lv_iload_n hx hb d_MOD_permanent_26 rfl (lv_at hl 2 rfl) ?_
      refine lv_iload_n hx hb d_MOD_permanent_27 rfl (lv_at hl 1 rfl) ?_
      refine lv_icmp_ne (tgt := 38) hx hb d_MOD_permanent_28 (by decide) (fun c_28 => ?_) (fun c_28 => ?_)
      · refine lv_iinc (v := bf + 1) (lv' := [(2, .int (bf + 1)), (0, .ref z0), (1, .int pi), (3, .int (nI k))]) hx hb d_MOD_permanent_38 hl (k := 2) rfl rfl (by decide) rfl (fun ls hl => ?_)
        refine lv_iinc (v := nI (k + 1)) (lv' := [(3, .int (nI (k + 1))), (2, .int (bf + 1)), (0, .ref z0), (1, .int pi)]) hx hb d_MOD_permanent_41 hl (k := 3) rfl (nI_succ _).symm (by decide) rfl (fun ls hl => ?_)
        refine lv_goto (tgt := 9) hx hb d_MOD_permanent_44 (by decide) ?_
        exact ih ((k + 1), bf + 1) _ _ _ ⟨hk, by rw [← hpm, mpF_step _ _ hk]; simp [c_14, c_23, c_28], hP, hD, hS, lv_sub hl [2, 3, 1, 0] rfl⟩ (by show nC - (k + 1) < nC - k; omega)
      · refine lv_aload_n hx hb d_MOD_permanent_31 rfl (lv_at hl 0 rfl) ?_
        refine va_get (D := G.1) (ci := 6) (v := .ref z7) (C := R_MOD) (T := T_MOD) (N := 25) hx hb hT in_MOD hown hK hP 0 rfl rfl 9 (by decide) (hT _ wd_591) (fun _ h9 => h9) rfl d_MOD_permanent_32 ?_
        refine lv_iload_n hx hb d_MOD_permanent_35 rfl (lv_at hl 3 rfl) ?_
        refine va_iald hx hb hK hP 1 2 rfl rfl (vp_in_nI (by omega) (by omega)) d_MOD_permanent_36 ?_
        refine W.eq (g2 := F0 m 37 ls (.int (gN k) :: [])) (by rw [nI_clamp (by omega)]) ?_
        have hq9 : (.int (mpF gN gL pi nC nC 0)) = (.int (gN k) : Value) := by rw [← hpm, mpF_step _ _ hk]; simp [c_23, c_28]
        exact W.iret (v := gN k) hx hb hr (fun t ht hW => ⟨⟨by rw [hq9], by rw [ht]; exact hP, by rw [hAe]; exact hD⟩, by rw [hAe]; exact hS.F ht⟩) hS.2.2 d_MOD_permanent_37
set_option maxHeartbeats 4000000 in
set_option maxRecDepth 100000 in
theorem c_mlamp (l : Launch) (G : GG) (sz : Nat) (z0 : Nat) (z1 : Nat) (z2 : Nat) (z3 : Nat) (z4 : Nat) (z5 : Nat) (z6 : Nat) (z7 : Nat) (z8 : Nat) (z9 : Nat) (z10 : Nat) (z11 : Nat) (z12 : Nat) (z13 : Nat) (z14 : Nat) (z15 : Nat) (z16 : Nat) (z17 : Nat) (cdv : Int32) (cyc : Int32) (li : Int32) (nM : Nat) (nC : Nat) (sn : Nat) (me : Int64) (mi : Int64) (xm : Int64) (xi : Int64)  : Met l y_MOD_lamp w_MOD_lamp ({ frames := 1, cells := 0, slots := 0, locals := 25 }) (va_Pc [.ref z0, .long xm, .long xi] (Pw G sz [(z0, .inr (6, [.int cdv, .int (nI nM), .ref z1, .ref z2, .ref z3, .ref z4, .ref z5, .ref z6, .int (nI nC), .ref z7, .ref z8, .ref z9, .ref z10, .ref z11, .ref z12, .ref z13, .ref z14, .ref z15, .ref z16, .int cyc, .int li, .long me, .long mi, .int (nI sn), .ref z17]))])) (QW G (some (.int (mlR xm xi li))) [(z0, .inr (6, [.int cdv, .int (nI nM), .ref z1, .ref z2, .ref z3, .ref z4, .ref z5, .ref z6, .int (nI nC), .ref z7, .ref z8, .ref z9, .ref z10, .ref z11, .ref z12, .ref z13, .ref z14, .ref z15, .ref z16, .int cyc, .int li, .long me, .long mi, .int (nI sn), .ref z17]))] [(z0, .inr (6, [.int 0, .int (nI nM), .ref z1, .ref z2, .ref z3, .ref z4, .ref z5, .ref z6, .int (nI nC), .ref z7, .ref z8, .ref z9, .ref z10, .ref z11, .ref z12, .ref z13, .ref z14, .ref z15, .ref z16, .int cyc, .int li, .long (mlX xm xi li me xm), .long (mlX xm xi li mi xi), .int (nI sn), .ref z17]))] sz) 0 0 (va_A [(z0, .inr (6, [.int cdv, .int (nI nM), .ref z1, .ref z2, .ref z3, .ref z4, .ref z5, .ref z6, .int (nI nC), .ref z7, .ref z8, .ref z9, .ref z10, .ref z11, .ref z12, .ref z13, .ref z14, .ref z15, .ref z16, .int cyc, .int li, .long me, .long mi, .int (nI sn), .ref z17]))] sz) := by
  refine Met.ofW (cc := b_MOD_lamp) (maxL := 5) (ret := (some .int)) (by decide) rfl ?_
  intro p e s m args below meth c s₁ B hml hv
  obtain ⟨rfl, hsz, hP, hGK, hD0⟩ := hv
  have hx := B.exec
  have hb := B.bytes
  have hr := B.returns
  have hts := atoms_spec (ws := w_MOD_lamp) B.pre
  have hT : ∀ w ∈ lwG, w.before _ s = true := fun w h => hts w (List.mem_cons_of_mem _ h)
  have hown : s.vm.findClass R_MOD = some m.cls := findClass_of_methodNamed B.named
  have hlocks := B.notSynchronized
  have hK := hGK.1
  have hN := hGK.2
  subst hsz
  have hD := hD0.self (sz := s.heap.size)
  generalize hAe : va_A [(z0, .inr (6, [.int cdv, .int (nI nM), .ref z1, .ref z2, .ref z3, .ref z4, .ref z5, .ref z6, .int (nI nC), .ref z7, .ref z8, .ref z9, .ref z10, .ref z11, .ref z12, .ref z13, .ref z14, .ref z15, .ref z16, .int cyc, .int li, .long me, .long mi, .int (nI sn), .ref z17]))] s.heap.size = A at hD ⊢
  have hA : ∀ q : Nat, s.heap.size ≤ q → A q := fun q h => by rw [← hAe]; exact Or.inr h
  have hS : va_S A s.heap s.heap [] := va_S.rf
  have hP : va_P G.1 vwCl [(z0, .inr (6, [.int cdv, .int (nI nM), .ref z1, .ref z2, .ref z3, .ref z4, .ref z5, .ref z6, .int (nI nC), .ref z7, .ref z8, .ref z9, .ref z10, .ref z11, .ref z12, .ref z13, .ref z14, .ref z15, .ref z16, .int cyc, .int li, .long me, .long mi, .int (nI sn), .ref z17]))] s.heap := hP
  have hl := lv_entry ([.ref z0, .long xm, .long xi]) (n := 5) (Nat.le_of_ble_eq_true rfl)
  rw [lg_entry_eq]
  generalize (lg_sl ([.ref z0, .long xm, .long xi]) ++ List.replicate (5 - (lg_sl ([.ref z0, .long xm, .long xi])).length) Slot.unset).toArray = ls at hl ⊢
  have hl : lv_has ls 5 [(0, .ref z0), (1, .long xm), (3, .long xi)] := hl
  refine lv_aload_n hx hb d_MOD_lamp_0 rfl (lv_at hl 0 rfl) ?_
  refine lv_iconst (v := 0) hx hb d_MOD_lamp_1 (by decide) ?_
  refine va_put (D := G.1) (ci := 6) (v := .int 0) (ty := .int) (C := R_MOD) (T := T_MOD) (N := 25) hx hb hT in_MOD t_MOD tok_MOD nok_MOD hown hK hP hD hS 0 rfl rfl 0 (by decide) (hT _ wd_582) (fun _ h9 => h9) rfl (by decide +kernel) rfl rfl (Nat.le_of_ble_eq_true rfl) d_MOD_lamp_2 (fun H locs hP hD hS => ?_)
  have hP : va_P G.1 vwCl [(z0, .inr (6, [.int 0, .int (nI nM), .ref z1, .ref z2, .ref z3, .ref z4, .ref z5, .ref z6, .int (nI nC), .ref z7, .ref z8, .ref z9, .ref z10, .ref z11, .ref z12, .ref z13, .ref z14, .ref z15, .ref z16, .int cyc, .int li, .long me, .long mi, .int (nI sn), .ref z17]))] H := hP
  have hD : va_D A [(z0, .inr (6, [.int 0, .int (nI nM), .ref z1, .ref z2, .ref z3, .ref z4, .ref z5, .ref z6, .int (nI nC), .ref z7, .ref z8, .ref z9, .ref z10, .ref z11, .ref z12, .ref z13, .ref z14, .ref z15, .ref z16, .int cyc, .int li, .long me, .long mi, .int (nI sn), .ref z17]))] := hD
  refine lv_lload_n hx hb d_MOD_lamp_5 rfl (lv_at hl 1 rfl) ?_
  refine lv_lconst (v := 0) hx hb d_MOD_lamp_6 (by decide) ?_
  refine lv_ldc2 (v := 1000000000) hx hb hown (hT _ wd_731) d_MOD_lamp_7 ?_
  refine bx_callV (W.runS (As := [.long xm, .long 0, .long 1000000000]) (rest := []) ⟨hx, hb, hml, hown, hts⟩ (c_isIn l G xm 0 1000000000) ⟨(callB_of 3 hts (gi_all wd_671) rfl rfl rfl (hT _ wd_51) (hT _ wd_669) (by decide +kernel) ⟨Nat.le_of_ble_eq_true rfl, Nat.le_of_ble_eq_true rfl⟩), (hT _ wd_670)⟩ (psR bx_nil hGK) rfl rfl hl.1 rfl (lv_room (Nat.le_of_ble_eq_true rfl)) d_MOD_lamp_10 ⟨Nat.le_of_ble_eq_true rfl, Nat.le_of_ble_eq_true rfl⟩) ?_
  refine lv_if_eq (tgt := 27) hx hb d_MOD_lamp_13 (by decide) (fun c_13 => ?_) (fun c_13 => ?_)
  · refine lv_bipush (v := (-2)) hx hb d_MOD_lamp_27 (by decide) ?_
    have hw9 : ([(z0, .inr (6, [.int 0, .int (nI nM), .ref z1, .ref z2, .ref z3, .ref z4, .ref z5, .ref z6, .int (nI nC), .ref z7, .ref z8, .ref z9, .ref z10, .ref z11, .ref z12, .ref z13, .ref z14, .ref z15, .ref z16, .int cyc, .int li, .long (mlX xm xi li me xm), .long (mlX xm xi li mi xi), .int (nI sn), .ref z17]))] : va_W) = [(z0, .inr (6, [.int 0, .int (nI nM), .ref z1, .ref z2, .ref z3, .ref z4, .ref z5, .ref z6, .int (nI nC), .ref z7, .ref z8, .ref z9, .ref z10, .ref z11, .ref z12, .ref z13, .ref z14, .ref z15, .ref z16, .int cyc, .int li, .long me, .long mi, .int (nI sn), .ref z17]))] := by first | (simp [mlR, mlX, mlB, c_13]; done) | (simp_all [mlR, mlX, mlB]; done)
    rw [← hw9] at hP hD
    have hq9 : (.int (mlR xm xi li)) = (.int (-2) : Value) := by first | (simp [mlR, mlX, mlB, c_13]; done) | (simp_all [mlR, mlX, mlB]; done)
    exact W.iret (v := (-2)) hx hb hr (fun t ht hW => ⟨⟨by rw [hq9], by rw [ht]; exact hP, by rw [hAe]; exact hD⟩, by rw [hAe]; exact hS.F ht⟩) hS.2.2 d_MOD_lamp_29
  · refine lv_lload_n hx hb d_MOD_lamp_16 rfl (lv_at hl 2 rfl) ?_
    refine lv_lconst (v := 0) hx hb d_MOD_lamp_17 (by decide) ?_
    refine lv_ldc2 (v := 1000000000) hx hb hown (hT _ wd_731) d_MOD_lamp_18 ?_
    refine bx_callV (W.runS (As := [.long xi, .long 0, .long 1000000000]) (rest := []) ⟨hx, hb, hml, hown, hts⟩ (c_isIn l G xi 0 1000000000) ⟨(callB_of 3 hts (gi_all wd_671) rfl rfl rfl (hT _ wd_51) (hT _ wd_669) (by decide +kernel) ⟨Nat.le_of_ble_eq_true rfl, Nat.le_of_ble_eq_true rfl⟩), (hT _ wd_670)⟩ (psR bx_nil hGK) rfl rfl hl.1 rfl (lv_room (Nat.le_of_ble_eq_true rfl)) d_MOD_lamp_21 ⟨Nat.le_of_ble_eq_true rfl, Nat.le_of_ble_eq_true rfl⟩) ?_
    refine lv_if_ne (tgt := 30) hx hb d_MOD_lamp_24 (by decide) (fun c_24 => ?_) (fun c_24 => ?_)
    · refine lv_aload_n hx hb d_MOD_lamp_30 rfl (lv_at hl 0 rfl) ?_
      refine va_get (D := G.1) (ci := 6) (v := .int li) (C := R_MOD) (T := T_MOD) (N := 25) hx hb hT in_MOD hown hK hP 0 rfl rfl 20 (by decide) (hT _ wd_602) (fun _ h9 => h9) rfl d_MOD_lamp_31 ?_
      refine lv_if_ne (tgt := 39) hx hb d_MOD_lamp_34 (by decide) (fun c_34 => ?_) (fun c_34 => ?_)
      · refine lv_aload_n hx hb d_MOD_lamp_39 rfl (lv_at hl 0 rfl) ?_
        refine lv_dup hx hb d_MOD_lamp_40 rfl ?_
        refine va_get (D := G.1) (ci := 6) (v := .long me) (C := R_MOD) (T := T_MOD) (N := 25) hx hb hT in_MOD hown hK hP 0 rfl rfl 21 (by decide) (hT _ wd_603) (fun _ h9 => h9) rfl d_MOD_lamp_41 ?_
        refine lv_lload_n hx hb d_MOD_lamp_44 rfl (lv_at hl 1 rfl) ?_
        refine lv_ladd hx hb d_MOD_lamp_45 ?_
        refine va_put (D := G.1) (ci := 6) (v := .long (me + xm)) (ty := .long) (C := R_MOD) (T := T_MOD) (N := 25) hx hb hT in_MOD t_MOD tok_MOD nok_MOD hown hK hP hD hS 0 rfl rfl 21 (by decide) (hT _ wd_603) (fun _ h9 => h9) rfl (by decide +kernel) rfl rfl (Nat.le_of_ble_eq_true rfl) d_MOD_lamp_46 (fun H locs hP hD hS => ?_)
        have hP : va_P G.1 vwCl [(z0, .inr (6, [.int 0, .int (nI nM), .ref z1, .ref z2, .ref z3, .ref z4, .ref z5, .ref z6, .int (nI nC), .ref z7, .ref z8, .ref z9, .ref z10, .ref z11, .ref z12, .ref z13, .ref z14, .ref z15, .ref z16, .int cyc, .int li, .long (me + xm), .long mi, .int (nI sn), .ref z17]))] H := hP
        have hD : va_D A [(z0, .inr (6, [.int 0, .int (nI nM), .ref z1, .ref z2, .ref z3, .ref z4, .ref z5, .ref z6, .int (nI nC), .ref z7, .ref z8, .ref z9, .ref z10, .ref z11, .ref z12, .ref z13, .ref z14, .ref z15, .ref z16, .int cyc, .int li, .long (me + xm), .long mi, .int (nI sn), .ref z17]))] := hD
        refine lv_aload_n hx hb d_MOD_lamp_49 rfl (lv_at hl 0 rfl) ?_
        refine lv_dup hx hb d_MOD_lamp_50 rfl ?_
        refine va_get (D := G.1) (ci := 6) (v := .long mi) (C := R_MOD) (T := T_MOD) (N := 25) hx hb hT in_MOD hown hK hP 0 rfl rfl 22 (by decide) (hT _ wd_604) (fun _ h9 => h9) rfl d_MOD_lamp_51 ?_
        refine lv_lload_n hx hb d_MOD_lamp_54 rfl (lv_at hl 2 rfl) ?_
        refine lv_ladd hx hb d_MOD_lamp_55 ?_
        refine va_put (D := G.1) (ci := 6) (v := .long (mi + xi)) (ty := .long) (C := R_MOD) (T := T_MOD) (N := 25) hx hb hT in_MOD t_MOD tok_MOD nok_MOD hown hK hP hD hS 0 rfl rfl 22 (by decide) (hT _ wd_604) (fun _ h9 => h9) rfl (by decide +kernel) rfl rfl (Nat.le_of_ble_eq_true rfl) d_MOD_lamp_56 (fun H locs hP hD hS => ?_)
        have hP : va_P G.1 vwCl [(z0, .inr (6, [.int 0, .int (nI nM), .ref z1, .ref z2, .ref z3, .ref z4, .ref z5, .ref z6, .int (nI nC), .ref z7, .ref z8, .ref z9, .ref z10, .ref z11, .ref z12, .ref z13, .ref z14, .ref z15, .ref z16, .int cyc, .int li, .long (me + xm), .long (mi + xi), .int (nI sn), .ref z17]))] H := hP
        have hD : va_D A [(z0, .inr (6, [.int 0, .int (nI nM), .ref z1, .ref z2, .ref z3, .ref z4, .ref z5, .ref z6, .int (nI nC), .ref z7, .ref z8, .ref z9, .ref z10, .ref z11, .ref z12, .ref z13, .ref z14, .ref z15, .ref z16, .int cyc, .int li, .long (me + xm), .long (mi + xi), .int (nI sn), .ref z17]))] := hD
        refine lv_iconst (v := 1) hx hb d_MOD_lamp_59 (by decide) ?_
        have hw9 : ([(z0, .inr (6, [.int 0, .int (nI nM), .ref z1, .ref z2, .ref z3, .ref z4, .ref z5, .ref z6, .int (nI nC), .ref z7, .ref z8, .ref z9, .ref z10, .ref z11, .ref z12, .ref z13, .ref z14, .ref z15, .ref z16, .int cyc, .int li, .long (mlX xm xi li me xm), .long (mlX xm xi li mi xi), .int (nI sn), .ref z17]))] : va_W) = [(z0, .inr (6, [.int 0, .int (nI nM), .ref z1, .ref z2, .ref z3, .ref z4, .ref z5, .ref z6, .int (nI nC), .ref z7, .ref z8, .ref z9, .ref z10, .ref z11, .ref z12, .ref z13, .ref z14, .ref z15, .ref z16, .int cyc, .int li, .long (me + xm), .long (mi + xi), .int (nI sn), .ref z17]))] := by first | (simp [mlR, mlX, mlB, c_13, c_24, c_34]; done) | (simp_all [mlR, mlX, mlB]; done)
        rw [← hw9] at hP hD
        have hq9 : (.int (mlR xm xi li)) = (.int 1 : Value) := by first | (simp [mlR, mlX, mlB, c_13, c_24, c_34]; done) | (simp_all [mlR, mlX, mlB]; done)
        exact W.iret (v := 1) hx hb hr (fun t ht hW => ⟨⟨by rw [hq9], by rw [ht]; exact hP, by rw [hAe]; exact hD⟩, by rw [hAe]; exact hS.F ht⟩) hS.2.2 d_MOD_lamp_60
      · refine lv_iconst (v := 0) hx hb d_MOD_lamp_37 (by decide) ?_
        have hw9 : ([(z0, .inr (6, [.int 0, .int (nI nM), .ref z1, .ref z2, .ref z3, .ref z4, .ref z5, .ref z6, .int (nI nC), .ref z7, .ref z8, .ref z9, .ref z10, .ref z11, .ref z12, .ref z13, .ref z14, .ref z15, .ref z16, .int cyc, .int li, .long (mlX xm xi li me xm), .long (mlX xm xi li mi xi), .int (nI sn), .ref z17]))] : va_W) = [(z0, .inr (6, [.int 0, .int (nI nM), .ref z1, .ref z2, .ref z3, .ref z4, .ref z5, .ref z6, .int (nI nC), .ref z7, .ref z8, .ref z9, .ref z10, .ref z11, .ref z12, .ref z13, .ref z14, .ref z15, .ref z16, .int cyc, .int li, .long me, .long mi, .int (nI sn), .ref z17]))] := by first | (simp [mlR, mlX, mlB, c_13, c_24, c_34]; done) | (simp_all [mlR, mlX, mlB]; done)
        rw [← hw9] at hP hD
        have hq9 : (.int (mlR xm xi li)) = (.int 0 : Value) := by first | (simp [mlR, mlX, mlB, c_13, c_24, c_34]; done) | (simp_all [mlR, mlX, mlB]; done)
        exact W.iret (v := 0) hx hb hr (fun t ht hW => ⟨⟨by rw [hq9], by rw [ht]; exact hP, by rw [hAe]; exact hD⟩, by rw [hAe]; exact hS.F ht⟩) hS.2.2 d_MOD_lamp_38
    · refine lv_bipush (v := (-2)) hx hb d_MOD_lamp_27 (by decide) ?_
      have hw9 : ([(z0, .inr (6, [.int 0, .int (nI nM), .ref z1, .ref z2, .ref z3, .ref z4, .ref z5, .ref z6, .int (nI nC), .ref z7, .ref z8, .ref z9, .ref z10, .ref z11, .ref z12, .ref z13, .ref z14, .ref z15, .ref z16, .int cyc, .int li, .long (mlX xm xi li me xm), .long (mlX xm xi li mi xi), .int (nI sn), .ref z17]))] : va_W) = [(z0, .inr (6, [.int 0, .int (nI nM), .ref z1, .ref z2, .ref z3, .ref z4, .ref z5, .ref z6, .int (nI nC), .ref z7, .ref z8, .ref z9, .ref z10, .ref z11, .ref z12, .ref z13, .ref z14, .ref z15, .ref z16, .int cyc, .int li, .long me, .long mi, .int (nI sn), .ref z17]))] := by first | (simp [mlR, mlX, mlB, c_13, c_24]; done) | (simp_all [mlR, mlX, mlB]; done)
      rw [← hw9] at hP hD
      have hq9 : (.int (mlR xm xi li)) = (.int (-2) : Value) := by first | (simp [mlR, mlX, mlB, c_13, c_24]; done) | (simp_all [mlR, mlX, mlB]; done)
      exact W.iret (v := (-2)) hx hb hr (fun t ht hW => ⟨⟨by rw [hq9], by rw [ht]; exact hP, by rw [hAe]; exact hD⟩, by rw [hAe]; exact hS.F ht⟩) hS.2.2 d_MOD_lamp_29
set_option maxHeartbeats 4000000 in
set_option maxRecDepth 100000 in
theorem c_mfreeze (l : Launch) (G : GG) (sz : Nat) (z0 : Nat) (z1 : Nat) (z2 : Nat) (z3 : Nat) (z4 : Nat) (z5 : Nat) (z6 : Nat) (z7 : Nat) (z8 : Nat) (z9 : Nat) (z10 : Nat) (z11 : Nat) (z12 : Nat) (z13 : Nat) (z14 : Nat) (z15 : Nat) (z16 : Nat) (z17 : Nat) (cdv : Int32) (cyc : Int32) (li : Int32) (nM : Nat) (nC : Nat) (sn : Nat) (me : Int64) (mi : Int64) (gN : Nat → Int32) (gW : Nat → Int32) (gC : Nat → Int32) (gD : Nat → Int32) (fi : Int32) (hn : nC ≤ 20) : Met l y_MOD_freeze w_MOD_freeze ({ frames := 1, cells := 0, slots := 0, locals := 25 }) (va_Pc [.ref z0, .int fi] (Pw G sz [(z0, .inr (6, [.int cdv, .int (nI nM), .ref z1, .ref z2, .ref z3, .ref z4, .ref z5, .ref z6, .int (nI nC), .ref z7, .ref z8, .ref z9, .ref z10, .ref z11, .ref z12, .ref z13, .ref z14, .ref z15, .ref z16, .int cyc, .int li, .long me, .long mi, .int (nI sn), .ref z17])), (z7, .inl (G.2 2, 20, .inl gN)), (z14, .inl (G.2 3, 20, .inl gW)), (z15, .inl (G.2 2, 20, .inl gC)), (z16, .inl (G.2 2, 20, .inl gD))])) (QW G (some (.int (mfz gN gW gC gD nC mi fi))) [(z0, .inr (6, [.int cdv, .int (nI nM), .ref z1, .ref z2, .ref z3, .ref z4, .ref z5, .ref z6, .int (nI nC), .ref z7, .ref z8, .ref z9, .ref z10, .ref z11, .ref z12, .ref z13, .ref z14, .ref z15, .ref z16, .int cyc, .int li, .long me, .long mi, .int (nI sn), .ref z17])), (z7, .inl (G.2 2, 20, .inl gN)), (z14, .inl (G.2 3, 20, .inl gW)), (z15, .inl (G.2 2, 20, .inl gC)), (z16, .inl (G.2 2, 20, .inl gD))] [(z0, .inr (6, [.int 0, .int (nI nM), .ref z1, .ref z2, .ref z3, .ref z4, .ref z5, .ref z6, .int (nI nC), .ref z7, .ref z8, .ref z9, .ref z10, .ref z11, .ref z12, .ref z13, .ref z14, .ref z15, .ref z16, .int cyc, .int li, .long me, .long mi, .int (nI sn), .ref z17])), (z7, .inl (G.2 2, 20, .inl gN)), (z14, .inl (G.2 3, 20, .inl gW)), (z15, .inl (G.2 2, 20, .inl gC)), (z16, .inl (G.2 2, 20, .inl gD))] sz) 0 0 (va_A [(z0, .inr (6, [.int cdv, .int (nI nM), .ref z1, .ref z2, .ref z3, .ref z4, .ref z5, .ref z6, .int (nI nC), .ref z7, .ref z8, .ref z9, .ref z10, .ref z11, .ref z12, .ref z13, .ref z14, .ref z15, .ref z16, .int cyc, .int li, .long me, .long mi, .int (nI sn), .ref z17])), (z7, .inl (G.2 2, 20, .inl gN)), (z14, .inl (G.2 3, 20, .inl gW)), (z15, .inl (G.2 2, 20, .inl gC)), (z16, .inl (G.2 2, 20, .inl gD))] sz) := by
  refine Met.ofW (cc := b_MOD_freeze) (maxL := 3) (ret := (some .int)) (by decide) rfl ?_
  intro p e s m args below meth c s₁ B hml hv
  obtain ⟨rfl, hsz, hP, hGK, hD0⟩ := hv
  have hx := B.exec
  have hb := B.bytes
  have hr := B.returns
  have hts := atoms_spec (ws := w_MOD_freeze) B.pre
  have hT : ∀ w ∈ lwG, w.before _ s = true := fun w h => hts w (List.mem_cons_of_mem _ h)
  have hown : s.vm.findClass R_MOD = some m.cls := findClass_of_methodNamed B.named
  have hlocks := B.notSynchronized
  have hK := hGK.1
  have hN := hGK.2
  subst hsz
  have hD := hD0.self (sz := s.heap.size)
  generalize hAe : va_A [(z0, .inr (6, [.int cdv, .int (nI nM), .ref z1, .ref z2, .ref z3, .ref z4, .ref z5, .ref z6, .int (nI nC), .ref z7, .ref z8, .ref z9, .ref z10, .ref z11, .ref z12, .ref z13, .ref z14, .ref z15, .ref z16, .int cyc, .int li, .long me, .long mi, .int (nI sn), .ref z17])), (z7, .inl (G.2 2, 20, .inl gN)), (z14, .inl (G.2 3, 20, .inl gW)), (z15, .inl (G.2 2, 20, .inl gC)), (z16, .inl (G.2 2, 20, .inl gD))] s.heap.size = A at hD ⊢
  have hA : ∀ q : Nat, s.heap.size ≤ q → A q := fun q h => by rw [← hAe]; exact Or.inr h
  have hS : va_S A s.heap s.heap [] := va_S.rf
  have hP : va_P G.1 vwCl [(z0, .inr (6, [.int cdv, .int (nI nM), .ref z1, .ref z2, .ref z3, .ref z4, .ref z5, .ref z6, .int (nI nC), .ref z7, .ref z8, .ref z9, .ref z10, .ref z11, .ref z12, .ref z13, .ref z14, .ref z15, .ref z16, .int cyc, .int li, .long me, .long mi, .int (nI sn), .ref z17])), (z7, .inl (G.2 2, 20, .inl gN)), (z14, .inl (G.2 3, 20, .inl gW)), (z15, .inl (G.2 2, 20, .inl gC)), (z16, .inl (G.2 2, 20, .inl gD))] s.heap := hP
  have hl := lv_entry ([.ref z0, .int fi]) (n := 3) (Nat.le_of_ble_eq_true rfl)
  rw [lg_entry_eq]
  generalize (lg_sl ([.ref z0, .int fi]) ++ List.replicate (3 - (lg_sl ([.ref z0, .int fi])).length) Slot.unset).toArray = ls at hl ⊢
  have hl : lv_has ls 3 [(0, .ref z0), (1, .int fi)] := hl
  refine lv_aload_n hx hb d_MOD_freeze_0 rfl (lv_at hl 0 rfl) ?_
  refine lv_iconst (v := 0) hx hb d_MOD_freeze_1 (by decide) ?_
  refine va_put (D := G.1) (ci := 6) (v := .int 0) (ty := .int) (C := R_MOD) (T := T_MOD) (N := 25) hx hb hT in_MOD t_MOD tok_MOD nok_MOD hown hK hP hD hS 0 rfl rfl 0 (by decide) (hT _ wd_582) (fun _ h9 => h9) rfl (by decide +kernel) rfl rfl (Nat.le_of_ble_eq_true rfl) d_MOD_freeze_2 (fun H locs hP hD hS => ?_)
  have hP : va_P G.1 vwCl [(z0, .inr (6, [.int 0, .int (nI nM), .ref z1, .ref z2, .ref z3, .ref z4, .ref z5, .ref z6, .int (nI nC), .ref z7, .ref z8, .ref z9, .ref z10, .ref z11, .ref z12, .ref z13, .ref z14, .ref z15, .ref z16, .int cyc, .int li, .long me, .long mi, .int (nI sn), .ref z17])), (z7, .inl (G.2 2, 20, .inl gN)), (z14, .inl (G.2 3, 20, .inl gW)), (z15, .inl (G.2 2, 20, .inl gC)), (z16, .inl (G.2 2, 20, .inl gD))] H := hP
  have hD : va_D A [(z0, .inr (6, [.int 0, .int (nI nM), .ref z1, .ref z2, .ref z3, .ref z4, .ref z5, .ref z6, .int (nI nC), .ref z7, .ref z8, .ref z9, .ref z10, .ref z11, .ref z12, .ref z13, .ref z14, .ref z15, .ref z16, .int cyc, .int li, .long me, .long mi, .int (nI sn), .ref z17])), (z7, .inl (G.2 2, 20, .inl gN)), (z14, .inl (G.2 3, 20, .inl gW)), (z15, .inl (G.2 2, 20, .inl gC)), (z16, .inl (G.2 2, 20, .inl gD))] := hD
  refine lv_iload_n hx hb d_MOD_freeze_5 rfl (lv_at hl 1 rfl) ?_
  refine lv_i2l (v := fi.toInt64) hx hb d_MOD_freeze_6 rfl ?_
  refine lv_lconst (v := 0) hx hb d_MOD_freeze_7 (by decide) ?_
  refine lv_ldc2 (v := 3) hx hb hown (hT _ wd_668) d_MOD_freeze_8 ?_
  refine bx_callV (W.runS (As := [.long fi.toInt64, .long 0, .long 3]) (rest := []) ⟨hx, hb, hml, hown, hts⟩ (c_isIn l G fi.toInt64 0 3) ⟨(callB_of 3 hts (gi_all wd_671) rfl rfl rfl (hT _ wd_51) (hT _ wd_669) (by decide +kernel) ⟨Nat.le_of_ble_eq_true rfl, Nat.le_of_ble_eq_true rfl⟩), (hT _ wd_670)⟩ (psR bx_nil hGK) rfl rfl hl.1 rfl (lv_room (Nat.le_of_ble_eq_true rfl)) d_MOD_freeze_11 ⟨Nat.le_of_ble_eq_true rfl, Nat.le_of_ble_eq_true rfl⟩) ?_
  refine lv_if_ne (tgt := 20) hx hb d_MOD_freeze_14 (by decide) (fun c_14 => ?_) (fun c_14 => ?_)
  · refine lv_iload_n hx hb d_MOD_freeze_20 rfl (lv_at hl 1 rfl) ?_
    refine lv_iconst (v := 3) hx hb d_MOD_freeze_21 (by decide) ?_
    refine lv_icmp_ne (tgt := 33) hx hb d_MOD_freeze_22 (by decide) (fun c_22 => ?_) (fun c_22 => ?_)
    · refine lv_aload_n hx hb d_MOD_freeze_33 rfl (lv_at hl 0 rfl) ?_
      have hPc := hP.sub (ws' := [(z0, .inr (6, [.int 0, .int (nI nM), .ref z1, .ref z2, .ref z3, .ref z4, .ref z5, .ref z6, .int (nI nC), .ref z7, .ref z8, .ref z9, .ref z10, .ref z11, .ref z12, .ref z13, .ref z14, .ref z15, .ref z16, .int cyc, .int li, .long me, .long mi, .int (nI sn), .ref z17])), (z14, .inl (G.2 3, 20, .inl gW))]) [0, 2] rfl
      refine bx_callV (W.runV (As := []) (rest := []) ⟨hx, hb, hml, hown, hts⟩ (c_mfirstFrozen l G z0 z1 z2 z3 z4 z5 z6 z7 z8 z9 z10 z11 z12 z13 z14 z15 z16 z17 0 cyc li nM nC sn me mi gW (by assumption)) ⟨(callB_of 0 hts (gi_all wd_743) rfl rfl rfl (hT _ wd_51) (hT _ wd_740) (by decide +kernel) ⟨Nat.le_of_ble_eq_true rfl, Nat.le_of_ble_eq_true rfl⟩), (hT _ wd_742), (hT _ wd_38)⟩ (pvR hPc hGK (va_recv hK hPc (ci := 6) (q0 := 0) rfl rfl)) rfl rfl hl.1 rfl (lv_room (Nat.le_of_ble_eq_true rfl)) d_MOD_freeze_34 ⟨Nat.le_of_ble_eq_true rfl, Nat.le_of_ble_eq_true rfl⟩) ?_
      refine lv_istore_n (lv' := [(2, .int (nI (fzF gW nC nC))), (0, .ref z0), (1, .int fi)]) hx hb d_MOD_freeze_37 rfl hl (by decide) rfl (fun ls hl => ?_)
      refine lv_iload_n hx hb d_MOD_freeze_38 rfl (lv_at hl 0 rfl) ?_
      refine lv_aload_n hx hb d_MOD_freeze_39 rfl (lv_at hl 1 rfl) ?_
      refine va_get (D := G.1) (ci := 6) (v := .int (nI nC)) (C := R_MOD) (T := T_MOD) (N := 25) hx hb hT in_MOD hown hK hP 0 rfl rfl 8 (by decide) (hT _ wd_590) (fun _ h9 => h9) rfl d_MOD_freeze_40 ?_
      refine lv_icmp_ne (tgt := 50) hx hb d_MOD_freeze_43 (by decide) (fun c_43 => ?_) (fun c_43 => ?_)
      · have hfl := fzF_le (gW := gW) (n := nC) nC
        have hflt : fzF gW nC nC < nC := Nat.lt_of_le_of_ne hfl (fun z => c_43 (by rw [z]))
        refine lv_iload_n hx hb d_MOD_freeze_50 rfl (lv_at hl 2 rfl) ?_
        refine lv_if_ne (tgt := 63) hx hb d_MOD_freeze_51 (by decide) (fun c_51 => ?_) (fun c_51 => ?_)
        · refine lv_iload_n hx hb d_MOD_freeze_63 rfl (lv_at hl 2 rfl) ?_
          refine lv_iconst (v := 1) hx hb d_MOD_freeze_64 (by decide) ?_
          refine lv_icmp_ne (tgt := 77) hx hb d_MOD_freeze_65 (by decide) (fun c_65 => ?_) (fun c_65 => ?_)
          · refine lv_aload_n hx hb d_MOD_freeze_77 rfl (lv_at hl 1 rfl) ?_
            refine va_get (D := G.1) (ci := 6) (v := .ref z16) (C := R_MOD) (T := T_MOD) (N := 25) hx hb hT in_MOD hown hK hP 0 rfl rfl 18 (by decide) (hT _ wd_600) (fun _ h9 => h9) rfl d_MOD_freeze_78 ?_
            refine lv_iload_n hx hb d_MOD_freeze_81 rfl (lv_at hl 0 rfl) ?_
            refine va_iald hx hb hK hP 4 2 rfl rfl (vp_in_nI (by omega) (by omega)) d_MOD_freeze_82 ?_
            refine W.eq (g2 := F0 m 83 ls (.int (gD (fzF gW nC nC)) :: [])) (by rw [nI_clamp (by omega)]) ?_
            have hq9 : (.int (mfz gN gW gC gD nC mi fi)) = (.int (gD (fzF gW nC nC)) : Value) := by first | (simp [mfz, c_14, c_22, c_43, c_51, c_65]; done) | (simp_all [mfz]; done)
            exact W.iret (v := gD (fzF gW nC nC)) hx hb hr (fun t ht hW => ⟨⟨by rw [hq9], by rw [ht]; exact hP, by rw [hAe]; exact hD⟩, by rw [hAe]; exact hS.F ht⟩) hS.2.2 d_MOD_freeze_83
          · refine lv_aload_n hx hb d_MOD_freeze_68 rfl (lv_at hl 1 rfl) ?_
            refine va_get (D := G.1) (ci := 6) (v := .ref z15) (C := R_MOD) (T := T_MOD) (N := 25) hx hb hT in_MOD hown hK hP 0 rfl rfl 17 (by decide) (hT _ wd_599) (fun _ h9 => h9) rfl d_MOD_freeze_69 ?_
            refine lv_iload_n hx hb d_MOD_freeze_72 rfl (lv_at hl 0 rfl) ?_
            refine va_iald hx hb hK hP 3 2 rfl rfl (vp_in_nI (by omega) (by omega)) d_MOD_freeze_73 ?_
            refine W.eq (g2 := F0 m 74 ls (.int (gC (fzF gW nC nC)) :: [])) (by rw [nI_clamp (by omega)]) ?_
            refine lv_goto (tgt := 83) hx hb d_MOD_freeze_74 (by decide) ?_
            have hq9 : (.int (mfz gN gW gC gD nC mi fi)) = (.int (gC (fzF gW nC nC)) : Value) := by first | (simp [mfz, c_14, c_22, c_43, c_51, c_65]; done) | (simp_all [mfz]; done)
            exact W.iret (v := gC (fzF gW nC nC)) hx hb hr (fun t ht hW => ⟨⟨by rw [hq9], by rw [ht]; exact hP, by rw [hAe]; exact hD⟩, by rw [hAe]; exact hS.F ht⟩) hS.2.2 d_MOD_freeze_83
        · refine lv_aload_n hx hb d_MOD_freeze_54 rfl (lv_at hl 1 rfl) ?_
          refine va_get (D := G.1) (ci := 6) (v := .ref z7) (C := R_MOD) (T := T_MOD) (N := 25) hx hb hT in_MOD hown hK hP 0 rfl rfl 9 (by decide) (hT _ wd_591) (fun _ h9 => h9) rfl d_MOD_freeze_55 ?_
          refine lv_iload_n hx hb d_MOD_freeze_58 rfl (lv_at hl 0 rfl) ?_
          refine va_iald hx hb hK hP 1 2 rfl rfl (vp_in_nI (by omega) (by omega)) d_MOD_freeze_59 ?_
          refine W.eq (g2 := F0 m 60 ls (.int (gN (fzF gW nC nC)) :: [])) (by rw [nI_clamp (by omega)]) ?_
          refine lv_goto (tgt := 83) hx hb d_MOD_freeze_60 (by decide) ?_
          have hq9 : (.int (mfz gN gW gC gD nC mi fi)) = (.int (gN (fzF gW nC nC)) : Value) := by first | (simp [mfz, c_14, c_22, c_43, c_51]; done) | (simp_all [mfz]; done)
          exact W.iret (v := gN (fzF gW nC nC)) hx hb hr (fun t ht hW => ⟨⟨by rw [hq9], by rw [ht]; exact hP, by rw [hAe]; exact hD⟩, by rw [hAe]; exact hS.F ht⟩) hS.2.2 d_MOD_freeze_83
      · refine lv_iconst (v := 0) hx hb d_MOD_freeze_46 (by decide) ?_
        refine lv_goto (tgt := 83) hx hb d_MOD_freeze_47 (by decide) ?_
        have hq9 : (.int (mfz gN gW gC gD nC mi fi)) = (.int 0 : Value) := by first | (simp [mfz, c_14, c_22, c_43]; done) | (simp_all [mfz]; done)
        exact W.iret (v := 0) hx hb hr (fun t ht hW => ⟨⟨by rw [hq9], by rw [ht]; exact hP, by rw [hAe]; exact hD⟩, by rw [hAe]; exact hS.F ht⟩) hS.2.2 d_MOD_freeze_83
    · refine lv_aload_n hx hb d_MOD_freeze_25 rfl (lv_at hl 0 rfl) ?_
      refine va_get (D := G.1) (ci := 6) (v := .long mi) (C := R_MOD) (T := T_MOD) (N := 25) hx hb hT in_MOD hown hK hP 0 rfl rfl 22 (by decide) (hT _ wd_604) (fun _ h9 => h9) rfl d_MOD_freeze_26 ?_
      refine bx_callV (W.runS (As := [.long mi]) (rest := []) ⟨hx, hb, hml, hown, hts⟩ (c_most l G mi) ⟨(callB_of 1 hts (gi_all wd_738) rfl rfl rfl (hT _ wd_51) (hT _ wd_736) (by decide +kernel) ⟨Nat.le_of_ble_eq_true rfl, Nat.le_of_ble_eq_true rfl⟩), (hT _ wd_737)⟩ (psR bx_nil hGK) rfl rfl hl.1 rfl (lv_room (Nat.le_of_ble_eq_true rfl)) d_MOD_freeze_29 ⟨Nat.le_of_ble_eq_true rfl, Nat.le_of_ble_eq_true rfl⟩) ?_
      have hq9 : (.int (mfz gN gW gC gD nC mi fi)) = (.int (mostF mi) : Value) := by first | (simp [mfz, c_14, c_22]; done) | (simp_all [mfz]; done)
      exact W.iret (v := mostF mi) hx hb hr (fun t ht hW => ⟨⟨by rw [hq9], by rw [ht]; exact hP, by rw [hAe]; exact hD⟩, by rw [hAe]; exact hS.F ht⟩) hS.2.2 d_MOD_freeze_32
  · refine lv_bipush (v := (-2)) hx hb d_MOD_freeze_17 (by decide) ?_
    have hq9 : (.int (mfz gN gW gC gD nC mi fi)) = (.int (-2) : Value) := by first | (simp [mfz, c_14]; done) | (simp_all [mfz]; done)
    exact W.iret (v := (-2)) hx hb hr (fun t ht hW => ⟨⟨by rw [hq9], by rw [ht]; exact hP, by rw [hAe]; exact hD⟩, by rw [hAe]; exact hS.F ht⟩) hS.2.2 d_MOD_freeze_19
set_option maxHeartbeats 4000000 in
set_option maxRecDepth 100000 in
theorem c_mput (l : Launch) (G : GG) (sz : Nat) (z0 : Nat) (z1 : Nat) (z2 : Nat) (z3 : Nat) (z4 : Nat) (z5 : Nat) (z6 : Nat) (z7 : Nat) (z8 : Nat) (z9 : Nat) (z10 : Nat) (z11 : Nat) (z12 : Nat) (z13 : Nat) (z14 : Nat) (z15 : Nat) (z16 : Nat) (z17 : Nat) (cdv : Int32) (cyc : Int32) (li : Int32) (nM : Nat) (nC : Nat) (me : Int64) (mi : Int64) (mb : MB) (pv : Int32) (hmb : mb.1 < 64) : Met l y_MOD_put w_MOD_put ({ frames := 0, cells := 0, slots := 0, locals := 0 }) (va_Pc [.ref z0, .int pv] (Pw G sz [(z0, .inr (6, [.int cdv, .int (nI nM), .ref z1, .ref z2, .ref z3, .ref z4, .ref z5, .ref z6, .int (nI nC), .ref z7, .ref z8, .ref z9, .ref z10, .ref z11, .ref z12, .ref z13, .ref z14, .ref z15, .ref z16, .int cyc, .int li, .long me, .long mi, .int (nI mb.1), .ref z17])), (z17, .inl (G.2 2, 64, .inl mb.2))])) (QW G none [(z0, .inr (6, [.int cdv, .int (nI nM), .ref z1, .ref z2, .ref z3, .ref z4, .ref z5, .ref z6, .int (nI nC), .ref z7, .ref z8, .ref z9, .ref z10, .ref z11, .ref z12, .ref z13, .ref z14, .ref z15, .ref z16, .int cyc, .int li, .long me, .long mi, .int (nI mb.1), .ref z17])), (z17, .inl (G.2 2, 64, .inl mb.2))] [(z0, .inr (6, [.int cdv, .int (nI nM), .ref z1, .ref z2, .ref z3, .ref z4, .ref z5, .ref z6, .int (nI nC), .ref z7, .ref z8, .ref z9, .ref z10, .ref z11, .ref z12, .ref z13, .ref z14, .ref z15, .ref z16, .int cyc, .int li, .long me, .long mi, .int (nI (mPut mb pv).1), .ref z17])), (z17, .inl (G.2 2, 64, .inl ((mPut mb pv).2)))] sz) 0 0 (va_A [(z0, .inr (6, [.int cdv, .int (nI nM), .ref z1, .ref z2, .ref z3, .ref z4, .ref z5, .ref z6, .int (nI nC), .ref z7, .ref z8, .ref z9, .ref z10, .ref z11, .ref z12, .ref z13, .ref z14, .ref z15, .ref z16, .int cyc, .int li, .long me, .long mi, .int (nI mb.1), .ref z17])), (z17, .inl (G.2 2, 64, .inl mb.2))] sz) := by
  refine Met.ofW (cc := b_MOD_put) (maxL := 2) (ret := none) (by decide) rfl ?_
  intro p e s m args below meth c s₁ B hml hv
  obtain ⟨rfl, hsz, hP, hGK, hD0⟩ := hv
  have hx := B.exec
  have hb := B.bytes
  have hr := B.returns
  have hts := atoms_spec (ws := w_MOD_put) B.pre
  have hT : ∀ w ∈ lwG, w.before _ s = true := fun w h => hts w (List.mem_cons_of_mem _ h)
  have hown : s.vm.findClass R_MOD = some m.cls := findClass_of_methodNamed B.named
  have hlocks := B.notSynchronized
  have hK := hGK.1
  have hN := hGK.2
  subst hsz
  have hD := hD0.self (sz := s.heap.size)
  generalize hAe : va_A [(z0, .inr (6, [.int cdv, .int (nI nM), .ref z1, .ref z2, .ref z3, .ref z4, .ref z5, .ref z6, .int (nI nC), .ref z7, .ref z8, .ref z9, .ref z10, .ref z11, .ref z12, .ref z13, .ref z14, .ref z15, .ref z16, .int cyc, .int li, .long me, .long mi, .int (nI mb.1), .ref z17])), (z17, .inl (G.2 2, 64, .inl mb.2))] s.heap.size = A at hD ⊢
  have hA : ∀ q : Nat, s.heap.size ≤ q → A q := fun q h => by rw [← hAe]; exact Or.inr h
  have hS : va_S A s.heap s.heap [] := va_S.rf
  have hP : va_P G.1 vwCl [(z0, .inr (6, [.int cdv, .int (nI nM), .ref z1, .ref z2, .ref z3, .ref z4, .ref z5, .ref z6, .int (nI nC), .ref z7, .ref z8, .ref z9, .ref z10, .ref z11, .ref z12, .ref z13, .ref z14, .ref z15, .ref z16, .int cyc, .int li, .long me, .long mi, .int (nI mb.1), .ref z17])), (z17, .inl (G.2 2, 64, .inl mb.2))] s.heap := hP
  have hl := lv_entry ([.ref z0, .int pv]) (n := 2) (Nat.le_of_ble_eq_true rfl)
  rw [lg_entry_eq]
  generalize (lg_sl ([.ref z0, .int pv]) ++ List.replicate (2 - (lg_sl ([.ref z0, .int pv])).length) Slot.unset).toArray = ls at hl ⊢
  have hl : lv_has ls 2 [(0, .ref z0), (1, .int pv)] := hl
  refine lv_aload_n hx hb d_MOD_put_0 rfl (lv_at hl 0 rfl) ?_
  refine va_get (D := G.1) (ci := 6) (v := .ref z17) (C := R_MOD) (T := T_MOD) (N := 25) hx hb hT in_MOD hown hK hP 0 rfl rfl 24 (by decide) (hT _ wd_606) (fun _ h9 => h9) rfl d_MOD_put_1 ?_
  refine lv_aload_n hx hb d_MOD_put_4 rfl (lv_at hl 0 rfl) ?_
  refine va_get (D := G.1) (ci := 6) (v := .int (nI mb.1)) (C := R_MOD) (T := T_MOD) (N := 25) hx hb hT in_MOD hown hK hP 0 rfl rfl 23 (by decide) (hT _ wd_605) (fun _ h9 => h9) rfl d_MOD_put_5 ?_
  refine lv_iload_n hx hb d_MOD_put_8 rfl (lv_at hl 1 rfl) ?_
  refine lv_sipush (v := 255) hx hb d_MOD_put_9 (by decide) ?_
  refine lv_iand hx hb d_MOD_put_12 ?_
  refine va_iast hx hb hK hP hD hS 1 2 rfl rfl (vp_in_nI (by omega) (by omega)) d_MOD_put_13 (fun H locs hP hD hS => ?_)
  rw [nI_clamp (by omega)] at hP hD
  have hP : va_P G.1 vwCl [(z0, .inr (6, [.int cdv, .int (nI nM), .ref z1, .ref z2, .ref z3, .ref z4, .ref z5, .ref z6, .int (nI nC), .ref z7, .ref z8, .ref z9, .ref z10, .ref z11, .ref z12, .ref z13, .ref z14, .ref z15, .ref z16, .int cyc, .int li, .long me, .long mi, .int (nI mb.1), .ref z17])), (z17, .inl (G.2 2, 64, .inl (upd mb.2 mb.1 (pv &&& 255))))] H := hP
  have hD : va_D A [(z0, .inr (6, [.int cdv, .int (nI nM), .ref z1, .ref z2, .ref z3, .ref z4, .ref z5, .ref z6, .int (nI nC), .ref z7, .ref z8, .ref z9, .ref z10, .ref z11, .ref z12, .ref z13, .ref z14, .ref z15, .ref z16, .int cyc, .int li, .long me, .long mi, .int (nI mb.1), .ref z17])), (z17, .inl (G.2 2, 64, .inl (upd mb.2 mb.1 (pv &&& 255))))] := hD
  refine lv_aload_n hx hb d_MOD_put_14 rfl (lv_at hl 0 rfl) ?_
  refine lv_dup hx hb d_MOD_put_15 rfl ?_
  refine va_get (D := G.1) (ci := 6) (v := .int (nI mb.1)) (C := R_MOD) (T := T_MOD) (N := 25) hx hb hT in_MOD hown hK hP 0 rfl rfl 23 (by decide) (hT _ wd_605) (fun _ h9 => h9) rfl d_MOD_put_16 ?_
  refine lv_iconst (v := 1) hx hb d_MOD_put_19 (by decide) ?_
  refine lv_iadd hx hb d_MOD_put_20 ?_
  refine va_put (D := G.1) (ci := 6) (v := .int ((nI mb.1) + 1)) (ty := .int) (C := R_MOD) (T := T_MOD) (N := 25) hx hb hT in_MOD t_MOD tok_MOD nok_MOD hown hK hP hD hS 0 rfl rfl 23 (by decide) (hT _ wd_605) (fun _ h9 => h9) rfl (by decide +kernel) rfl rfl (Nat.le_of_ble_eq_true rfl) d_MOD_put_21 (fun H locs hP hD hS => ?_)
  have hP : va_P G.1 vwCl [(z0, .inr (6, [.int cdv, .int (nI nM), .ref z1, .ref z2, .ref z3, .ref z4, .ref z5, .ref z6, .int (nI nC), .ref z7, .ref z8, .ref z9, .ref z10, .ref z11, .ref z12, .ref z13, .ref z14, .ref z15, .ref z16, .int cyc, .int li, .long me, .long mi, .int ((nI mb.1) + 1), .ref z17])), (z17, .inl (G.2 2, 64, .inl (upd mb.2 mb.1 (pv &&& 255))))] H := hP
  have hD : va_D A [(z0, .inr (6, [.int cdv, .int (nI nM), .ref z1, .ref z2, .ref z3, .ref z4, .ref z5, .ref z6, .int (nI nC), .ref z7, .ref z8, .ref z9, .ref z10, .ref z11, .ref z12, .ref z13, .ref z14, .ref z15, .ref z16, .int cyc, .int li, .long me, .long mi, .int ((nI mb.1) + 1), .ref z17])), (z17, .inl (G.2 2, 64, .inl (upd mb.2 mb.1 (pv &&& 255))))] := hD
  have hw9 : ([(z0, .inr (6, [.int cdv, .int (nI nM), .ref z1, .ref z2, .ref z3, .ref z4, .ref z5, .ref z6, .int (nI nC), .ref z7, .ref z8, .ref z9, .ref z10, .ref z11, .ref z12, .ref z13, .ref z14, .ref z15, .ref z16, .int cyc, .int li, .long me, .long mi, .int (nI (mPut mb pv).1), .ref z17])), (z17, .inl (G.2 2, 64, .inl ((mPut mb pv).2)))] : va_W) = [(z0, .inr (6, [.int cdv, .int (nI nM), .ref z1, .ref z2, .ref z3, .ref z4, .ref z5, .ref z6, .int (nI nC), .ref z7, .ref z8, .ref z9, .ref z10, .ref z11, .ref z12, .ref z13, .ref z14, .ref z15, .ref z16, .int cyc, .int li, .long me, .long mi, .int ((nI mb.1) + 1), .ref z17])), (z17, .inl (G.2 2, 64, .inl (upd mb.2 mb.1 (pv &&& 255))))] := by simp only [mPut, nI_1]
  rw [← hw9] at hP hD
  exact W.vret hx hb hr (fun t ht hW => ⟨⟨rfl, by rw [ht]; exact hP, by rw [hAe]; exact hD⟩, by rw [hAe]; exact hS.F ht⟩) hS.2.2 d_MOD_put_24
set_option maxHeartbeats 4000000 in
set_option maxRecDepth 100000 in
theorem c_mputTwo (l : Launch) (G : GG) (sz : Nat) (z0 : Nat) (z1 : Nat) (z2 : Nat) (z3 : Nat) (z4 : Nat) (z5 : Nat) (z6 : Nat) (z7 : Nat) (z8 : Nat) (z9 : Nat) (z10 : Nat) (z11 : Nat) (z12 : Nat) (z13 : Nat) (z14 : Nat) (z15 : Nat) (z16 : Nat) (z17 : Nat) (cdv : Int32) (cyc : Int32) (li : Int32) (nM : Nat) (nC : Nat) (me : Int64) (mi : Int64) (mb : MB) (pv : Int32) (hmb : mb.1 + 1 < 64) : Met l y_MOD_putTwo w_MOD_putTwo ({ frames := 1, cells := 0, slots := 0, locals := 21 }) (va_Pc [.ref z0, .int pv] (Pw G sz [(z0, .inr (6, [.int cdv, .int (nI nM), .ref z1, .ref z2, .ref z3, .ref z4, .ref z5, .ref z6, .int (nI nC), .ref z7, .ref z8, .ref z9, .ref z10, .ref z11, .ref z12, .ref z13, .ref z14, .ref z15, .ref z16, .int cyc, .int li, .long me, .long mi, .int (nI mb.1), .ref z17])), (z17, .inl (G.2 2, 64, .inl mb.2))])) (QW G none [(z0, .inr (6, [.int cdv, .int (nI nM), .ref z1, .ref z2, .ref z3, .ref z4, .ref z5, .ref z6, .int (nI nC), .ref z7, .ref z8, .ref z9, .ref z10, .ref z11, .ref z12, .ref z13, .ref z14, .ref z15, .ref z16, .int cyc, .int li, .long me, .long mi, .int (nI mb.1), .ref z17])), (z17, .inl (G.2 2, 64, .inl mb.2))] [(z0, .inr (6, [.int cdv, .int (nI nM), .ref z1, .ref z2, .ref z3, .ref z4, .ref z5, .ref z6, .int (nI nC), .ref z7, .ref z8, .ref z9, .ref z10, .ref z11, .ref z12, .ref z13, .ref z14, .ref z15, .ref z16, .int cyc, .int li, .long me, .long mi, .int (nI (mTwo mb pv).1), .ref z17])), (z17, .inl (G.2 2, 64, .inl ((mTwo mb pv).2)))] sz) 0 0 (va_A [(z0, .inr (6, [.int cdv, .int (nI nM), .ref z1, .ref z2, .ref z3, .ref z4, .ref z5, .ref z6, .int (nI nC), .ref z7, .ref z8, .ref z9, .ref z10, .ref z11, .ref z12, .ref z13, .ref z14, .ref z15, .ref z16, .int cyc, .int li, .long me, .long mi, .int (nI mb.1), .ref z17])), (z17, .inl (G.2 2, 64, .inl mb.2))] sz) := by
  refine Met.ofW (cc := b_MOD_putTwo) (maxL := 2) (ret := none) (by decide) rfl ?_
  intro p e s m args below meth c s₁ B hml hv
  obtain ⟨rfl, hsz, hP, hGK, hD0⟩ := hv
  have hx := B.exec
  have hb := B.bytes
  have hr := B.returns
  have hts := atoms_spec (ws := w_MOD_putTwo) B.pre
  have hT : ∀ w ∈ lwG, w.before _ s = true := fun w h => hts w (List.mem_cons_of_mem _ h)
  have hown : s.vm.findClass R_MOD = some m.cls := findClass_of_methodNamed B.named
  have hlocks := B.notSynchronized
  have hK := hGK.1
  have hN := hGK.2
  subst hsz
  have hD := hD0.self (sz := s.heap.size)
  generalize hAe : va_A [(z0, .inr (6, [.int cdv, .int (nI nM), .ref z1, .ref z2, .ref z3, .ref z4, .ref z5, .ref z6, .int (nI nC), .ref z7, .ref z8, .ref z9, .ref z10, .ref z11, .ref z12, .ref z13, .ref z14, .ref z15, .ref z16, .int cyc, .int li, .long me, .long mi, .int (nI mb.1), .ref z17])), (z17, .inl (G.2 2, 64, .inl mb.2))] s.heap.size = A at hD ⊢
  have hA : ∀ q : Nat, s.heap.size ≤ q → A q := fun q h => by rw [← hAe]; exact Or.inr h
  have hS : va_S A s.heap s.heap [] := va_S.rf
  have hP : va_P G.1 vwCl [(z0, .inr (6, [.int cdv, .int (nI nM), .ref z1, .ref z2, .ref z3, .ref z4, .ref z5, .ref z6, .int (nI nC), .ref z7, .ref z8, .ref z9, .ref z10, .ref z11, .ref z12, .ref z13, .ref z14, .ref z15, .ref z16, .int cyc, .int li, .long me, .long mi, .int (nI mb.1), .ref z17])), (z17, .inl (G.2 2, 64, .inl mb.2))] s.heap := hP
  have hl := lv_entry ([.ref z0, .int pv]) (n := 2) (Nat.le_of_ble_eq_true rfl)
  rw [lg_entry_eq]
  generalize (lg_sl ([.ref z0, .int pv]) ++ List.replicate (2 - (lg_sl ([.ref z0, .int pv])).length) Slot.unset).toArray = ls at hl ⊢
  have hl : lv_has ls 2 [(0, .ref z0), (1, .int pv)] := hl
  refine lv_aload_n hx hb d_MOD_putTwo_0 rfl (lv_at hl 0 rfl) ?_
  refine lv_iload_n hx hb d_MOD_putTwo_1 rfl (lv_at hl 1 rfl) ?_
  refine lv_bipush (v := 8) hx hb d_MOD_putTwo_2 (by decide) ?_
  refine lv_ishr hx hb d_MOD_putTwo_4 ?_
  have hPc := hP.sub (ws' := [(z0, .inr (6, [.int cdv, .int (nI nM), .ref z1, .ref z2, .ref z3, .ref z4, .ref z5, .ref z6, .int (nI nC), .ref z7, .ref z8, .ref z9, .ref z10, .ref z11, .ref z12, .ref z13, .ref z14, .ref z15, .ref z16, .int cyc, .int li, .long me, .long mi, .int (nI mb.1), .ref z17])), (z17, .inl (G.2 2, 64, .inl mb.2))]) [0, 1] rfl
  have hDc := hD.sub (ws' := [(z0, .inr (6, [.int cdv, .int (nI nM), .ref z1, .ref z2, .ref z3, .ref z4, .ref z5, .ref z6, .int (nI nC), .ref z7, .ref z8, .ref z9, .ref z10, .ref z11, .ref z12, .ref z13, .ref z14, .ref z15, .ref z16, .int cyc, .int li, .long me, .long mi, .int (nI mb.1), .ref z17])), (z17, .inl (G.2 2, 64, .inl mb.2))]) [0, 1] (by decide) rfl
  refine bx_callKv [0, 1] (va_runV (As := [.int (pv >>> ((8 : Int32) &&& 31))]) (rest := []) ⟨hx, hb, hml, hown, hts⟩ (c_mput l G s.heap.size z0 z1 z2 z3 z4 z5 z6 z7 z8 z9 z10 z11 z12 z13 z14 z15 z16 z17 cdv cyc li nM nC me mi mb (pv >>> ((8 : Int32) &&& 31)) (by omega)) ⟨(callB_of 1 hts (gi_all wd_755) rfl rfl rfl (hT _ wd_51) (hT _ wd_752) (by decide +kernel) ⟨Nat.le_of_ble_eq_true rfl, Nat.le_of_ble_eq_true rfl⟩), (hT _ wd_754), (hT _ wd_40)⟩ (pvW hPc hGK hDc (va_recv hK hPc (ci := 6) (q0 := 0) rfl rfl)) rfl rfl hl.1 rfl (lv_room (Nat.le_of_ble_eq_true rfl)) d_MOD_putTwo_5 ⟨Nat.le_of_ble_eq_true rfl, Nat.le_of_ble_eq_true rfl⟩) hP hD hS hA rfl rfl rfl (fun H locs hP hD hS => ?_)
  obtain ⟨b_5, eb_5⟩ : ∃ z : MB, z = mPut mb (pv >>> ((8 : Int32) &&& 31)) := ⟨_, rfl⟩
  have hP : va_P G.1 vwCl [(z0, .inr (6, [.int cdv, .int (nI nM), .ref z1, .ref z2, .ref z3, .ref z4, .ref z5, .ref z6, .int (nI nC), .ref z7, .ref z8, .ref z9, .ref z10, .ref z11, .ref z12, .ref z13, .ref z14, .ref z15, .ref z16, .int cyc, .int li, .long me, .long mi, .int (nI b_5.1), .ref z17])), (z17, .inl (G.2 2, 64, .inl b_5.2))] H := by rw [eb_5]; exact hP
  have hD : va_D A [(z0, .inr (6, [.int cdv, .int (nI nM), .ref z1, .ref z2, .ref z3, .ref z4, .ref z5, .ref z6, .int (nI nC), .ref z7, .ref z8, .ref z9, .ref z10, .ref z11, .ref z12, .ref z13, .ref z14, .ref z15, .ref z16, .int cyc, .int li, .long me, .long mi, .int (nI b_5.1), .ref z17])), (z17, .inl (G.2 2, 64, .inl b_5.2))] := by rw [eb_5]; exact hD
  refine lv_aload_n hx hb d_MOD_putTwo_8 rfl (lv_at hl 0 rfl) ?_
  refine lv_iload_n hx hb d_MOD_putTwo_9 rfl (lv_at hl 1 rfl) ?_
  have hPc := hP.sub (ws' := [(z0, .inr (6, [.int cdv, .int (nI nM), .ref z1, .ref z2, .ref z3, .ref z4, .ref z5, .ref z6, .int (nI nC), .ref z7, .ref z8, .ref z9, .ref z10, .ref z11, .ref z12, .ref z13, .ref z14, .ref z15, .ref z16, .int cyc, .int li, .long me, .long mi, .int (nI b_5.1), .ref z17])), (z17, .inl (G.2 2, 64, .inl b_5.2))]) [0, 1] rfl
  have hDc := hD.sub (ws' := [(z0, .inr (6, [.int cdv, .int (nI nM), .ref z1, .ref z2, .ref z3, .ref z4, .ref z5, .ref z6, .int (nI nC), .ref z7, .ref z8, .ref z9, .ref z10, .ref z11, .ref z12, .ref z13, .ref z14, .ref z15, .ref z16, .int cyc, .int li, .long me, .long mi, .int (nI b_5.1), .ref z17])), (z17, .inl (G.2 2, 64, .inl b_5.2))]) [0, 1] (by decide) rfl
  refine bx_callKv [0, 1] (va_runV (As := [.int pv]) (rest := []) ⟨hx, hb, hml, hown, hts⟩ (c_mput l G H.size z0 z1 z2 z3 z4 z5 z6 z7 z8 z9 z10 z11 z12 z13 z14 z15 z16 z17 cdv cyc li nM nC me mi b_5 pv (by simp only [eb_5, mPut]; omega)) ⟨(callB_of 1 hts (gi_all wd_755) rfl rfl rfl (hT _ wd_51) (hT _ wd_752) (by decide +kernel) ⟨Nat.le_of_ble_eq_true rfl, Nat.le_of_ble_eq_true rfl⟩), (hT _ wd_754), (hT _ wd_40)⟩ (pvW hPc hGK hDc (va_recv hK hPc (ci := 6) (q0 := 0) rfl rfl)) rfl rfl hl.1 rfl (lv_room (Nat.le_of_ble_eq_true rfl)) d_MOD_putTwo_10 ⟨Nat.le_of_ble_eq_true rfl, Nat.le_of_ble_eq_true rfl⟩) hP hD hS hA rfl rfl rfl (fun H locs hP hD hS => ?_)
  obtain ⟨b_10, eb_10⟩ : ∃ z : MB, z = mPut b_5 pv := ⟨_, rfl⟩
  have hP : va_P G.1 vwCl [(z0, .inr (6, [.int cdv, .int (nI nM), .ref z1, .ref z2, .ref z3, .ref z4, .ref z5, .ref z6, .int (nI nC), .ref z7, .ref z8, .ref z9, .ref z10, .ref z11, .ref z12, .ref z13, .ref z14, .ref z15, .ref z16, .int cyc, .int li, .long me, .long mi, .int (nI b_10.1), .ref z17])), (z17, .inl (G.2 2, 64, .inl b_10.2))] H := by rw [eb_10]; exact hP
  have hD : va_D A [(z0, .inr (6, [.int cdv, .int (nI nM), .ref z1, .ref z2, .ref z3, .ref z4, .ref z5, .ref z6, .int (nI nC), .ref z7, .ref z8, .ref z9, .ref z10, .ref z11, .ref z12, .ref z13, .ref z14, .ref z15, .ref z16, .int cyc, .int li, .long me, .long mi, .int (nI b_10.1), .ref z17])), (z17, .inl (G.2 2, 64, .inl b_10.2))] := by rw [eb_10]; exact hD
  have hw9 : ([(z0, .inr (6, [.int cdv, .int (nI nM), .ref z1, .ref z2, .ref z3, .ref z4, .ref z5, .ref z6, .int (nI nC), .ref z7, .ref z8, .ref z9, .ref z10, .ref z11, .ref z12, .ref z13, .ref z14, .ref z15, .ref z16, .int cyc, .int li, .long me, .long mi, .int (nI (mTwo mb pv).1), .ref z17])), (z17, .inl (G.2 2, 64, .inl ((mTwo mb pv).2)))] : va_W) = [(z0, .inr (6, [.int cdv, .int (nI nM), .ref z1, .ref z2, .ref z3, .ref z4, .ref z5, .ref z6, .int (nI nC), .ref z7, .ref z8, .ref z9, .ref z10, .ref z11, .ref z12, .ref z13, .ref z14, .ref z15, .ref z16, .int cyc, .int li, .long me, .long mi, .int (nI b_10.1), .ref z17])), (z17, .inl (G.2 2, 64, .inl b_10.2))] := by simp only [mTwo, eb_10, eb_5]
  rw [← hw9] at hP hD
  exact W.vret hx hb hr (fun t ht hW => ⟨⟨rfl, by rw [ht]; exact hP, by rw [hAe]; exact hD⟩, by rw [hAe]; exact hS.F ht⟩) hS.2.2 d_MOD_putTwo_13
set_option maxHeartbeats 4000000 in
set_option maxRecDepth 100000 in
theorem c_msum (l : Launch) (G : GG) (sz : Nat) (z0 : Nat) (z1 : Nat) (z2 : Nat) (z3 : Nat) (z4 : Nat) (z5 : Nat) (z6 : Nat) (z7 : Nat) (z8 : Nat) (z9 : Nat) (z10 : Nat) (z11 : Nat) (z12 : Nat) (z13 : Nat) (z14 : Nat) (z15 : Nat) (z16 : Nat) (z17 : Nat) (cdv : Int32) (cyc : Int32) (li : Int32) (nM : Nat) (nC : Nat) (sn : Nat) (me : Int64) (mi : Int64) (rw : Nat → Int32) (hs : sn ≤ 64) : Met l y_MOD_sum w_MOD_sum ({ frames := 0, cells := 0, slots := 0, locals := 0 }) (va_Pc [.ref z0] (Pw G sz [(z0, .inr (6, [.int cdv, .int (nI nM), .ref z1, .ref z2, .ref z3, .ref z4, .ref z5, .ref z6, .int (nI nC), .ref z7, .ref z8, .ref z9, .ref z10, .ref z11, .ref z12, .ref z13, .ref z14, .ref z15, .ref z16, .int cyc, .int li, .long me, .long mi, .int (nI sn), .ref z17])), (z17, .inl (G.2 2, 64, .inl rw))])) (QW G (some (.int (msF rw sn))) [(z0, .inr (6, [.int cdv, .int (nI nM), .ref z1, .ref z2, .ref z3, .ref z4, .ref z5, .ref z6, .int (nI nC), .ref z7, .ref z8, .ref z9, .ref z10, .ref z11, .ref z12, .ref z13, .ref z14, .ref z15, .ref z16, .int cyc, .int li, .long me, .long mi, .int (nI sn), .ref z17])), (z17, .inl (G.2 2, 64, .inl rw))] [(z0, .inr (6, [.int 0, .int (nI nM), .ref z1, .ref z2, .ref z3, .ref z4, .ref z5, .ref z6, .int (nI nC), .ref z7, .ref z8, .ref z9, .ref z10, .ref z11, .ref z12, .ref z13, .ref z14, .ref z15, .ref z16, .int cyc, .int li, .long me, .long mi, .int (nI sn), .ref z17])), (z17, .inl (G.2 2, 64, .inl rw))] sz) 0 0 (va_A [(z0, .inr (6, [.int cdv, .int (nI nM), .ref z1, .ref z2, .ref z3, .ref z4, .ref z5, .ref z6, .int (nI nC), .ref z7, .ref z8, .ref z9, .ref z10, .ref z11, .ref z12, .ref z13, .ref z14, .ref z15, .ref z16, .int cyc, .int li, .long me, .long mi, .int (nI sn), .ref z17])), (z17, .inl (G.2 2, 64, .inl rw))] sz) := by
  refine Met.ofW (cc := b_MOD_sum) (maxL := 3) (ret := (some .int)) (by decide) rfl ?_
  intro p e s m args below meth c s₁ B hml hv
  obtain ⟨rfl, hsz, hP, hGK, hD0⟩ := hv
  have hx := B.exec
  have hb := B.bytes
  have hr := B.returns
  have hts := atoms_spec (ws := w_MOD_sum) B.pre
  have hT : ∀ w ∈ lwG, w.before _ s = true := fun w h => hts w (List.mem_cons_of_mem _ h)
  have hown : s.vm.findClass R_MOD = some m.cls := findClass_of_methodNamed B.named
  have hlocks := B.notSynchronized
  have hK := hGK.1
  have hN := hGK.2
  subst hsz
  have hD := hD0.self (sz := s.heap.size)
  generalize hAe : va_A [(z0, .inr (6, [.int cdv, .int (nI nM), .ref z1, .ref z2, .ref z3, .ref z4, .ref z5, .ref z6, .int (nI nC), .ref z7, .ref z8, .ref z9, .ref z10, .ref z11, .ref z12, .ref z13, .ref z14, .ref z15, .ref z16, .int cyc, .int li, .long me, .long mi, .int (nI sn), .ref z17])), (z17, .inl (G.2 2, 64, .inl rw))] s.heap.size = A at hD ⊢
  have hA : ∀ q : Nat, s.heap.size ≤ q → A q := fun q h => by rw [← hAe]; exact Or.inr h
  have hS : va_S A s.heap s.heap [] := va_S.rf
  have hP : va_P G.1 vwCl [(z0, .inr (6, [.int cdv, .int (nI nM), .ref z1, .ref z2, .ref z3, .ref z4, .ref z5, .ref z6, .int (nI nC), .ref z7, .ref z8, .ref z9, .ref z10, .ref z11, .ref z12, .ref z13, .ref z14, .ref z15, .ref z16, .int cyc, .int li, .long me, .long mi, .int (nI sn), .ref z17])), (z17, .inl (G.2 2, 64, .inl rw))] s.heap := hP
  have hl := lv_entry ([.ref z0]) (n := 3) (Nat.le_of_ble_eq_true rfl)
  rw [lg_entry_eq]
  generalize (lg_sl ([.ref z0]) ++ List.replicate (3 - (lg_sl ([.ref z0])).length) Slot.unset).toArray = ls at hl ⊢
  have hl : lv_has ls 3 [(0, .ref z0)] := hl
  refine lv_aload_n hx hb d_MOD_sum_0 rfl (lv_at hl 0 rfl) ?_
  refine lv_iconst (v := 0) hx hb d_MOD_sum_1 (by decide) ?_
  refine va_put (D := G.1) (ci := 6) (v := .int 0) (ty := .int) (C := R_MOD) (T := T_MOD) (N := 25) hx hb hT in_MOD t_MOD tok_MOD nok_MOD hown hK hP hD hS 0 rfl rfl 0 (by decide) (hT _ wd_582) (fun _ h9 => h9) rfl (by decide +kernel) rfl rfl (Nat.le_of_ble_eq_true rfl) d_MOD_sum_2 (fun H locs hP hD hS => ?_)
  have hP : va_P G.1 vwCl [(z0, .inr (6, [.int 0, .int (nI nM), .ref z1, .ref z2, .ref z3, .ref z4, .ref z5, .ref z6, .int (nI nC), .ref z7, .ref z8, .ref z9, .ref z10, .ref z11, .ref z12, .ref z13, .ref z14, .ref z15, .ref z16, .int cyc, .int li, .long me, .long mi, .int (nI sn), .ref z17])), (z17, .inl (G.2 2, 64, .inl rw))] H := hP
  have hD : va_D A [(z0, .inr (6, [.int 0, .int (nI nM), .ref z1, .ref z2, .ref z3, .ref z4, .ref z5, .ref z6, .int (nI nC), .ref z7, .ref z8, .ref z9, .ref z10, .ref z11, .ref z12, .ref z13, .ref z14, .ref z15, .ref z16, .int cyc, .int li, .long me, .long mi, .int (nI sn), .ref z17])), (z17, .inl (G.2 2, 64, .inl rw))] := hD
  refine lv_iconst (v := 0) hx hb d_MOD_sum_5 (by decide) ?_
  refine lv_istore_n (lv' := [(1, .int 0), (0, .ref z0)]) hx hb d_MOD_sum_6 rfl hl (by decide) rfl (fun ls hl => ?_)
  refine lv_iconst (v := 0) hx hb d_MOD_sum_7 (by decide) ?_
  refine lv_istore_n (lv' := [(2, .int 0), (1, .int 0), (0, .ref z0)]) hx hb d_MOD_sum_8 rfl hl (by decide) rfl (fun ls hl => ?_)
  refine bx_loop (σ := Nat × Int32) (fun q H locs ls => q.1 ≤ sn ∧ q.2 = msF rw q.1 ∧ va_P G.1 vwCl [(z0, .inr (6, [.int 0, .int (nI nM), .ref z1, .ref z2, .ref z3, .ref z4, .ref z5, .ref z6, .int (nI nC), .ref z7, .ref z8, .ref z9, .ref z10, .ref z11, .ref z12, .ref z13, .ref z14, .ref z15, .ref z16, .int cyc, .int li, .long me, .long mi, .int (nI sn), .ref z17])), (z17, .inl (G.2 2, 64, .inl rw))] H ∧ va_D A [(z0, .inr (6, [.int 0, .int (nI nM), .ref z1, .ref z2, .ref z3, .ref z4, .ref z5, .ref z6, .int (nI nC), .ref z7, .ref z8, .ref z9, .ref z10, .ref z11, .ref z12, .ref z13, .ref z14, .ref z15, .ref z16, .int cyc, .int li, .long me, .long mi, .int (nI sn), .ref z17])), (z17, .inl (G.2 2, 64, .inl rw))] ∧ va_S A s.heap H locs ∧ lv_has ls 3 [(0, .ref z0), (1, .int q.2), (2, .int (nI q.1))]) (fun q => sn - q.1) _ (fun q H locs ls hI ih => ?_) (0, 0) ls ⟨Nat.zero_le _, rfl, hP, hD, hS, lv_sub hl [2, 1, 0] rfl⟩
  obtain ⟨k, ac1⟩ := q
  obtain ⟨hknk, hac, hP, hD, hS, hl⟩ := hI
  have hknk : k ≤ sn := hknk
  have hac : ac1 = msF rw k := hac
  have hP : va_P G.1 vwCl [(z0, .inr (6, [.int 0, .int (nI nM), .ref z1, .ref z2, .ref z3, .ref z4, .ref z5, .ref z6, .int (nI nC), .ref z7, .ref z8, .ref z9, .ref z10, .ref z11, .ref z12, .ref z13, .ref z14, .ref z15, .ref z16, .int cyc, .int li, .long me, .long mi, .int (nI sn), .ref z17])), (z17, .inl (G.2 2, 64, .inl rw))] H := hP
  have hD : va_D A [(z0, .inr (6, [.int 0, .int (nI nM), .ref z1, .ref z2, .ref z3, .ref z4, .ref z5, .ref z6, .int (nI nC), .ref z7, .ref z8, .ref z9, .ref z10, .ref z11, .ref z12, .ref z13, .ref z14, .ref z15, .ref z16, .int cyc, .int li, .long me, .long mi, .int (nI sn), .ref z17])), (z17, .inl (G.2 2, 64, .inl rw))] := hD
  have hl : lv_has ls 3 [(0, .ref z0), (1, .int ac1), (2, .int (nI k))] := hl
  refine lv_iload_n hx hb d_MOD_sum_9 rfl (lv_at hl 2 rfl) ?_
  refine lv_aload_n hx hb d_MOD_sum_10 rfl (lv_at hl 0 rfl) ?_
  refine va_get (D := G.1) (ci := 6) (v := .int (nI sn)) (C := R_MOD) (T := T_MOD) (N := 25) hx hb hT in_MOD hown hK hP 0 rfl rfl 23 (by decide) (hT _ wd_605) (fun _ h9 => h9) rfl d_MOD_sum_11 ?_
  refine lv_icmp_ge (tgt := 32) hx hb d_MOD_sum_14 (by decide) (fun c_14 => ?_) (fun c_14 => ?_)
  · have hge : sn ≤ k := (nI_leI (by omega) (by omega)).mp c_14
    have hke : k = sn := by omega
    refine lv_iload_n hx hb d_MOD_sum_32 rfl (lv_at hl 1 rfl) ?_
    have hq9 : (.int (msF rw sn)) = (.int ac1 : Value) := by rw [hac, hke]
    exact W.iret (v := ac1) hx hb hr (fun t ht hW => ⟨⟨by rw [hq9], by rw [ht]; exact hP, by rw [hAe]; exact hD⟩, by rw [hAe]; exact hS.F ht⟩) hS.2.2 d_MOD_sum_33
  · have hk : k < sn := Nat.not_le.mp (fun z => c_14 (nI_le z (by omega)))
    refine lv_iload_n hx hb d_MOD_sum_17 rfl (lv_at hl 1 rfl) ?_
    refine lv_aload_n hx hb d_MOD_sum_18 rfl (lv_at hl 0 rfl) ?_
    refine va_get (D := G.1) (ci := 6) (v := .ref z17) (C := R_MOD) (T := T_MOD) (N := 25) hx hb hT in_MOD hown hK hP 0 rfl rfl 24 (by decide) (hT _ wd_606) (fun _ h9 => h9) rfl d_MOD_sum_19 ?_
    refine lv_iload_n hx hb d_MOD_sum_22 rfl (lv_at hl 2 rfl) ?_
    refine va_iald hx hb hK hP 1 2 rfl rfl (vp_in_nI (by omega) (by omega)) d_MOD_sum_23 ?_
    refine W.eq (g2 := F0 m 24 ls (.int (rw k) :: [.int ac1])) (by rw [nI_clamp (by omega)]) ?_
    refine lv_iadd hx hb d_MOD_sum_24 ?_
    refine lv_istore_n (lv' := [(1, .int (ac1 + (rw k))), (0, .ref z0), (2, .int (nI k))]) hx hb d_MOD_sum_25 rfl hl (by decide) rfl (fun ls hl => ?_)
    refine lv_iinc (v := nI (k + 1)) (lv' := [(2, .int (nI (k + 1))), (1, .int (ac1 + (rw k))), (0, .ref z0)]) hx hb d_MOD_sum_26 hl (k := 2) rfl (nI_succ _).symm (by decide) rfl (fun ls hl => ?_)
    refine lv_goto (tgt := 9) hx hb d_MOD_sum_29 (by decide) ?_
    exact ih ((k + 1), ac1 + (rw k)) _ _ _ ⟨hk, by rw [msF, hac], hP, hD, hS, lv_sub hl [2, 1, 0] rfl⟩ (by show sn - (k + 1) < sn - k; omega)
end
section
/-! the reference's writing methods, as functions -/
section MF3
def pj {α : Type} (π : α → Int32) (f : Nat → α) : Nat → Int32 := fun i => π (f i)
theorem pj_k {α : Type} (π : α → Int32) (f : Nat → α) (k : Nat) : pj π f k = π (f k) := rfl
theorem pj_up {α : Type} {π : α → Int32} {g : Nat → α → α} {f : Nat → α} {k : Nat} (h : π (f k) = π (g k (f k))) : pj π (upto g f k) = pj π (upto g f (k + 1)) := by
  funext i
  unfold pj upto
  by_cases h1 : i = k
  · subst h1
    simp [h]
  · by_cases h2 : i < k
    · simp [h2, Nat.lt_succ_of_lt h2]
    · simp [h2, show ¬ i < k + 1 by omega]
theorem pj_upd {α : Type} {π : α → Int32} {g : Nat → α → α} {f : Nat → α} {k : Nat} {v : Int32} (h : v = π (g k (f k))) : upd (pj π (upto g f k)) k v = pj π (upto g f (k + 1)) := by
  funext i
  unfold upd pj upto
  by_cases h1 : i = k
  · subst h1
    simp [h]
  · by_cases h2 : i < k
    · simp [h1, h2, Nat.lt_succ_of_lt h2]
    · simp [h1, h2, show ¬ i < k + 1 by omega]
def m0 (m : Mon) : Int32 := m.1
def m1 (m : Mon) : Int32 := m.2.1
def m2 (m : Mon) : Int32 := m.2.2.1
def m3 (m : Mon) : Int32 := m.2.2.2.1
def m4 (m : Mon) : Int32 := m.2.2.2.2.1
def m5 (m : Mon) : Int32 := m.2.2.2.2.2
abbrev Cdm : Type := Int32 × Int32 × Int32 × Int32 × Int32 × Int32 × Int32 × Int32 × Int32 × Int32
def q0 (q : Cdm) : Int32 := q.1
def q1 (q : Cdm) : Int32 := q.2.1
def q2 (q : Cdm) : Int32 := q.2.2.1
def q3 (q : Cdm) : Int32 := q.2.2.2.1
def q4 (q : Cdm) : Int32 := q.2.2.2.2.1
def q5 (q : Cdm) : Int32 := q.2.2.2.2.2.1
def q6 (q : Cdm) : Int32 := q.2.2.2.2.2.2.1
def q7 (q : Cdm) : Int32 := q.2.2.2.2.2.2.2.1
def q8 (q : Cdm) : Int32 := q.2.2.2.2.2.2.2.2.1
def q9 (q : Cdm) : Int32 := q.2.2.2.2.2.2.2.2.2
def mhC (m : Mon) (cs : Int32) : Int32 := mhR (m0 m) (m1 m) (m4 m) cs
def gMo (cs ts : Int32) (i : Nat) (m : Mon) : Mon :=
  (m0 m, m1 m, if mhC m cs = 0 then m2 m else mcR (m2 m) (m3 m) (bitF ts (nI i)), if mhC m cs = 0 then m3 m else mcC (m3 m), mhH (m0 m) (m1 m) (m4 m) cs, if m5 m = 0 then bitF ts (nI i) else 1)
def gMc (cy cs : Int32) (_ : Nat) (q : Cdm) : Cdm :=
  if q1 q = 0 then (q0 q, q1 q, mfP (q2 q), mfQ (q3 q) (q5 q), mfL (q4 q) (q6 q) cs, q5 q + 1, mfZ (q6 q) cs, mfW (q2 q) (q7 q) (q3 q) (q5 q), q8 q, q9 q)
  else (q0 q, q1 q, moP (q2 q) (q3 q), moK (q2 q) (q3 q), moK (q2 q) (q4 q), 0, 0, moF (q2 q) (q3 q) (q7 q) 1, moF (q2 q) (q3 q) (q8 q) cy, moF (q2 q) (q3 q) (q9 q) cs)
def mcntM (mm : Nat → Mon) (cs : Int32) : Nat → Int32
  | 0 => 0
  | k + 1 => if mhC (mm k) cs = 0 then mcntM mm cs k else mcntM mm cs k + 1
def mcB (cs ts : Int32) : Int32 := if inF cs.toInt64 0 255 = 0 then 0 else if inF ts.toInt64 0 65535 = 0 then 0 else 1
def mcM (cs ts : Int32) (nM : Nat) (mm : Nat → Mon) : Nat → Mon := if mcB cs ts = 0 then mm else upto (gMo cs ts) mm nM
def mcD (cs ts cyc : Int32) (nC : Nat) (cc : Nat → Cdm) : Nat → Cdm := if mcB cs ts = 0 then cc else upto (gMc (cyc + 1) cs) cc nC
def mcN (cs ts cyc : Int32) : Int32 := if mcB cs ts = 0 then cyc else cyc + 1
def mcS (cs cyc : Int32) (nC : Nat) (cc : Nat → Cdm) : Int32 := if mcnt (pj q3 (upto (gMc (cyc + 1) cs) cc nC)) nC ≤ 0 then 0 else 1
def mcL (cs ts cyc : Int32) (nC : Nat) (cc : Nat → Cdm) (li : Int32) : Int32 := if mcB cs ts = 0 then li else mcS cs cyc nC cc
def mcX (cs ts cyc : Int32) (nC : Nat) (cc : Nat → Cdm) (li : Int32) (x : Int64) : Int64 := if mcB cs ts = 0 then x else foZ (mcS cs cyc nC cc) li x
def mcV (cs ts : Int32) (nM : Nat) (mm : Nat → Mon) : Int32 := if mcB cs ts = 0 then (-2) else mcntM mm cs nM
def mmOk (ka ca : Int32) : Int32 := if inF ka.toInt64 0 3 = 0 then 0 else if inF ca.toInt64 0 7 = 0 then 0 else 1
def mmN (ka ca : Int32) (nM : Nat) : Nat := if mmOk ka ca = 0 then nM else if nI nM = 16 then nM else nM + 1
def mmR (ka ca : Int32) (nM : Nat) : Int32 := if mmOk ka ca = 0 then (-2) else if nI nM = 16 then (-4) else nI (nM + 1)
def mmA (ka ca : Int32) (nM : Nat) (f : Nat → Int32) (v : Int32) : Nat → Int32 := if mmOk ka ca = 0 then f else if nI nM = 16 then f else upd f nM v
def mfOk (nu : Int32) : Int32 := inF nu.toInt64 1 65535
def mfN (gN : Nat → Int32) (nu : Int32) (nC : Nat) : Nat := if mfOk nu = 0 then nC else if nI (mkF gN nu nC nC) = 20 then nC else if nI (mkF gN nu nC nC) = nI nC then nC + 1 else nC
def mfR (gN : Nat → Int32) (nu : Int32) (nC : Nat) : Int32 := if mfOk nu = 0 then (-2) else if nI (mkF gN nu nC nC) = 20 then (-4) else nI (mfN gN nu nC)
def mfA (gN : Nat → Int32) (nu : Int32) (nC : Nat) : Nat → Int32 := if mfOk nu = 0 then gN else if nI (mkF gN nu nC nC) = 20 then gN else if nI (mkF gN nu nC nC) = nI nC then upd gN (mkF gN nu nC nC) nu else gN
def mfO (gN gO : Nat → Int32) (nu on : Int32) (nC : Nat) : Nat → Int32 := if mfOk nu = 0 then gO else if nI (mkF gN nu nC nC) = 20 then gO else upd gO (mkF gN nu nC nC) on
theorem nI_20 {k : Nat} (h : k ≤ 20) (hn : ¬ nI k = 20) : k < 20 := by
  rcases Nat.lt_or_ge k 20 with h1 | h1
  · exact h1
  · exact absurd (by rw [show k = 20 by omega]; decide) hn
theorem nI_16 {k : Nat} (h : k ≤ 16) (hn : ¬ nI k = 16) : k < 16 := by
  rcases Nat.lt_or_ge k 16 with h1 | h1
  · exact h1
  · exact absurd (by rw [show k = 16 by omega]; decide) hn
end MF3
end
section
abbrev b_MOD_monitor : ByteArray := prog_7_method_4_code
def y_MOD_monitor : MethodName := ⟨R_MOD, "monitor", "(II)I"⟩
def w_MOD_monitor : List Cond := .code y_MOD_monitor b_MOD_monitor 3 (some .int) :: lwG
theorem d_MOD_monitor_0 : decode b_MOD_monitor 0 = .ok (.aload_n 0, 1) := by decide +kernel
theorem d_MOD_monitor_1 : decode b_MOD_monitor 1 = .ok (.iconst 0, 1) := by decide +kernel
theorem d_MOD_monitor_2 : decode b_MOD_monitor 2 = .ok (.putfield 62, 3) := by decide +kernel
theorem d_MOD_monitor_5 : decode b_MOD_monitor 5 = .ok (.iload_n 1, 1) := by decide +kernel
theorem d_MOD_monitor_6 : decode b_MOD_monitor 6 = .ok (.i2l, 1) := by decide +kernel
theorem d_MOD_monitor_7 : decode b_MOD_monitor 7 = .ok (.lconst 0, 1) := by decide +kernel
theorem d_MOD_monitor_8 : decode b_MOD_monitor 8 = .ok (.ldc2_w 66, 3) := by decide +kernel
theorem d_MOD_monitor_11 : decode b_MOD_monitor 11 = .ok (.invokestatic 68, 3) := by decide +kernel
theorem d_MOD_monitor_14 : decode b_MOD_monitor 14 = .ok (.ifCond .eq 15, 3) := by decide +kernel
theorem d_MOD_monitor_17 : decode b_MOD_monitor 17 = .ok (.iload_n 2, 1) := by decide +kernel
theorem d_MOD_monitor_18 : decode b_MOD_monitor 18 = .ok (.i2l, 1) := by decide +kernel
theorem d_MOD_monitor_19 : decode b_MOD_monitor 19 = .ok (.lconst 0, 1) := by decide +kernel
theorem d_MOD_monitor_20 : decode b_MOD_monitor 20 = .ok (.ldc2_w 72, 3) := by decide +kernel
theorem d_MOD_monitor_23 : decode b_MOD_monitor 23 = .ok (.invokestatic 68, 3) := by decide +kernel
theorem d_MOD_monitor_26 : decode b_MOD_monitor 26 = .ok (.ifCond .ne 6, 3) := by decide +kernel
theorem d_MOD_monitor_29 : decode b_MOD_monitor 29 = .ok (.bipush (-2), 2) := by decide +kernel
theorem d_MOD_monitor_31 : decode b_MOD_monitor 31 = .ok (.ireturn, 1) := by decide +kernel
theorem d_MOD_monitor_32 : decode b_MOD_monitor 32 = .ok (.aload_n 0, 1) := by decide +kernel
theorem d_MOD_monitor_33 : decode b_MOD_monitor 33 = .ok (.getfield 74, 3) := by decide +kernel
theorem d_MOD_monitor_36 : decode b_MOD_monitor 36 = .ok (.bipush 16, 2) := by decide +kernel
theorem d_MOD_monitor_38 : decode b_MOD_monitor 38 = .ok (.if_icmp .ne 6, 3) := by decide +kernel
theorem d_MOD_monitor_41 : decode b_MOD_monitor 41 = .ok (.bipush (-4), 2) := by decide +kernel
theorem d_MOD_monitor_43 : decode b_MOD_monitor 43 = .ok (.ireturn, 1) := by decide +kernel
theorem d_MOD_monitor_44 : decode b_MOD_monitor 44 = .ok (.aload_n 0, 1) := by decide +kernel
theorem d_MOD_monitor_45 : decode b_MOD_monitor 45 = .ok (.getfield 7, 3) := by decide +kernel
theorem d_MOD_monitor_48 : decode b_MOD_monitor 48 = .ok (.aload_n 0, 1) := by decide +kernel
theorem d_MOD_monitor_49 : decode b_MOD_monitor 49 = .ok (.getfield 74, 3) := by decide +kernel
theorem d_MOD_monitor_52 : decode b_MOD_monitor 52 = .ok (.iload_n 1, 1) := by decide +kernel
theorem d_MOD_monitor_53 : decode b_MOD_monitor 53 = .ok (.iastore, 1) := by decide +kernel
theorem d_MOD_monitor_54 : decode b_MOD_monitor 54 = .ok (.aload_n 0, 1) := by decide +kernel
theorem d_MOD_monitor_55 : decode b_MOD_monitor 55 = .ok (.getfield 13, 3) := by decide +kernel
theorem d_MOD_monitor_58 : decode b_MOD_monitor 58 = .ok (.aload_n 0, 1) := by decide +kernel
theorem d_MOD_monitor_59 : decode b_MOD_monitor 59 = .ok (.getfield 74, 3) := by decide +kernel
theorem d_MOD_monitor_62 : decode b_MOD_monitor 62 = .ok (.iload_n 2, 1) := by decide +kernel
theorem d_MOD_monitor_63 : decode b_MOD_monitor 63 = .ok (.iastore, 1) := by decide +kernel
theorem d_MOD_monitor_64 : decode b_MOD_monitor 64 = .ok (.aload_n 0, 1) := by decide +kernel
theorem d_MOD_monitor_65 : decode b_MOD_monitor 65 = .ok (.dup, 1) := by decide +kernel
theorem d_MOD_monitor_66 : decode b_MOD_monitor 66 = .ok (.getfield 74, 3) := by decide +kernel
theorem d_MOD_monitor_69 : decode b_MOD_monitor 69 = .ok (.iconst 1, 1) := by decide +kernel
theorem d_MOD_monitor_70 : decode b_MOD_monitor 70 = .ok (.iadd, 1) := by decide +kernel
theorem d_MOD_monitor_71 : decode b_MOD_monitor 71 = .ok (.putfield 74, 3) := by decide +kernel
theorem d_MOD_monitor_74 : decode b_MOD_monitor 74 = .ok (.aload_n 0, 1) := by decide +kernel
theorem d_MOD_monitor_75 : decode b_MOD_monitor 75 = .ok (.getfield 74, 3) := by decide +kernel
theorem d_MOD_monitor_78 : decode b_MOD_monitor 78 = .ok (.ireturn, 1) := by decide +kernel
abbrev b_MOD_fault : ByteArray := prog_7_method_15_code
def y_MOD_fault : MethodName := ⟨R_MOD, "fault", "(IZ)I"⟩
def w_MOD_fault : List Cond := .code y_MOD_fault b_MOD_fault 4 (some .int) :: lwG
theorem d_MOD_fault_0 : decode b_MOD_fault 0 = .ok (.aload_n 0, 1) := by decide +kernel
theorem d_MOD_fault_1 : decode b_MOD_fault 1 = .ok (.iconst 0, 1) := by decide +kernel
theorem d_MOD_fault_2 : decode b_MOD_fault 2 = .ok (.putfield 62, 3) := by decide +kernel
theorem d_MOD_fault_5 : decode b_MOD_fault 5 = .ok (.iload_n 1, 1) := by decide +kernel
theorem d_MOD_fault_6 : decode b_MOD_fault 6 = .ok (.i2l, 1) := by decide +kernel
theorem d_MOD_fault_7 : decode b_MOD_fault 7 = .ok (.lconst 1, 1) := by decide +kernel
theorem d_MOD_fault_8 : decode b_MOD_fault 8 = .ok (.ldc2_w 89, 3) := by decide +kernel
theorem d_MOD_fault_11 : decode b_MOD_fault 11 = .ok (.invokestatic 68, 3) := by decide +kernel
theorem d_MOD_fault_14 : decode b_MOD_fault 14 = .ok (.ifCond .ne 6, 3) := by decide +kernel
theorem d_MOD_fault_17 : decode b_MOD_fault 17 = .ok (.bipush (-2), 2) := by decide +kernel
theorem d_MOD_fault_19 : decode b_MOD_fault 19 = .ok (.ireturn, 1) := by decide +kernel
theorem d_MOD_fault_20 : decode b_MOD_fault 20 = .ok (.iconst 0, 1) := by decide +kernel
theorem d_MOD_fault_21 : decode b_MOD_fault 21 = .ok (.istore_n 3, 1) := by decide +kernel
theorem d_MOD_fault_22 : decode b_MOD_fault 22 = .ok (.iload_n 3, 1) := by decide +kernel
theorem d_MOD_fault_23 : decode b_MOD_fault 23 = .ok (.aload_n 0, 1) := by decide +kernel
theorem d_MOD_fault_24 : decode b_MOD_fault 24 = .ok (.getfield 84, 3) := by decide +kernel
theorem d_MOD_fault_27 : decode b_MOD_fault 27 = .ok (.if_icmp .ge 19, 3) := by decide +kernel
theorem d_MOD_fault_30 : decode b_MOD_fault 30 = .ok (.aload_n 0, 1) := by decide +kernel
theorem d_MOD_fault_31 : decode b_MOD_fault 31 = .ok (.getfield 29, 3) := by decide +kernel
theorem d_MOD_fault_34 : decode b_MOD_fault 34 = .ok (.iload_n 3, 1) := by decide +kernel
theorem d_MOD_fault_35 : decode b_MOD_fault 35 = .ok (.iaload, 1) := by decide +kernel
theorem d_MOD_fault_36 : decode b_MOD_fault 36 = .ok (.iload_n 1, 1) := by decide +kernel
theorem d_MOD_fault_37 : decode b_MOD_fault 37 = .ok (.if_icmp .eq 9, 3) := by decide +kernel
theorem d_MOD_fault_40 : decode b_MOD_fault 40 = .ok (.iinc 3 1, 3) := by decide +kernel
theorem d_MOD_fault_43 : decode b_MOD_fault 43 = .ok (.goto (-21), 3) := by decide +kernel
theorem d_MOD_fault_46 : decode b_MOD_fault 46 = .ok (.iload_n 3, 1) := by decide +kernel
theorem d_MOD_fault_47 : decode b_MOD_fault 47 = .ok (.bipush 20, 2) := by decide +kernel
theorem d_MOD_fault_49 : decode b_MOD_fault 49 = .ok (.if_icmp .ne 6, 3) := by decide +kernel
theorem d_MOD_fault_52 : decode b_MOD_fault 52 = .ok (.bipush (-4), 2) := by decide +kernel
theorem d_MOD_fault_54 : decode b_MOD_fault 54 = .ok (.ireturn, 1) := by decide +kernel
theorem d_MOD_fault_55 : decode b_MOD_fault 55 = .ok (.iload_n 3, 1) := by decide +kernel
theorem d_MOD_fault_56 : decode b_MOD_fault 56 = .ok (.aload_n 0, 1) := by decide +kernel
theorem d_MOD_fault_57 : decode b_MOD_fault 57 = .ok (.getfield 84, 3) := by decide +kernel
theorem d_MOD_fault_60 : decode b_MOD_fault 60 = .ok (.if_icmp .ne 20, 3) := by decide +kernel
theorem d_MOD_fault_63 : decode b_MOD_fault 63 = .ok (.aload_n 0, 1) := by decide +kernel
theorem d_MOD_fault_64 : decode b_MOD_fault 64 = .ok (.getfield 29, 3) := by decide +kernel
theorem d_MOD_fault_67 : decode b_MOD_fault 67 = .ok (.iload_n 3, 1) := by decide +kernel
theorem d_MOD_fault_68 : decode b_MOD_fault 68 = .ok (.iload_n 1, 1) := by decide +kernel
theorem d_MOD_fault_69 : decode b_MOD_fault 69 = .ok (.iastore, 1) := by decide +kernel
theorem d_MOD_fault_70 : decode b_MOD_fault 70 = .ok (.aload_n 0, 1) := by decide +kernel
theorem d_MOD_fault_71 : decode b_MOD_fault 71 = .ok (.dup, 1) := by decide +kernel
theorem d_MOD_fault_72 : decode b_MOD_fault 72 = .ok (.getfield 84, 3) := by decide +kernel
theorem d_MOD_fault_75 : decode b_MOD_fault 75 = .ok (.iconst 1, 1) := by decide +kernel
theorem d_MOD_fault_76 : decode b_MOD_fault 76 = .ok (.iadd, 1) := by decide +kernel
theorem d_MOD_fault_77 : decode b_MOD_fault 77 = .ok (.putfield 84, 3) := by decide +kernel
theorem d_MOD_fault_80 : decode b_MOD_fault 80 = .ok (.aload_n 0, 1) := by decide +kernel
theorem d_MOD_fault_81 : decode b_MOD_fault 81 = .ok (.getfield 32, 3) := by decide +kernel
theorem d_MOD_fault_84 : decode b_MOD_fault 84 = .ok (.iload_n 3, 1) := by decide +kernel
theorem d_MOD_fault_85 : decode b_MOD_fault 85 = .ok (.iload_n 2, 1) := by decide +kernel
theorem d_MOD_fault_86 : decode b_MOD_fault 86 = .ok (.bastore, 1) := by decide +kernel
theorem d_MOD_fault_87 : decode b_MOD_fault 87 = .ok (.aload_n 0, 1) := by decide +kernel
theorem d_MOD_fault_88 : decode b_MOD_fault 88 = .ok (.getfield 84, 3) := by decide +kernel
theorem d_MOD_fault_91 : decode b_MOD_fault 91 = .ok (.ireturn, 1) := by decide +kernel
abbrev b_MOD_clear : ByteArray := prog_7_method_17_code
def y_MOD_clear : MethodName := ⟨R_MOD, "clear", "()I"⟩
def w_MOD_clear : List Cond := .code y_MOD_clear b_MOD_clear 3 (some .int) :: lwG
theorem d_MOD_clear_0 : decode b_MOD_clear 0 = .ok (.aload_n 0, 1) := by decide +kernel
theorem d_MOD_clear_1 : decode b_MOD_clear 1 = .ok (.iconst 0, 1) := by decide +kernel
theorem d_MOD_clear_2 : decode b_MOD_clear 2 = .ok (.putfield 62, 3) := by decide +kernel
theorem d_MOD_clear_5 : decode b_MOD_clear 5 = .ok (.aload_n 0, 1) := by decide +kernel
theorem d_MOD_clear_6 : decode b_MOD_clear 6 = .ok (.invokevirtual 105, 3) := by decide +kernel
theorem d_MOD_clear_9 : decode b_MOD_clear 9 = .ok (.istore_n 1, 1) := by decide +kernel
theorem d_MOD_clear_10 : decode b_MOD_clear 10 = .ok (.iconst 0, 1) := by decide +kernel
theorem d_MOD_clear_11 : decode b_MOD_clear 11 = .ok (.istore_n 2, 1) := by decide +kernel
theorem d_MOD_clear_12 : decode b_MOD_clear 12 = .ok (.iload_n 2, 1) := by decide +kernel
theorem d_MOD_clear_13 : decode b_MOD_clear 13 = .ok (.aload_n 0, 1) := by decide +kernel
theorem d_MOD_clear_14 : decode b_MOD_clear 14 = .ok (.getfield 84, 3) := by decide +kernel
theorem d_MOD_clear_17 : decode b_MOD_clear 17 = .ok (.if_icmp .ge 37, 3) := by decide +kernel
theorem d_MOD_clear_20 : decode b_MOD_clear 20 = .ok (.aload_n 0, 1) := by decide +kernel
theorem d_MOD_clear_21 : decode b_MOD_clear 21 = .ok (.getfield 35, 3) := by decide +kernel
theorem d_MOD_clear_24 : decode b_MOD_clear 24 = .ok (.iload_n 2, 1) := by decide +kernel
theorem d_MOD_clear_25 : decode b_MOD_clear 25 = .ok (.iconst 0, 1) := by decide +kernel
theorem d_MOD_clear_26 : decode b_MOD_clear 26 = .ok (.bastore, 1) := by decide +kernel
theorem d_MOD_clear_27 : decode b_MOD_clear 27 = .ok (.aload_n 0, 1) := by decide +kernel
theorem d_MOD_clear_28 : decode b_MOD_clear 28 = .ok (.getfield 38, 3) := by decide +kernel
theorem d_MOD_clear_31 : decode b_MOD_clear 31 = .ok (.iload_n 2, 1) := by decide +kernel
theorem d_MOD_clear_32 : decode b_MOD_clear 32 = .ok (.iconst 0, 1) := by decide +kernel
theorem d_MOD_clear_33 : decode b_MOD_clear 33 = .ok (.bastore, 1) := by decide +kernel
theorem d_MOD_clear_34 : decode b_MOD_clear 34 = .ok (.aload_n 0, 1) := by decide +kernel
theorem d_MOD_clear_35 : decode b_MOD_clear 35 = .ok (.getfield 50, 3) := by decide +kernel
theorem d_MOD_clear_38 : decode b_MOD_clear 38 = .ok (.iload_n 2, 1) := by decide +kernel
theorem d_MOD_clear_39 : decode b_MOD_clear 39 = .ok (.iconst 0, 1) := by decide +kernel
theorem d_MOD_clear_40 : decode b_MOD_clear 40 = .ok (.bastore, 1) := by decide +kernel
theorem d_MOD_clear_41 : decode b_MOD_clear 41 = .ok (.aload_n 0, 1) := by decide +kernel
theorem d_MOD_clear_42 : decode b_MOD_clear 42 = .ok (.getfield 44, 3) := by decide +kernel
theorem d_MOD_clear_45 : decode b_MOD_clear 45 = .ok (.iload_n 2, 1) := by decide +kernel
theorem d_MOD_clear_46 : decode b_MOD_clear 46 = .ok (.iconst 0, 1) := by decide +kernel
theorem d_MOD_clear_47 : decode b_MOD_clear 47 = .ok (.iastore, 1) := by decide +kernel
theorem d_MOD_clear_48 : decode b_MOD_clear 48 = .ok (.iinc 2 1, 3) := by decide +kernel
theorem d_MOD_clear_51 : decode b_MOD_clear 51 = .ok (.goto (-39), 3) := by decide +kernel
theorem d_MOD_clear_54 : decode b_MOD_clear 54 = .ok (.iconst 0, 1) := by decide +kernel
theorem d_MOD_clear_55 : decode b_MOD_clear 55 = .ok (.istore_n 2, 1) := by decide +kernel
theorem d_MOD_clear_56 : decode b_MOD_clear 56 = .ok (.iload_n 2, 1) := by decide +kernel
theorem d_MOD_clear_57 : decode b_MOD_clear 57 = .ok (.aload_n 0, 1) := by decide +kernel
theorem d_MOD_clear_58 : decode b_MOD_clear 58 = .ok (.getfield 74, 3) := by decide +kernel
theorem d_MOD_clear_61 : decode b_MOD_clear 61 = .ok (.if_icmp .ge 16, 3) := by decide +kernel
theorem d_MOD_clear_64 : decode b_MOD_clear 64 = .ok (.aload_n 0, 1) := by decide +kernel
theorem d_MOD_clear_65 : decode b_MOD_clear 65 = .ok (.getfield 25, 3) := by decide +kernel
theorem d_MOD_clear_68 : decode b_MOD_clear 68 = .ok (.iload_n 2, 1) := by decide +kernel
theorem d_MOD_clear_69 : decode b_MOD_clear 69 = .ok (.iconst 0, 1) := by decide +kernel
theorem d_MOD_clear_70 : decode b_MOD_clear 70 = .ok (.bastore, 1) := by decide +kernel
theorem d_MOD_clear_71 : decode b_MOD_clear 71 = .ok (.iinc 2 1, 3) := by decide +kernel
theorem d_MOD_clear_74 : decode b_MOD_clear 74 = .ok (.goto (-18), 3) := by decide +kernel
theorem d_MOD_clear_77 : decode b_MOD_clear 77 = .ok (.aload_n 0, 1) := by decide +kernel
theorem d_MOD_clear_78 : decode b_MOD_clear 78 = .ok (.iconst 0, 1) := by decide +kernel
theorem d_MOD_clear_79 : decode b_MOD_clear 79 = .ok (.putfield 109, 3) := by decide +kernel
theorem d_MOD_clear_82 : decode b_MOD_clear 82 = .ok (.aload_n 0, 1) := by decide +kernel
theorem d_MOD_clear_83 : decode b_MOD_clear 83 = .ok (.lconst 0, 1) := by decide +kernel
theorem d_MOD_clear_84 : decode b_MOD_clear 84 = .ok (.putfield 113, 3) := by decide +kernel
theorem d_MOD_clear_87 : decode b_MOD_clear 87 = .ok (.aload_n 0, 1) := by decide +kernel
theorem d_MOD_clear_88 : decode b_MOD_clear 88 = .ok (.lconst 0, 1) := by decide +kernel
theorem d_MOD_clear_89 : decode b_MOD_clear 89 = .ok (.putfield 117, 3) := by decide +kernel
theorem d_MOD_clear_92 : decode b_MOD_clear 92 = .ok (.iload_n 1, 1) := by decide +kernel
theorem d_MOD_clear_93 : decode b_MOD_clear 93 = .ok (.ireturn, 1) := by decide +kernel
end
section
set_option maxHeartbeats 4000000 in
set_option maxRecDepth 100000 in
theorem c_mmonitor (l : Launch) (G : GG) (sz : Nat) (z0 : Nat) (z1 : Nat) (z2 : Nat) (z3 : Nat) (z4 : Nat) (z5 : Nat) (z6 : Nat) (z7 : Nat) (z8 : Nat) (z9 : Nat) (z10 : Nat) (z11 : Nat) (z12 : Nat) (z13 : Nat) (z14 : Nat) (z15 : Nat) (z16 : Nat) (z17 : Nat) (cdv : Int32) (cyc : Int32) (li : Int32) (nM : Nat) (nC : Nat) (sn : Nat) (me : Int64) (mi : Int64) (fK : Nat → Int32) (fC : Nat → Int32) (ka : Int32) (ca : Int32) (hm : nM ≤ 16) : Met l y_MOD_monitor w_MOD_monitor ({ frames := 1, cells := 0, slots := 0, locals := 25 }) (va_Pc [.ref z0, .int ka, .int ca] (Pw G sz [(z0, .inr (6, [.int cdv, .int (nI nM), .ref z1, .ref z2, .ref z3, .ref z4, .ref z5, .ref z6, .int (nI nC), .ref z7, .ref z8, .ref z9, .ref z10, .ref z11, .ref z12, .ref z13, .ref z14, .ref z15, .ref z16, .int cyc, .int li, .long me, .long mi, .int (nI sn), .ref z17])), (z1, .inl (G.2 2, 16, .inl fK)), (z2, .inl (G.2 2, 16, .inl fC))])) (QW G (some (.int (mmR ka ca nM))) [(z0, .inr (6, [.int cdv, .int (nI nM), .ref z1, .ref z2, .ref z3, .ref z4, .ref z5, .ref z6, .int (nI nC), .ref z7, .ref z8, .ref z9, .ref z10, .ref z11, .ref z12, .ref z13, .ref z14, .ref z15, .ref z16, .int cyc, .int li, .long me, .long mi, .int (nI sn), .ref z17])), (z1, .inl (G.2 2, 16, .inl fK)), (z2, .inl (G.2 2, 16, .inl fC))] [(z0, .inr (6, [.int 0, .int (nI (mmN ka ca nM)), .ref z1, .ref z2, .ref z3, .ref z4, .ref z5, .ref z6, .int (nI nC), .ref z7, .ref z8, .ref z9, .ref z10, .ref z11, .ref z12, .ref z13, .ref z14, .ref z15, .ref z16, .int cyc, .int li, .long me, .long mi, .int (nI sn), .ref z17])), (z1, .inl (G.2 2, 16, .inl (mmA ka ca nM fK ka))), (z2, .inl (G.2 2, 16, .inl (mmA ka ca nM fC ca)))] sz) 0 0 (va_A [(z0, .inr (6, [.int cdv, .int (nI nM), .ref z1, .ref z2, .ref z3, .ref z4, .ref z5, .ref z6, .int (nI nC), .ref z7, .ref z8, .ref z9, .ref z10, .ref z11, .ref z12, .ref z13, .ref z14, .ref z15, .ref z16, .int cyc, .int li, .long me, .long mi, .int (nI sn), .ref z17])), (z1, .inl (G.2 2, 16, .inl fK)), (z2, .inl (G.2 2, 16, .inl fC))] sz) := by
  refine Met.ofW (cc := b_MOD_monitor) (maxL := 3) (ret := (some .int)) (by decide) rfl ?_
  intro p e s m args below meth c s₁ B hml hv
  obtain ⟨rfl, hsz, hP, hGK, hD0⟩ := hv
  have hx := B.exec
  have hb := B.bytes
  have hr := B.returns
  have hts := atoms_spec (ws := w_MOD_monitor) B.pre
  have hT : ∀ w ∈ lwG, w.before _ s = true := fun w h => hts w (List.mem_cons_of_mem _ h)
  have hown : s.vm.findClass R_MOD = some m.cls := findClass_of_methodNamed B.named
  have hlocks := B.notSynchronized
  have hK := hGK.1
  have hN := hGK.2
  subst hsz
  have hD := hD0.self (sz := s.heap.size)
  generalize hAe : va_A [(z0, .inr (6, [.int cdv, .int (nI nM), .ref z1, .ref z2, .ref z3, .ref z4, .ref z5, .ref z6, .int (nI nC), .ref z7, .ref z8, .ref z9, .ref z10, .ref z11, .ref z12, .ref z13, .ref z14, .ref z15, .ref z16, .int cyc, .int li, .long me, .long mi, .int (nI sn), .ref z17])), (z1, .inl (G.2 2, 16, .inl fK)), (z2, .inl (G.2 2, 16, .inl fC))] s.heap.size = A at hD ⊢
  have hA : ∀ q : Nat, s.heap.size ≤ q → A q := fun q h => by rw [← hAe]; exact Or.inr h
  have hS : va_S A s.heap s.heap [] := va_S.rf
  have hP : va_P G.1 vwCl [(z0, .inr (6, [.int cdv, .int (nI nM), .ref z1, .ref z2, .ref z3, .ref z4, .ref z5, .ref z6, .int (nI nC), .ref z7, .ref z8, .ref z9, .ref z10, .ref z11, .ref z12, .ref z13, .ref z14, .ref z15, .ref z16, .int cyc, .int li, .long me, .long mi, .int (nI sn), .ref z17])), (z1, .inl (G.2 2, 16, .inl fK)), (z2, .inl (G.2 2, 16, .inl fC))] s.heap := hP
  have hl := lv_entry ([.ref z0, .int ka, .int ca]) (n := 3) (Nat.le_of_ble_eq_true rfl)
  rw [lg_entry_eq]
  generalize (lg_sl ([.ref z0, .int ka, .int ca]) ++ List.replicate (3 - (lg_sl ([.ref z0, .int ka, .int ca])).length) Slot.unset).toArray = ls at hl ⊢
  have hl : lv_has ls 3 [(0, .ref z0), (1, .int ka), (2, .int ca)] := hl
  refine lv_aload_n hx hb d_MOD_monitor_0 rfl (lv_at hl 0 rfl) ?_
  refine lv_iconst (v := 0) hx hb d_MOD_monitor_1 (by decide) ?_
  refine va_put (D := G.1) (ci := 6) (v := .int 0) (ty := .int) (C := R_MOD) (T := T_MOD) (N := 25) hx hb hT in_MOD t_MOD tok_MOD nok_MOD hown hK hP hD hS 0 rfl rfl 0 (by decide) (hT _ wd_582) (fun _ h9 => h9) rfl (by decide +kernel) rfl rfl (Nat.le_of_ble_eq_true rfl) d_MOD_monitor_2 (fun H locs hP hD hS => ?_)
  have hP : va_P G.1 vwCl [(z0, .inr (6, [.int 0, .int (nI nM), .ref z1, .ref z2, .ref z3, .ref z4, .ref z5, .ref z6, .int (nI nC), .ref z7, .ref z8, .ref z9, .ref z10, .ref z11, .ref z12, .ref z13, .ref z14, .ref z15, .ref z16, .int cyc, .int li, .long me, .long mi, .int (nI sn), .ref z17])), (z1, .inl (G.2 2, 16, .inl fK)), (z2, .inl (G.2 2, 16, .inl fC))] H := hP
  have hD : va_D A [(z0, .inr (6, [.int 0, .int (nI nM), .ref z1, .ref z2, .ref z3, .ref z4, .ref z5, .ref z6, .int (nI nC), .ref z7, .ref z8, .ref z9, .ref z10, .ref z11, .ref z12, .ref z13, .ref z14, .ref z15, .ref z16, .int cyc, .int li, .long me, .long mi, .int (nI sn), .ref z17])), (z1, .inl (G.2 2, 16, .inl fK)), (z2, .inl (G.2 2, 16, .inl fC))] := hD
  refine lv_iload_n hx hb d_MOD_monitor_5 rfl (lv_at hl 1 rfl) ?_
  refine lv_i2l (v := ka.toInt64) hx hb d_MOD_monitor_6 rfl ?_
  refine lv_lconst (v := 0) hx hb d_MOD_monitor_7 (by decide) ?_
  refine lv_ldc2 (v := 3) hx hb hown (hT _ wd_668) d_MOD_monitor_8 ?_
  refine bx_callV (W.runS (As := [.long ka.toInt64, .long 0, .long 3]) (rest := []) ⟨hx, hb, hml, hown, hts⟩ (c_isIn l G ka.toInt64 0 3) ⟨(callB_of 3 hts (gi_all wd_671) rfl rfl rfl (hT _ wd_51) (hT _ wd_669) (by decide +kernel) ⟨Nat.le_of_ble_eq_true rfl, Nat.le_of_ble_eq_true rfl⟩), (hT _ wd_670)⟩ (psR bx_nil hGK) rfl rfl hl.1 rfl (lv_room (Nat.le_of_ble_eq_true rfl)) d_MOD_monitor_11 ⟨Nat.le_of_ble_eq_true rfl, Nat.le_of_ble_eq_true rfl⟩) ?_
  refine lv_if_eq (tgt := 29) hx hb d_MOD_monitor_14 (by decide) (fun c_14 => ?_) (fun c_14 => ?_)
  · refine lv_bipush (v := (-2)) hx hb d_MOD_monitor_29 (by decide) ?_
    have hw9 : ([(z0, .inr (6, [.int 0, .int (nI (mmN ka ca nM)), .ref z1, .ref z2, .ref z3, .ref z4, .ref z5, .ref z6, .int (nI nC), .ref z7, .ref z8, .ref z9, .ref z10, .ref z11, .ref z12, .ref z13, .ref z14, .ref z15, .ref z16, .int cyc, .int li, .long me, .long mi, .int (nI sn), .ref z17])), (z1, .inl (G.2 2, 16, .inl (mmA ka ca nM fK ka))), (z2, .inl (G.2 2, 16, .inl (mmA ka ca nM fC ca)))] : va_W) = [(z0, .inr (6, [.int 0, .int (nI nM), .ref z1, .ref z2, .ref z3, .ref z4, .ref z5, .ref z6, .int (nI nC), .ref z7, .ref z8, .ref z9, .ref z10, .ref z11, .ref z12, .ref z13, .ref z14, .ref z15, .ref z16, .int cyc, .int li, .long me, .long mi, .int (nI sn), .ref z17])), (z1, .inl (G.2 2, 16, .inl fK)), (z2, .inl (G.2 2, 16, .inl fC))] := by first | (simp [mmR, mmN, mmA, mmOk, nI_1, c_14]; done) | (simp_all [mmR, mmN, mmA, mmOk, nI_1]; done)
    rw [← hw9] at hP hD
    have hq9 : (.int (mmR ka ca nM)) = (.int (-2) : Value) := by first | (simp [mmR, mmN, mmA, mmOk, nI_1, c_14]; done) | (simp_all [mmR, mmN, mmA, mmOk, nI_1]; done)
    exact W.iret (v := (-2)) hx hb hr (fun t ht hW => ⟨⟨by rw [hq9], by rw [ht]; exact hP, by rw [hAe]; exact hD⟩, by rw [hAe]; exact hS.F ht⟩) hS.2.2 d_MOD_monitor_31
  · refine lv_iload_n hx hb d_MOD_monitor_17 rfl (lv_at hl 2 rfl) ?_
    refine lv_i2l (v := ca.toInt64) hx hb d_MOD_monitor_18 rfl ?_
    refine lv_lconst (v := 0) hx hb d_MOD_monitor_19 (by decide) ?_
    refine lv_ldc2 (v := 7) hx hb hown (hT _ wd_672) d_MOD_monitor_20 ?_
    refine bx_callV (W.runS (As := [.long ca.toInt64, .long 0, .long 7]) (rest := []) ⟨hx, hb, hml, hown, hts⟩ (c_isIn l G ca.toInt64 0 7) ⟨(callB_of 3 hts (gi_all wd_671) rfl rfl rfl (hT _ wd_51) (hT _ wd_669) (by decide +kernel) ⟨Nat.le_of_ble_eq_true rfl, Nat.le_of_ble_eq_true rfl⟩), (hT _ wd_670)⟩ (psR bx_nil hGK) rfl rfl hl.1 rfl (lv_room (Nat.le_of_ble_eq_true rfl)) d_MOD_monitor_23 ⟨Nat.le_of_ble_eq_true rfl, Nat.le_of_ble_eq_true rfl⟩) ?_
    refine lv_if_ne (tgt := 32) hx hb d_MOD_monitor_26 (by decide) (fun c_26 => ?_) (fun c_26 => ?_)
    · refine lv_aload_n hx hb d_MOD_monitor_32 rfl (lv_at hl 0 rfl) ?_
      refine va_get (D := G.1) (ci := 6) (v := .int (nI nM)) (C := R_MOD) (T := T_MOD) (N := 25) hx hb hT in_MOD hown hK hP 0 rfl rfl 1 (by decide) (hT _ wd_583) (fun _ h9 => h9) rfl d_MOD_monitor_33 ?_
      refine lv_bipush (v := 16) hx hb d_MOD_monitor_36 (by decide) ?_
      refine lv_icmp_ne (tgt := 44) hx hb d_MOD_monitor_38 (by decide) (fun c_38 => ?_) (fun c_38 => ?_)
      · have hlt : nM < 16 := nI_16 hm c_38
        refine lv_aload_n hx hb d_MOD_monitor_44 rfl (lv_at hl 0 rfl) ?_
        refine va_get (D := G.1) (ci := 6) (v := .ref z1) (C := R_MOD) (T := T_MOD) (N := 25) hx hb hT in_MOD hown hK hP 0 rfl rfl 2 (by decide) (hT _ wd_584) (fun _ h9 => h9) rfl d_MOD_monitor_45 ?_
        refine lv_aload_n hx hb d_MOD_monitor_48 rfl (lv_at hl 0 rfl) ?_
        refine va_get (D := G.1) (ci := 6) (v := .int (nI nM)) (C := R_MOD) (T := T_MOD) (N := 25) hx hb hT in_MOD hown hK hP 0 rfl rfl 1 (by decide) (hT _ wd_583) (fun _ h9 => h9) rfl d_MOD_monitor_49 ?_
        refine lv_iload_n hx hb d_MOD_monitor_52 rfl (lv_at hl 1 rfl) ?_
        refine va_iast hx hb hK hP hD hS 1 2 rfl rfl (vp_in_nI (by omega) (by omega)) d_MOD_monitor_53 (fun H locs hP hD hS => ?_)
        rw [nI_clamp (by omega)] at hP hD
        have hP : va_P G.1 vwCl [(z0, .inr (6, [.int 0, .int (nI nM), .ref z1, .ref z2, .ref z3, .ref z4, .ref z5, .ref z6, .int (nI nC), .ref z7, .ref z8, .ref z9, .ref z10, .ref z11, .ref z12, .ref z13, .ref z14, .ref z15, .ref z16, .int cyc, .int li, .long me, .long mi, .int (nI sn), .ref z17])), (z1, .inl (G.2 2, 16, .inl (upd fK nM ka))), (z2, .inl (G.2 2, 16, .inl fC))] H := hP
        have hD : va_D A [(z0, .inr (6, [.int 0, .int (nI nM), .ref z1, .ref z2, .ref z3, .ref z4, .ref z5, .ref z6, .int (nI nC), .ref z7, .ref z8, .ref z9, .ref z10, .ref z11, .ref z12, .ref z13, .ref z14, .ref z15, .ref z16, .int cyc, .int li, .long me, .long mi, .int (nI sn), .ref z17])), (z1, .inl (G.2 2, 16, .inl (upd fK nM ka))), (z2, .inl (G.2 2, 16, .inl fC))] := hD
        refine lv_aload_n hx hb d_MOD_monitor_54 rfl (lv_at hl 0 rfl) ?_
        refine va_get (D := G.1) (ci := 6) (v := .ref z2) (C := R_MOD) (T := T_MOD) (N := 25) hx hb hT in_MOD hown hK hP 0 rfl rfl 3 (by decide) (hT _ wd_585) (fun _ h9 => h9) rfl d_MOD_monitor_55 ?_
        refine lv_aload_n hx hb d_MOD_monitor_58 rfl (lv_at hl 0 rfl) ?_
        refine va_get (D := G.1) (ci := 6) (v := .int (nI nM)) (C := R_MOD) (T := T_MOD) (N := 25) hx hb hT in_MOD hown hK hP 0 rfl rfl 1 (by decide) (hT _ wd_583) (fun _ h9 => h9) rfl d_MOD_monitor_59 ?_
        refine lv_iload_n hx hb d_MOD_monitor_62 rfl (lv_at hl 2 rfl) ?_
        refine va_iast hx hb hK hP hD hS 2 2 rfl rfl (vp_in_nI (by omega) (by omega)) d_MOD_monitor_63 (fun H locs hP hD hS => ?_)
        rw [nI_clamp (by omega)] at hP hD
        have hP : va_P G.1 vwCl [(z0, .inr (6, [.int 0, .int (nI nM), .ref z1, .ref z2, .ref z3, .ref z4, .ref z5, .ref z6, .int (nI nC), .ref z7, .ref z8, .ref z9, .ref z10, .ref z11, .ref z12, .ref z13, .ref z14, .ref z15, .ref z16, .int cyc, .int li, .long me, .long mi, .int (nI sn), .ref z17])), (z1, .inl (G.2 2, 16, .inl (upd fK nM ka))), (z2, .inl (G.2 2, 16, .inl (upd fC nM ca)))] H := hP
        have hD : va_D A [(z0, .inr (6, [.int 0, .int (nI nM), .ref z1, .ref z2, .ref z3, .ref z4, .ref z5, .ref z6, .int (nI nC), .ref z7, .ref z8, .ref z9, .ref z10, .ref z11, .ref z12, .ref z13, .ref z14, .ref z15, .ref z16, .int cyc, .int li, .long me, .long mi, .int (nI sn), .ref z17])), (z1, .inl (G.2 2, 16, .inl (upd fK nM ka))), (z2, .inl (G.2 2, 16, .inl (upd fC nM ca)))] := hD
        refine lv_aload_n hx hb d_MOD_monitor_64 rfl (lv_at hl 0 rfl) ?_
        refine lv_dup hx hb d_MOD_monitor_65 rfl ?_
        refine va_get (D := G.1) (ci := 6) (v := .int (nI nM)) (C := R_MOD) (T := T_MOD) (N := 25) hx hb hT in_MOD hown hK hP 0 rfl rfl 1 (by decide) (hT _ wd_583) (fun _ h9 => h9) rfl d_MOD_monitor_66 ?_
        refine lv_iconst (v := 1) hx hb d_MOD_monitor_69 (by decide) ?_
        refine lv_iadd hx hb d_MOD_monitor_70 ?_
        refine va_put (D := G.1) (ci := 6) (v := .int ((nI nM) + 1)) (ty := .int) (C := R_MOD) (T := T_MOD) (N := 25) hx hb hT in_MOD t_MOD tok_MOD nok_MOD hown hK hP hD hS 0 rfl rfl 1 (by decide) (hT _ wd_583) (fun _ h9 => h9) rfl (by decide +kernel) rfl rfl (Nat.le_of_ble_eq_true rfl) d_MOD_monitor_71 (fun H locs hP hD hS => ?_)
        have hP : va_P G.1 vwCl [(z0, .inr (6, [.int 0, .int ((nI nM) + 1), .ref z1, .ref z2, .ref z3, .ref z4, .ref z5, .ref z6, .int (nI nC), .ref z7, .ref z8, .ref z9, .ref z10, .ref z11, .ref z12, .ref z13, .ref z14, .ref z15, .ref z16, .int cyc, .int li, .long me, .long mi, .int (nI sn), .ref z17])), (z1, .inl (G.2 2, 16, .inl (upd fK nM ka))), (z2, .inl (G.2 2, 16, .inl (upd fC nM ca)))] H := hP
        have hD : va_D A [(z0, .inr (6, [.int 0, .int ((nI nM) + 1), .ref z1, .ref z2, .ref z3, .ref z4, .ref z5, .ref z6, .int (nI nC), .ref z7, .ref z8, .ref z9, .ref z10, .ref z11, .ref z12, .ref z13, .ref z14, .ref z15, .ref z16, .int cyc, .int li, .long me, .long mi, .int (nI sn), .ref z17])), (z1, .inl (G.2 2, 16, .inl (upd fK nM ka))), (z2, .inl (G.2 2, 16, .inl (upd fC nM ca)))] := hD
        refine lv_aload_n hx hb d_MOD_monitor_74 rfl (lv_at hl 0 rfl) ?_
        refine va_get (D := G.1) (ci := 6) (v := .int ((nI nM) + 1)) (C := R_MOD) (T := T_MOD) (N := 25) hx hb hT in_MOD hown hK hP 0 rfl rfl 1 (by decide) (hT _ wd_583) (fun _ h9 => h9) rfl d_MOD_monitor_75 ?_
        have hw9 : ([(z0, .inr (6, [.int 0, .int (nI (mmN ka ca nM)), .ref z1, .ref z2, .ref z3, .ref z4, .ref z5, .ref z6, .int (nI nC), .ref z7, .ref z8, .ref z9, .ref z10, .ref z11, .ref z12, .ref z13, .ref z14, .ref z15, .ref z16, .int cyc, .int li, .long me, .long mi, .int (nI sn), .ref z17])), (z1, .inl (G.2 2, 16, .inl (mmA ka ca nM fK ka))), (z2, .inl (G.2 2, 16, .inl (mmA ka ca nM fC ca)))] : va_W) = [(z0, .inr (6, [.int 0, .int ((nI nM) + 1), .ref z1, .ref z2, .ref z3, .ref z4, .ref z5, .ref z6, .int (nI nC), .ref z7, .ref z8, .ref z9, .ref z10, .ref z11, .ref z12, .ref z13, .ref z14, .ref z15, .ref z16, .int cyc, .int li, .long me, .long mi, .int (nI sn), .ref z17])), (z1, .inl (G.2 2, 16, .inl (upd fK nM ka))), (z2, .inl (G.2 2, 16, .inl (upd fC nM ca)))] := by first | (simp [mmR, mmN, mmA, mmOk, nI_1, c_14, c_26, c_38]; done) | (simp_all [mmR, mmN, mmA, mmOk, nI_1]; done)
        rw [← hw9] at hP hD
        have hq9 : (.int (mmR ka ca nM)) = (.int ((nI nM) + 1) : Value) := by first | (simp [mmR, mmN, mmA, mmOk, nI_1, c_14, c_26, c_38]; done) | (simp_all [mmR, mmN, mmA, mmOk, nI_1]; done)
        exact W.iret (v := (nI nM) + 1) hx hb hr (fun t ht hW => ⟨⟨by rw [hq9], by rw [ht]; exact hP, by rw [hAe]; exact hD⟩, by rw [hAe]; exact hS.F ht⟩) hS.2.2 d_MOD_monitor_78
      · refine lv_bipush (v := (-4)) hx hb d_MOD_monitor_41 (by decide) ?_
        have hw9 : ([(z0, .inr (6, [.int 0, .int (nI (mmN ka ca nM)), .ref z1, .ref z2, .ref z3, .ref z4, .ref z5, .ref z6, .int (nI nC), .ref z7, .ref z8, .ref z9, .ref z10, .ref z11, .ref z12, .ref z13, .ref z14, .ref z15, .ref z16, .int cyc, .int li, .long me, .long mi, .int (nI sn), .ref z17])), (z1, .inl (G.2 2, 16, .inl (mmA ka ca nM fK ka))), (z2, .inl (G.2 2, 16, .inl (mmA ka ca nM fC ca)))] : va_W) = [(z0, .inr (6, [.int 0, .int (nI nM), .ref z1, .ref z2, .ref z3, .ref z4, .ref z5, .ref z6, .int (nI nC), .ref z7, .ref z8, .ref z9, .ref z10, .ref z11, .ref z12, .ref z13, .ref z14, .ref z15, .ref z16, .int cyc, .int li, .long me, .long mi, .int (nI sn), .ref z17])), (z1, .inl (G.2 2, 16, .inl fK)), (z2, .inl (G.2 2, 16, .inl fC))] := by first | (simp [mmR, mmN, mmA, mmOk, nI_1, c_14, c_26, c_38]; done) | (simp_all [mmR, mmN, mmA, mmOk, nI_1]; done)
        rw [← hw9] at hP hD
        have hq9 : (.int (mmR ka ca nM)) = (.int (-4) : Value) := by first | (simp [mmR, mmN, mmA, mmOk, nI_1, c_14, c_26, c_38]; done) | (simp_all [mmR, mmN, mmA, mmOk, nI_1]; done)
        exact W.iret (v := (-4)) hx hb hr (fun t ht hW => ⟨⟨by rw [hq9], by rw [ht]; exact hP, by rw [hAe]; exact hD⟩, by rw [hAe]; exact hS.F ht⟩) hS.2.2 d_MOD_monitor_43
    · refine lv_bipush (v := (-2)) hx hb d_MOD_monitor_29 (by decide) ?_
      have hw9 : ([(z0, .inr (6, [.int 0, .int (nI (mmN ka ca nM)), .ref z1, .ref z2, .ref z3, .ref z4, .ref z5, .ref z6, .int (nI nC), .ref z7, .ref z8, .ref z9, .ref z10, .ref z11, .ref z12, .ref z13, .ref z14, .ref z15, .ref z16, .int cyc, .int li, .long me, .long mi, .int (nI sn), .ref z17])), (z1, .inl (G.2 2, 16, .inl (mmA ka ca nM fK ka))), (z2, .inl (G.2 2, 16, .inl (mmA ka ca nM fC ca)))] : va_W) = [(z0, .inr (6, [.int 0, .int (nI nM), .ref z1, .ref z2, .ref z3, .ref z4, .ref z5, .ref z6, .int (nI nC), .ref z7, .ref z8, .ref z9, .ref z10, .ref z11, .ref z12, .ref z13, .ref z14, .ref z15, .ref z16, .int cyc, .int li, .long me, .long mi, .int (nI sn), .ref z17])), (z1, .inl (G.2 2, 16, .inl fK)), (z2, .inl (G.2 2, 16, .inl fC))] := by first | (simp [mmR, mmN, mmA, mmOk, nI_1, c_14, c_26]; done) | (simp_all [mmR, mmN, mmA, mmOk, nI_1]; done)
      rw [← hw9] at hP hD
      have hq9 : (.int (mmR ka ca nM)) = (.int (-2) : Value) := by first | (simp [mmR, mmN, mmA, mmOk, nI_1, c_14, c_26]; done) | (simp_all [mmR, mmN, mmA, mmOk, nI_1]; done)
      exact W.iret (v := (-2)) hx hb hr (fun t ht hW => ⟨⟨by rw [hq9], by rw [ht]; exact hP, by rw [hAe]; exact hD⟩, by rw [hAe]; exact hS.F ht⟩) hS.2.2 d_MOD_monitor_31
set_option maxHeartbeats 4000000 in
set_option maxRecDepth 100000 in
theorem c_mfault (l : Launch) (G : GG) (sz : Nat) (z0 : Nat) (z1 : Nat) (z2 : Nat) (z3 : Nat) (z4 : Nat) (z5 : Nat) (z6 : Nat) (z7 : Nat) (z8 : Nat) (z9 : Nat) (z10 : Nat) (z11 : Nat) (z12 : Nat) (z13 : Nat) (z14 : Nat) (z15 : Nat) (z16 : Nat) (z17 : Nat) (cdv : Int32) (cyc : Int32) (li : Int32) (nM : Nat) (nC : Nat) (sn : Nat) (me : Int64) (mi : Int64) (gN : Nat → Int32) (gO : Nat → Int32) (nu : Int32) (onn : Int32) (hn : nC ≤ 20) (hon : bz onn) : Met l y_MOD_fault w_MOD_fault ({ frames := 1, cells := 0, slots := 0, locals := 25 }) (va_Pc [.ref z0, .int nu, .int onn] (Pw G sz [(z0, .inr (6, [.int cdv, .int (nI nM), .ref z1, .ref z2, .ref z3, .ref z4, .ref z5, .ref z6, .int (nI nC), .ref z7, .ref z8, .ref z9, .ref z10, .ref z11, .ref z12, .ref z13, .ref z14, .ref z15, .ref z16, .int cyc, .int li, .long me, .long mi, .int (nI sn), .ref z17])), (z7, .inl (G.2 2, 20, .inl gN)), (z8, .inl (G.2 3, 20, .inl gO))])) (QW G (some (.int (mfR gN nu nC))) [(z0, .inr (6, [.int cdv, .int (nI nM), .ref z1, .ref z2, .ref z3, .ref z4, .ref z5, .ref z6, .int (nI nC), .ref z7, .ref z8, .ref z9, .ref z10, .ref z11, .ref z12, .ref z13, .ref z14, .ref z15, .ref z16, .int cyc, .int li, .long me, .long mi, .int (nI sn), .ref z17])), (z7, .inl (G.2 2, 20, .inl gN)), (z8, .inl (G.2 3, 20, .inl gO))] [(z0, .inr (6, [.int 0, .int (nI nM), .ref z1, .ref z2, .ref z3, .ref z4, .ref z5, .ref z6, .int (nI (mfN gN nu nC)), .ref z7, .ref z8, .ref z9, .ref z10, .ref z11, .ref z12, .ref z13, .ref z14, .ref z15, .ref z16, .int cyc, .int li, .long me, .long mi, .int (nI sn), .ref z17])), (z7, .inl (G.2 2, 20, .inl (mfA gN nu nC))), (z8, .inl (G.2 3, 20, .inl (mfO gN gO nu onn nC)))] sz) 0 0 (va_A [(z0, .inr (6, [.int cdv, .int (nI nM), .ref z1, .ref z2, .ref z3, .ref z4, .ref z5, .ref z6, .int (nI nC), .ref z7, .ref z8, .ref z9, .ref z10, .ref z11, .ref z12, .ref z13, .ref z14, .ref z15, .ref z16, .int cyc, .int li, .long me, .long mi, .int (nI sn), .ref z17])), (z7, .inl (G.2 2, 20, .inl gN)), (z8, .inl (G.2 3, 20, .inl gO))] sz) := by
  refine Met.ofW (cc := b_MOD_fault) (maxL := 4) (ret := (some .int)) (by decide) rfl ?_
  intro p e s m args below meth c s₁ B hml hv
  obtain ⟨rfl, hsz, hP, hGK, hD0⟩ := hv
  have hx := B.exec
  have hb := B.bytes
  have hr := B.returns
  have hts := atoms_spec (ws := w_MOD_fault) B.pre
  have hT : ∀ w ∈ lwG, w.before _ s = true := fun w h => hts w (List.mem_cons_of_mem _ h)
  have hown : s.vm.findClass R_MOD = some m.cls := findClass_of_methodNamed B.named
  have hlocks := B.notSynchronized
  have hK := hGK.1
  have hN := hGK.2
  subst hsz
  have hD := hD0.self (sz := s.heap.size)
  generalize hAe : va_A [(z0, .inr (6, [.int cdv, .int (nI nM), .ref z1, .ref z2, .ref z3, .ref z4, .ref z5, .ref z6, .int (nI nC), .ref z7, .ref z8, .ref z9, .ref z10, .ref z11, .ref z12, .ref z13, .ref z14, .ref z15, .ref z16, .int cyc, .int li, .long me, .long mi, .int (nI sn), .ref z17])), (z7, .inl (G.2 2, 20, .inl gN)), (z8, .inl (G.2 3, 20, .inl gO))] s.heap.size = A at hD ⊢
  have hA : ∀ q : Nat, s.heap.size ≤ q → A q := fun q h => by rw [← hAe]; exact Or.inr h
  have hS : va_S A s.heap s.heap [] := va_S.rf
  have hP : va_P G.1 vwCl [(z0, .inr (6, [.int cdv, .int (nI nM), .ref z1, .ref z2, .ref z3, .ref z4, .ref z5, .ref z6, .int (nI nC), .ref z7, .ref z8, .ref z9, .ref z10, .ref z11, .ref z12, .ref z13, .ref z14, .ref z15, .ref z16, .int cyc, .int li, .long me, .long mi, .int (nI sn), .ref z17])), (z7, .inl (G.2 2, 20, .inl gN)), (z8, .inl (G.2 3, 20, .inl gO))] s.heap := hP
  have hl := lv_entry ([.ref z0, .int nu, .int onn]) (n := 4) (Nat.le_of_ble_eq_true rfl)
  rw [lg_entry_eq]
  generalize (lg_sl ([.ref z0, .int nu, .int onn]) ++ List.replicate (4 - (lg_sl ([.ref z0, .int nu, .int onn])).length) Slot.unset).toArray = ls at hl ⊢
  have hl : lv_has ls 4 [(0, .ref z0), (1, .int nu), (2, .int onn)] := hl
  refine lv_aload_n hx hb d_MOD_fault_0 rfl (lv_at hl 0 rfl) ?_
  refine lv_iconst (v := 0) hx hb d_MOD_fault_1 (by decide) ?_
  refine va_put (D := G.1) (ci := 6) (v := .int 0) (ty := .int) (C := R_MOD) (T := T_MOD) (N := 25) hx hb hT in_MOD t_MOD tok_MOD nok_MOD hown hK hP hD hS 0 rfl rfl 0 (by decide) (hT _ wd_582) (fun _ h9 => h9) rfl (by decide +kernel) rfl rfl (Nat.le_of_ble_eq_true rfl) d_MOD_fault_2 (fun H locs hP hD hS => ?_)
  have hP : va_P G.1 vwCl [(z0, .inr (6, [.int 0, .int (nI nM), .ref z1, .ref z2, .ref z3, .ref z4, .ref z5, .ref z6, .int (nI nC), .ref z7, .ref z8, .ref z9, .ref z10, .ref z11, .ref z12, .ref z13, .ref z14, .ref z15, .ref z16, .int cyc, .int li, .long me, .long mi, .int (nI sn), .ref z17])), (z7, .inl (G.2 2, 20, .inl gN)), (z8, .inl (G.2 3, 20, .inl gO))] H := hP
  have hD : va_D A [(z0, .inr (6, [.int 0, .int (nI nM), .ref z1, .ref z2, .ref z3, .ref z4, .ref z5, .ref z6, .int (nI nC), .ref z7, .ref z8, .ref z9, .ref z10, .ref z11, .ref z12, .ref z13, .ref z14, .ref z15, .ref z16, .int cyc, .int li, .long me, .long mi, .int (nI sn), .ref z17])), (z7, .inl (G.2 2, 20, .inl gN)), (z8, .inl (G.2 3, 20, .inl gO))] := hD
  refine lv_iload_n hx hb d_MOD_fault_5 rfl (lv_at hl 1 rfl) ?_
  refine lv_i2l (v := nu.toInt64) hx hb d_MOD_fault_6 rfl ?_
  refine lv_lconst (v := 1) hx hb d_MOD_fault_7 (by decide) ?_
  refine lv_ldc2 (v := 65535) hx hb hown (hT _ wd_678) d_MOD_fault_8 ?_
  refine bx_callV (W.runS (As := [.long nu.toInt64, .long 1, .long 65535]) (rest := []) ⟨hx, hb, hml, hown, hts⟩ (c_isIn l G nu.toInt64 1 65535) ⟨(callB_of 3 hts (gi_all wd_671) rfl rfl rfl (hT _ wd_51) (hT _ wd_669) (by decide +kernel) ⟨Nat.le_of_ble_eq_true rfl, Nat.le_of_ble_eq_true rfl⟩), (hT _ wd_670)⟩ (psR bx_nil hGK) rfl rfl hl.1 rfl (lv_room (Nat.le_of_ble_eq_true rfl)) d_MOD_fault_11 ⟨Nat.le_of_ble_eq_true rfl, Nat.le_of_ble_eq_true rfl⟩) ?_
  refine lv_if_ne (tgt := 20) hx hb d_MOD_fault_14 (by decide) (fun c_14 => ?_) (fun c_14 => ?_)
  · refine lv_iconst (v := 0) hx hb d_MOD_fault_20 (by decide) ?_
    refine lv_istore_n (lv' := [(3, .int 0), (0, .ref z0), (1, .int nu), (2, .int onn)]) hx hb d_MOD_fault_21 rfl hl (by decide) rfl (fun ls hl => ?_)
    refine bx_loop (σ := Nat) (fun q H locs ls => q ≤ nC ∧ mkF gN nu nC (nC - q) = mkF gN nu nC nC ∧ va_P G.1 vwCl [(z0, .inr (6, [.int 0, .int (nI nM), .ref z1, .ref z2, .ref z3, .ref z4, .ref z5, .ref z6, .int (nI nC), .ref z7, .ref z8, .ref z9, .ref z10, .ref z11, .ref z12, .ref z13, .ref z14, .ref z15, .ref z16, .int cyc, .int li, .long me, .long mi, .int (nI sn), .ref z17])), (z7, .inl (G.2 2, 20, .inl gN)), (z8, .inl (G.2 3, 20, .inl gO))] H ∧ va_D A [(z0, .inr (6, [.int 0, .int (nI nM), .ref z1, .ref z2, .ref z3, .ref z4, .ref z5, .ref z6, .int (nI nC), .ref z7, .ref z8, .ref z9, .ref z10, .ref z11, .ref z12, .ref z13, .ref z14, .ref z15, .ref z16, .int cyc, .int li, .long me, .long mi, .int (nI sn), .ref z17])), (z7, .inl (G.2 2, 20, .inl gN)), (z8, .inl (G.2 3, 20, .inl gO))] ∧ va_S A s.heap H locs ∧ lv_has ls 4 [(0, .ref z0), (1, .int nu), (2, .int onn), (3, .int (nI q))]) (fun q => nC - q) _ (fun q H locs ls hI ih => ?_) 0 ls ⟨Nat.zero_le _, rfl, hP, hD, hS, lv_sub hl [1, 2, 3, 0] rfl⟩
    revert hI ih; generalize q = k; intro hI ih
    obtain ⟨hknk, hmk, hP, hD, hS, hl⟩ := hI
    have hknk : k ≤ nC := hknk
    have hmk : mkF gN nu nC (nC - k) = mkF gN nu nC nC := hmk
    have hP : va_P G.1 vwCl [(z0, .inr (6, [.int 0, .int (nI nM), .ref z1, .ref z2, .ref z3, .ref z4, .ref z5, .ref z6, .int (nI nC), .ref z7, .ref z8, .ref z9, .ref z10, .ref z11, .ref z12, .ref z13, .ref z14, .ref z15, .ref z16, .int cyc, .int li, .long me, .long mi, .int (nI sn), .ref z17])), (z7, .inl (G.2 2, 20, .inl gN)), (z8, .inl (G.2 3, 20, .inl gO))] H := hP
    have hD : va_D A [(z0, .inr (6, [.int 0, .int (nI nM), .ref z1, .ref z2, .ref z3, .ref z4, .ref z5, .ref z6, .int (nI nC), .ref z7, .ref z8, .ref z9, .ref z10, .ref z11, .ref z12, .ref z13, .ref z14, .ref z15, .ref z16, .int cyc, .int li, .long me, .long mi, .int (nI sn), .ref z17])), (z7, .inl (G.2 2, 20, .inl gN)), (z8, .inl (G.2 3, 20, .inl gO))] := hD
    have hl : lv_has ls 4 [(0, .ref z0), (1, .int nu), (2, .int onn), (3, .int (nI k))] := hl
    refine lv_iload_n hx hb d_MOD_fault_22 rfl (lv_at hl 3 rfl) ?_
    refine lv_aload_n hx hb d_MOD_fault_23 rfl (lv_at hl 0 rfl) ?_
    refine va_get (D := G.1) (ci := 6) (v := .int (nI nC)) (C := R_MOD) (T := T_MOD) (N := 25) hx hb hT in_MOD hown hK hP 0 rfl rfl 8 (by decide) (hT _ wd_590) (fun _ h9 => h9) rfl d_MOD_fault_24 ?_
    refine lv_icmp_ge (tgt := 46) hx hb d_MOD_fault_27 (by decide) (fun c_27 => ?_) (fun c_27 => ?_)
    · have hge : nC ≤ k := (nI_leI (by omega) (by omega)).mp c_27
      have hke : k = nC := by omega
      have hmk9 : mkF gN nu nC nC = k := by rw [← hmk, hke, Nat.sub_self]; rfl
      refine lv_iload_n hx hb d_MOD_fault_46 rfl (lv_at hl 3 rfl) ?_
      refine lv_bipush (v := 20) hx hb d_MOD_fault_47 (by decide) ?_
      refine lv_icmp_ne (tgt := 55) hx hb d_MOD_fault_49 (by decide) (fun c_49 => ?_) (fun c_49 => ?_)
      · have hk20 : k < 20 := nI_20 (by omega) c_49
        refine lv_iload_n hx hb d_MOD_fault_55 rfl (lv_at hl 3 rfl) ?_
        refine lv_aload_n hx hb d_MOD_fault_56 rfl (lv_at hl 0 rfl) ?_
        refine va_get (D := G.1) (ci := 6) (v := .int (nI nC)) (C := R_MOD) (T := T_MOD) (N := 25) hx hb hT in_MOD hown hK hP 0 rfl rfl 8 (by decide) (hT _ wd_590) (fun _ h9 => h9) rfl d_MOD_fault_57 ?_
        refine lv_icmp_ne (tgt := 80) hx hb d_MOD_fault_60 (by decide) (fun c_60 => ?_) (fun c_60 => ?_)
        · refine lv_aload_n hx hb d_MOD_fault_80 rfl (lv_at hl 0 rfl) ?_
          refine va_get (D := G.1) (ci := 6) (v := .ref z8) (C := R_MOD) (T := T_MOD) (N := 25) hx hb hT in_MOD hown hK hP 0 rfl rfl 10 (by decide) (hT _ wd_592) (fun _ h9 => h9) rfl d_MOD_fault_81 ?_
          refine lv_iload_n hx hb d_MOD_fault_84 rfl (lv_at hl 3 rfl) ?_
          refine lv_iload_n hx hb d_MOD_fault_85 rfl (lv_at hl 2 rfl) ?_
          refine va_zast hx hb hK hP hD hS 2 3 rfl rfl (vp_in_nI (by omega) (by omega)) d_MOD_fault_86 (fun H locs hP hD hS => ?_)
          rw [nI_clamp (by omega), bz.v (by assumption)] at hP hD
          have hP : va_P G.1 vwCl [(z0, .inr (6, [.int 0, .int (nI nM), .ref z1, .ref z2, .ref z3, .ref z4, .ref z5, .ref z6, .int (nI nC), .ref z7, .ref z8, .ref z9, .ref z10, .ref z11, .ref z12, .ref z13, .ref z14, .ref z15, .ref z16, .int cyc, .int li, .long me, .long mi, .int (nI sn), .ref z17])), (z7, .inl (G.2 2, 20, .inl gN)), (z8, .inl (G.2 3, 20, .inl (upd gO k onn)))] H := hP
          have hD : va_D A [(z0, .inr (6, [.int 0, .int (nI nM), .ref z1, .ref z2, .ref z3, .ref z4, .ref z5, .ref z6, .int (nI nC), .ref z7, .ref z8, .ref z9, .ref z10, .ref z11, .ref z12, .ref z13, .ref z14, .ref z15, .ref z16, .int cyc, .int li, .long me, .long mi, .int (nI sn), .ref z17])), (z7, .inl (G.2 2, 20, .inl gN)), (z8, .inl (G.2 3, 20, .inl (upd gO k onn)))] := hD
          refine lv_aload_n hx hb d_MOD_fault_87 rfl (lv_at hl 0 rfl) ?_
          refine va_get (D := G.1) (ci := 6) (v := .int (nI nC)) (C := R_MOD) (T := T_MOD) (N := 25) hx hb hT in_MOD hown hK hP 0 rfl rfl 8 (by decide) (hT _ wd_590) (fun _ h9 => h9) rfl d_MOD_fault_88 ?_
          have hw9 : ([(z0, .inr (6, [.int 0, .int (nI nM), .ref z1, .ref z2, .ref z3, .ref z4, .ref z5, .ref z6, .int (nI (mfN gN nu nC)), .ref z7, .ref z8, .ref z9, .ref z10, .ref z11, .ref z12, .ref z13, .ref z14, .ref z15, .ref z16, .int cyc, .int li, .long me, .long mi, .int (nI sn), .ref z17])), (z7, .inl (G.2 2, 20, .inl (mfA gN nu nC))), (z8, .inl (G.2 3, 20, .inl (mfO gN gO nu onn nC)))] : va_W) = [(z0, .inr (6, [.int 0, .int (nI nM), .ref z1, .ref z2, .ref z3, .ref z4, .ref z5, .ref z6, .int (nI nC), .ref z7, .ref z8, .ref z9, .ref z10, .ref z11, .ref z12, .ref z13, .ref z14, .ref z15, .ref z16, .int cyc, .int li, .long me, .long mi, .int (nI sn), .ref z17])), (z7, .inl (G.2 2, 20, .inl gN)), (z8, .inl (G.2 3, 20, .inl (upd gO k onn)))] := by first | (simp [mfR, mfN, mfA, mfO, mfOk, nI_1, hmk9, c_14, c_27, c_49, c_60]; done) | (simp_all [mfR, mfN, mfA, mfO, mfOk, nI_1]; done)
          rw [← hw9] at hP hD
          have hq9 : (.int (mfR gN nu nC)) = (.int (nI nC) : Value) := by first | (simp [mfR, mfN, mfA, mfO, mfOk, nI_1, hmk9, c_14, c_27, c_49, c_60]; done) | (simp_all [mfR, mfN, mfA, mfO, mfOk, nI_1]; done)
          exact W.iret (v := nI nC) hx hb hr (fun t ht hW => ⟨⟨by rw [hq9], by rw [ht]; exact hP, by rw [hAe]; exact hD⟩, by rw [hAe]; exact hS.F ht⟩) hS.2.2 d_MOD_fault_91
        · refine lv_aload_n hx hb d_MOD_fault_63 rfl (lv_at hl 0 rfl) ?_
          refine va_get (D := G.1) (ci := 6) (v := .ref z7) (C := R_MOD) (T := T_MOD) (N := 25) hx hb hT in_MOD hown hK hP 0 rfl rfl 9 (by decide) (hT _ wd_591) (fun _ h9 => h9) rfl d_MOD_fault_64 ?_
          refine lv_iload_n hx hb d_MOD_fault_67 rfl (lv_at hl 3 rfl) ?_
          refine lv_iload_n hx hb d_MOD_fault_68 rfl (lv_at hl 1 rfl) ?_
          refine va_iast hx hb hK hP hD hS 1 2 rfl rfl (vp_in_nI (by omega) (by omega)) d_MOD_fault_69 (fun H locs hP hD hS => ?_)
          rw [nI_clamp (by omega)] at hP hD
          have hP : va_P G.1 vwCl [(z0, .inr (6, [.int 0, .int (nI nM), .ref z1, .ref z2, .ref z3, .ref z4, .ref z5, .ref z6, .int (nI nC), .ref z7, .ref z8, .ref z9, .ref z10, .ref z11, .ref z12, .ref z13, .ref z14, .ref z15, .ref z16, .int cyc, .int li, .long me, .long mi, .int (nI sn), .ref z17])), (z7, .inl (G.2 2, 20, .inl (upd gN k nu))), (z8, .inl (G.2 3, 20, .inl gO))] H := hP
          have hD : va_D A [(z0, .inr (6, [.int 0, .int (nI nM), .ref z1, .ref z2, .ref z3, .ref z4, .ref z5, .ref z6, .int (nI nC), .ref z7, .ref z8, .ref z9, .ref z10, .ref z11, .ref z12, .ref z13, .ref z14, .ref z15, .ref z16, .int cyc, .int li, .long me, .long mi, .int (nI sn), .ref z17])), (z7, .inl (G.2 2, 20, .inl (upd gN k nu))), (z8, .inl (G.2 3, 20, .inl gO))] := hD
          refine lv_aload_n hx hb d_MOD_fault_70 rfl (lv_at hl 0 rfl) ?_
          refine lv_dup hx hb d_MOD_fault_71 rfl ?_
          refine va_get (D := G.1) (ci := 6) (v := .int (nI nC)) (C := R_MOD) (T := T_MOD) (N := 25) hx hb hT in_MOD hown hK hP 0 rfl rfl 8 (by decide) (hT _ wd_590) (fun _ h9 => h9) rfl d_MOD_fault_72 ?_
          refine lv_iconst (v := 1) hx hb d_MOD_fault_75 (by decide) ?_
          refine lv_iadd hx hb d_MOD_fault_76 ?_
          refine va_put (D := G.1) (ci := 6) (v := .int ((nI nC) + 1)) (ty := .int) (C := R_MOD) (T := T_MOD) (N := 25) hx hb hT in_MOD t_MOD tok_MOD nok_MOD hown hK hP hD hS 0 rfl rfl 8 (by decide) (hT _ wd_590) (fun _ h9 => h9) rfl (by decide +kernel) rfl rfl (Nat.le_of_ble_eq_true rfl) d_MOD_fault_77 (fun H locs hP hD hS => ?_)
          have hP : va_P G.1 vwCl [(z0, .inr (6, [.int 0, .int (nI nM), .ref z1, .ref z2, .ref z3, .ref z4, .ref z5, .ref z6, .int ((nI nC) + 1), .ref z7, .ref z8, .ref z9, .ref z10, .ref z11, .ref z12, .ref z13, .ref z14, .ref z15, .ref z16, .int cyc, .int li, .long me, .long mi, .int (nI sn), .ref z17])), (z7, .inl (G.2 2, 20, .inl (upd gN k nu))), (z8, .inl (G.2 3, 20, .inl gO))] H := hP
          have hD : va_D A [(z0, .inr (6, [.int 0, .int (nI nM), .ref z1, .ref z2, .ref z3, .ref z4, .ref z5, .ref z6, .int ((nI nC) + 1), .ref z7, .ref z8, .ref z9, .ref z10, .ref z11, .ref z12, .ref z13, .ref z14, .ref z15, .ref z16, .int cyc, .int li, .long me, .long mi, .int (nI sn), .ref z17])), (z7, .inl (G.2 2, 20, .inl (upd gN k nu))), (z8, .inl (G.2 3, 20, .inl gO))] := hD
          refine lv_aload_n hx hb d_MOD_fault_80 rfl (lv_at hl 0 rfl) ?_
          refine va_get (D := G.1) (ci := 6) (v := .ref z8) (C := R_MOD) (T := T_MOD) (N := 25) hx hb hT in_MOD hown hK hP 0 rfl rfl 10 (by decide) (hT _ wd_592) (fun _ h9 => h9) rfl d_MOD_fault_81 ?_
          refine lv_iload_n hx hb d_MOD_fault_84 rfl (lv_at hl 3 rfl) ?_
          refine lv_iload_n hx hb d_MOD_fault_85 rfl (lv_at hl 2 rfl) ?_
          refine va_zast hx hb hK hP hD hS 2 3 rfl rfl (vp_in_nI (by omega) (by omega)) d_MOD_fault_86 (fun H locs hP hD hS => ?_)
          rw [nI_clamp (by omega), bz.v (by assumption)] at hP hD
          have hP : va_P G.1 vwCl [(z0, .inr (6, [.int 0, .int (nI nM), .ref z1, .ref z2, .ref z3, .ref z4, .ref z5, .ref z6, .int ((nI nC) + 1), .ref z7, .ref z8, .ref z9, .ref z10, .ref z11, .ref z12, .ref z13, .ref z14, .ref z15, .ref z16, .int cyc, .int li, .long me, .long mi, .int (nI sn), .ref z17])), (z7, .inl (G.2 2, 20, .inl (upd gN k nu))), (z8, .inl (G.2 3, 20, .inl (upd gO k onn)))] H := hP
          have hD : va_D A [(z0, .inr (6, [.int 0, .int (nI nM), .ref z1, .ref z2, .ref z3, .ref z4, .ref z5, .ref z6, .int ((nI nC) + 1), .ref z7, .ref z8, .ref z9, .ref z10, .ref z11, .ref z12, .ref z13, .ref z14, .ref z15, .ref z16, .int cyc, .int li, .long me, .long mi, .int (nI sn), .ref z17])), (z7, .inl (G.2 2, 20, .inl (upd gN k nu))), (z8, .inl (G.2 3, 20, .inl (upd gO k onn)))] := hD
          refine lv_aload_n hx hb d_MOD_fault_87 rfl (lv_at hl 0 rfl) ?_
          refine va_get (D := G.1) (ci := 6) (v := .int ((nI nC) + 1)) (C := R_MOD) (T := T_MOD) (N := 25) hx hb hT in_MOD hown hK hP 0 rfl rfl 8 (by decide) (hT _ wd_590) (fun _ h9 => h9) rfl d_MOD_fault_88 ?_
          have hw9 : ([(z0, .inr (6, [.int 0, .int (nI nM), .ref z1, .ref z2, .ref z3, .ref z4, .ref z5, .ref z6, .int (nI (mfN gN nu nC)), .ref z7, .ref z8, .ref z9, .ref z10, .ref z11, .ref z12, .ref z13, .ref z14, .ref z15, .ref z16, .int cyc, .int li, .long me, .long mi, .int (nI sn), .ref z17])), (z7, .inl (G.2 2, 20, .inl (mfA gN nu nC))), (z8, .inl (G.2 3, 20, .inl (mfO gN gO nu onn nC)))] : va_W) = [(z0, .inr (6, [.int 0, .int (nI nM), .ref z1, .ref z2, .ref z3, .ref z4, .ref z5, .ref z6, .int ((nI nC) + 1), .ref z7, .ref z8, .ref z9, .ref z10, .ref z11, .ref z12, .ref z13, .ref z14, .ref z15, .ref z16, .int cyc, .int li, .long me, .long mi, .int (nI sn), .ref z17])), (z7, .inl (G.2 2, 20, .inl (upd gN k nu))), (z8, .inl (G.2 3, 20, .inl (upd gO k onn)))] := by first | (simp [mfR, mfN, mfA, mfO, mfOk, nI_1, hmk9, c_14, c_27, c_49, c_60]; done) | (simp_all [mfR, mfN, mfA, mfO, mfOk, nI_1]; done)
          rw [← hw9] at hP hD
          have hq9 : (.int (mfR gN nu nC)) = (.int ((nI nC) + 1) : Value) := by first | (simp [mfR, mfN, mfA, mfO, mfOk, nI_1, hmk9, c_14, c_27, c_49, c_60]; done) | (simp_all [mfR, mfN, mfA, mfO, mfOk, nI_1]; done)
          exact W.iret (v := (nI nC) + 1) hx hb hr (fun t ht hW => ⟨⟨by rw [hq9], by rw [ht]; exact hP, by rw [hAe]; exact hD⟩, by rw [hAe]; exact hS.F ht⟩) hS.2.2 d_MOD_fault_91
      · refine lv_bipush (v := (-4)) hx hb d_MOD_fault_52 (by decide) ?_
        have hw9 : ([(z0, .inr (6, [.int 0, .int (nI nM), .ref z1, .ref z2, .ref z3, .ref z4, .ref z5, .ref z6, .int (nI (mfN gN nu nC)), .ref z7, .ref z8, .ref z9, .ref z10, .ref z11, .ref z12, .ref z13, .ref z14, .ref z15, .ref z16, .int cyc, .int li, .long me, .long mi, .int (nI sn), .ref z17])), (z7, .inl (G.2 2, 20, .inl (mfA gN nu nC))), (z8, .inl (G.2 3, 20, .inl (mfO gN gO nu onn nC)))] : va_W) = [(z0, .inr (6, [.int 0, .int (nI nM), .ref z1, .ref z2, .ref z3, .ref z4, .ref z5, .ref z6, .int (nI nC), .ref z7, .ref z8, .ref z9, .ref z10, .ref z11, .ref z12, .ref z13, .ref z14, .ref z15, .ref z16, .int cyc, .int li, .long me, .long mi, .int (nI sn), .ref z17])), (z7, .inl (G.2 2, 20, .inl gN)), (z8, .inl (G.2 3, 20, .inl gO))] := by first | (simp [mfR, mfN, mfA, mfO, mfOk, nI_1, hmk9, c_14, c_27, c_49]; done) | (simp_all [mfR, mfN, mfA, mfO, mfOk, nI_1]; done)
        rw [← hw9] at hP hD
        have hq9 : (.int (mfR gN nu nC)) = (.int (-4) : Value) := by first | (simp [mfR, mfN, mfA, mfO, mfOk, nI_1, hmk9, c_14, c_27, c_49]; done) | (simp_all [mfR, mfN, mfA, mfO, mfOk, nI_1]; done)
        exact W.iret (v := (-4)) hx hb hr (fun t ht hW => ⟨⟨by rw [hq9], by rw [ht]; exact hP, by rw [hAe]; exact hD⟩, by rw [hAe]; exact hS.F ht⟩) hS.2.2 d_MOD_fault_54
    · have hk : k < nC := Nat.not_le.mp (fun z => c_27 (nI_le z (by omega)))
      refine lv_aload_n hx hb d_MOD_fault_30 rfl (lv_at hl 0 rfl) ?_
      refine va_get (D := G.1) (ci := 6) (v := .ref z7) (C := R_MOD) (T := T_MOD) (N := 25) hx hb hT in_MOD hown hK hP 0 rfl rfl 9 (by decide) (hT _ wd_591) (fun _ h9 => h9) rfl d_MOD_fault_31 ?_
      refine lv_iload_n hx hb d_MOD_fault_34 rfl (lv_at hl 3 rfl) ?_
      refine va_iald hx hb hK hP 1 2 rfl rfl (vp_in_nI (by omega) (by omega)) d_MOD_fault_35 ?_
      refine W.eq (g2 := F0 m 36 ls (.int (gN k) :: [])) (by rw [nI_clamp (by omega)]) ?_
      refine lv_iload_n hx hb d_MOD_fault_36 rfl (lv_at hl 1 rfl) ?_
      refine lv_icmp_eq (tgt := 46) hx hb d_MOD_fault_37 (by decide) (fun c_37 => ?_) (fun c_37 => ?_)
      · have hmk9 : mkF gN nu nC nC = k := by rw [← hmk, mkF_step _ hk, if_pos c_37]
        refine lv_iload_n hx hb d_MOD_fault_46 rfl (lv_at hl 3 rfl) ?_
        refine lv_bipush (v := 20) hx hb d_MOD_fault_47 (by decide) ?_
        refine lv_icmp_ne (tgt := 55) hx hb d_MOD_fault_49 (by decide) (fun c_49 => ?_) (fun c_49 => ?_)
        · have hk20 : k < 20 := nI_20 (by omega) c_49
          refine lv_iload_n hx hb d_MOD_fault_55 rfl (lv_at hl 3 rfl) ?_
          refine lv_aload_n hx hb d_MOD_fault_56 rfl (lv_at hl 0 rfl) ?_
          refine va_get (D := G.1) (ci := 6) (v := .int (nI nC)) (C := R_MOD) (T := T_MOD) (N := 25) hx hb hT in_MOD hown hK hP 0 rfl rfl 8 (by decide) (hT _ wd_590) (fun _ h9 => h9) rfl d_MOD_fault_57 ?_
          refine lv_icmp_ne (tgt := 80) hx hb d_MOD_fault_60 (by decide) (fun c_60 => ?_) (fun c_60 => ?_)
          · refine lv_aload_n hx hb d_MOD_fault_80 rfl (lv_at hl 0 rfl) ?_
            refine va_get (D := G.1) (ci := 6) (v := .ref z8) (C := R_MOD) (T := T_MOD) (N := 25) hx hb hT in_MOD hown hK hP 0 rfl rfl 10 (by decide) (hT _ wd_592) (fun _ h9 => h9) rfl d_MOD_fault_81 ?_
            refine lv_iload_n hx hb d_MOD_fault_84 rfl (lv_at hl 3 rfl) ?_
            refine lv_iload_n hx hb d_MOD_fault_85 rfl (lv_at hl 2 rfl) ?_
            refine va_zast hx hb hK hP hD hS 2 3 rfl rfl (vp_in_nI (by omega) (by omega)) d_MOD_fault_86 (fun H locs hP hD hS => ?_)
            rw [nI_clamp (by omega), bz.v (by assumption)] at hP hD
            have hP : va_P G.1 vwCl [(z0, .inr (6, [.int 0, .int (nI nM), .ref z1, .ref z2, .ref z3, .ref z4, .ref z5, .ref z6, .int (nI nC), .ref z7, .ref z8, .ref z9, .ref z10, .ref z11, .ref z12, .ref z13, .ref z14, .ref z15, .ref z16, .int cyc, .int li, .long me, .long mi, .int (nI sn), .ref z17])), (z7, .inl (G.2 2, 20, .inl gN)), (z8, .inl (G.2 3, 20, .inl (upd gO k onn)))] H := hP
            have hD : va_D A [(z0, .inr (6, [.int 0, .int (nI nM), .ref z1, .ref z2, .ref z3, .ref z4, .ref z5, .ref z6, .int (nI nC), .ref z7, .ref z8, .ref z9, .ref z10, .ref z11, .ref z12, .ref z13, .ref z14, .ref z15, .ref z16, .int cyc, .int li, .long me, .long mi, .int (nI sn), .ref z17])), (z7, .inl (G.2 2, 20, .inl gN)), (z8, .inl (G.2 3, 20, .inl (upd gO k onn)))] := hD
            refine lv_aload_n hx hb d_MOD_fault_87 rfl (lv_at hl 0 rfl) ?_
            refine va_get (D := G.1) (ci := 6) (v := .int (nI nC)) (C := R_MOD) (T := T_MOD) (N := 25) hx hb hT in_MOD hown hK hP 0 rfl rfl 8 (by decide) (hT _ wd_590) (fun _ h9 => h9) rfl d_MOD_fault_88 ?_
            have hw9 : ([(z0, .inr (6, [.int 0, .int (nI nM), .ref z1, .ref z2, .ref z3, .ref z4, .ref z5, .ref z6, .int (nI (mfN gN nu nC)), .ref z7, .ref z8, .ref z9, .ref z10, .ref z11, .ref z12, .ref z13, .ref z14, .ref z15, .ref z16, .int cyc, .int li, .long me, .long mi, .int (nI sn), .ref z17])), (z7, .inl (G.2 2, 20, .inl (mfA gN nu nC))), (z8, .inl (G.2 3, 20, .inl (mfO gN gO nu onn nC)))] : va_W) = [(z0, .inr (6, [.int 0, .int (nI nM), .ref z1, .ref z2, .ref z3, .ref z4, .ref z5, .ref z6, .int (nI nC), .ref z7, .ref z8, .ref z9, .ref z10, .ref z11, .ref z12, .ref z13, .ref z14, .ref z15, .ref z16, .int cyc, .int li, .long me, .long mi, .int (nI sn), .ref z17])), (z7, .inl (G.2 2, 20, .inl gN)), (z8, .inl (G.2 3, 20, .inl (upd gO k onn)))] := by first | (simp [mfR, mfN, mfA, mfO, mfOk, nI_1, hmk9, c_14, c_27, c_37, c_49, c_60]; done) | (simp_all [mfR, mfN, mfA, mfO, mfOk, nI_1]; done)
            rw [← hw9] at hP hD
            have hq9 : (.int (mfR gN nu nC)) = (.int (nI nC) : Value) := by first | (simp [mfR, mfN, mfA, mfO, mfOk, nI_1, hmk9, c_14, c_27, c_37, c_49, c_60]; done) | (simp_all [mfR, mfN, mfA, mfO, mfOk, nI_1]; done)
            exact W.iret (v := nI nC) hx hb hr (fun t ht hW => ⟨⟨by rw [hq9], by rw [ht]; exact hP, by rw [hAe]; exact hD⟩, by rw [hAe]; exact hS.F ht⟩) hS.2.2 d_MOD_fault_91
          · refine lv_aload_n hx hb d_MOD_fault_63 rfl (lv_at hl 0 rfl) ?_
            refine va_get (D := G.1) (ci := 6) (v := .ref z7) (C := R_MOD) (T := T_MOD) (N := 25) hx hb hT in_MOD hown hK hP 0 rfl rfl 9 (by decide) (hT _ wd_591) (fun _ h9 => h9) rfl d_MOD_fault_64 ?_
            refine lv_iload_n hx hb d_MOD_fault_67 rfl (lv_at hl 3 rfl) ?_
            refine lv_iload_n hx hb d_MOD_fault_68 rfl (lv_at hl 1 rfl) ?_
            refine va_iast hx hb hK hP hD hS 1 2 rfl rfl (vp_in_nI (by omega) (by omega)) d_MOD_fault_69 (fun H locs hP hD hS => ?_)
            rw [nI_clamp (by omega)] at hP hD
            have hP : va_P G.1 vwCl [(z0, .inr (6, [.int 0, .int (nI nM), .ref z1, .ref z2, .ref z3, .ref z4, .ref z5, .ref z6, .int (nI nC), .ref z7, .ref z8, .ref z9, .ref z10, .ref z11, .ref z12, .ref z13, .ref z14, .ref z15, .ref z16, .int cyc, .int li, .long me, .long mi, .int (nI sn), .ref z17])), (z7, .inl (G.2 2, 20, .inl (upd gN k nu))), (z8, .inl (G.2 3, 20, .inl gO))] H := hP
            have hD : va_D A [(z0, .inr (6, [.int 0, .int (nI nM), .ref z1, .ref z2, .ref z3, .ref z4, .ref z5, .ref z6, .int (nI nC), .ref z7, .ref z8, .ref z9, .ref z10, .ref z11, .ref z12, .ref z13, .ref z14, .ref z15, .ref z16, .int cyc, .int li, .long me, .long mi, .int (nI sn), .ref z17])), (z7, .inl (G.2 2, 20, .inl (upd gN k nu))), (z8, .inl (G.2 3, 20, .inl gO))] := hD
            refine lv_aload_n hx hb d_MOD_fault_70 rfl (lv_at hl 0 rfl) ?_
            refine lv_dup hx hb d_MOD_fault_71 rfl ?_
            refine va_get (D := G.1) (ci := 6) (v := .int (nI nC)) (C := R_MOD) (T := T_MOD) (N := 25) hx hb hT in_MOD hown hK hP 0 rfl rfl 8 (by decide) (hT _ wd_590) (fun _ h9 => h9) rfl d_MOD_fault_72 ?_
            refine lv_iconst (v := 1) hx hb d_MOD_fault_75 (by decide) ?_
            refine lv_iadd hx hb d_MOD_fault_76 ?_
            refine va_put (D := G.1) (ci := 6) (v := .int ((nI nC) + 1)) (ty := .int) (C := R_MOD) (T := T_MOD) (N := 25) hx hb hT in_MOD t_MOD tok_MOD nok_MOD hown hK hP hD hS 0 rfl rfl 8 (by decide) (hT _ wd_590) (fun _ h9 => h9) rfl (by decide +kernel) rfl rfl (Nat.le_of_ble_eq_true rfl) d_MOD_fault_77 (fun H locs hP hD hS => ?_)
            have hP : va_P G.1 vwCl [(z0, .inr (6, [.int 0, .int (nI nM), .ref z1, .ref z2, .ref z3, .ref z4, .ref z5, .ref z6, .int ((nI nC) + 1), .ref z7, .ref z8, .ref z9, .ref z10, .ref z11, .ref z12, .ref z13, .ref z14, .ref z15, .ref z16, .int cyc, .int li, .long me, .long mi, .int (nI sn), .ref z17])), (z7, .inl (G.2 2, 20, .inl (upd gN k nu))), (z8, .inl (G.2 3, 20, .inl gO))] H := hP
            have hD : va_D A [(z0, .inr (6, [.int 0, .int (nI nM), .ref z1, .ref z2, .ref z3, .ref z4, .ref z5, .ref z6, .int ((nI nC) + 1), .ref z7, .ref z8, .ref z9, .ref z10, .ref z11, .ref z12, .ref z13, .ref z14, .ref z15, .ref z16, .int cyc, .int li, .long me, .long mi, .int (nI sn), .ref z17])), (z7, .inl (G.2 2, 20, .inl (upd gN k nu))), (z8, .inl (G.2 3, 20, .inl gO))] := hD
            refine lv_aload_n hx hb d_MOD_fault_80 rfl (lv_at hl 0 rfl) ?_
            refine va_get (D := G.1) (ci := 6) (v := .ref z8) (C := R_MOD) (T := T_MOD) (N := 25) hx hb hT in_MOD hown hK hP 0 rfl rfl 10 (by decide) (hT _ wd_592) (fun _ h9 => h9) rfl d_MOD_fault_81 ?_
            refine lv_iload_n hx hb d_MOD_fault_84 rfl (lv_at hl 3 rfl) ?_
            refine lv_iload_n hx hb d_MOD_fault_85 rfl (lv_at hl 2 rfl) ?_
            refine va_zast hx hb hK hP hD hS 2 3 rfl rfl (vp_in_nI (by omega) (by omega)) d_MOD_fault_86 (fun H locs hP hD hS => ?_)
            rw [nI_clamp (by omega), bz.v (by assumption)] at hP hD
            have hP : va_P G.1 vwCl [(z0, .inr (6, [.int 0, .int (nI nM), .ref z1, .ref z2, .ref z3, .ref z4, .ref z5, .ref z6, .int ((nI nC) + 1), .ref z7, .ref z8, .ref z9, .ref z10, .ref z11, .ref z12, .ref z13, .ref z14, .ref z15, .ref z16, .int cyc, .int li, .long me, .long mi, .int (nI sn), .ref z17])), (z7, .inl (G.2 2, 20, .inl (upd gN k nu))), (z8, .inl (G.2 3, 20, .inl (upd gO k onn)))] H := hP
            have hD : va_D A [(z0, .inr (6, [.int 0, .int (nI nM), .ref z1, .ref z2, .ref z3, .ref z4, .ref z5, .ref z6, .int ((nI nC) + 1), .ref z7, .ref z8, .ref z9, .ref z10, .ref z11, .ref z12, .ref z13, .ref z14, .ref z15, .ref z16, .int cyc, .int li, .long me, .long mi, .int (nI sn), .ref z17])), (z7, .inl (G.2 2, 20, .inl (upd gN k nu))), (z8, .inl (G.2 3, 20, .inl (upd gO k onn)))] := hD
            refine lv_aload_n hx hb d_MOD_fault_87 rfl (lv_at hl 0 rfl) ?_
            refine va_get (D := G.1) (ci := 6) (v := .int ((nI nC) + 1)) (C := R_MOD) (T := T_MOD) (N := 25) hx hb hT in_MOD hown hK hP 0 rfl rfl 8 (by decide) (hT _ wd_590) (fun _ h9 => h9) rfl d_MOD_fault_88 ?_
            have hw9 : ([(z0, .inr (6, [.int 0, .int (nI nM), .ref z1, .ref z2, .ref z3, .ref z4, .ref z5, .ref z6, .int (nI (mfN gN nu nC)), .ref z7, .ref z8, .ref z9, .ref z10, .ref z11, .ref z12, .ref z13, .ref z14, .ref z15, .ref z16, .int cyc, .int li, .long me, .long mi, .int (nI sn), .ref z17])), (z7, .inl (G.2 2, 20, .inl (mfA gN nu nC))), (z8, .inl (G.2 3, 20, .inl (mfO gN gO nu onn nC)))] : va_W) = [(z0, .inr (6, [.int 0, .int (nI nM), .ref z1, .ref z2, .ref z3, .ref z4, .ref z5, .ref z6, .int ((nI nC) + 1), .ref z7, .ref z8, .ref z9, .ref z10, .ref z11, .ref z12, .ref z13, .ref z14, .ref z15, .ref z16, .int cyc, .int li, .long me, .long mi, .int (nI sn), .ref z17])), (z7, .inl (G.2 2, 20, .inl (upd gN k nu))), (z8, .inl (G.2 3, 20, .inl (upd gO k onn)))] := by first | (simp [mfR, mfN, mfA, mfO, mfOk, nI_1, hmk9, c_14, c_27, c_37, c_49, c_60]; done) | (simp_all [mfR, mfN, mfA, mfO, mfOk, nI_1]; done)
            rw [← hw9] at hP hD
            have hq9 : (.int (mfR gN nu nC)) = (.int ((nI nC) + 1) : Value) := by first | (simp [mfR, mfN, mfA, mfO, mfOk, nI_1, hmk9, c_14, c_27, c_37, c_49, c_60]; done) | (simp_all [mfR, mfN, mfA, mfO, mfOk, nI_1]; done)
            exact W.iret (v := (nI nC) + 1) hx hb hr (fun t ht hW => ⟨⟨by rw [hq9], by rw [ht]; exact hP, by rw [hAe]; exact hD⟩, by rw [hAe]; exact hS.F ht⟩) hS.2.2 d_MOD_fault_91
        · refine lv_bipush (v := (-4)) hx hb d_MOD_fault_52 (by decide) ?_
          have hw9 : ([(z0, .inr (6, [.int 0, .int (nI nM), .ref z1, .ref z2, .ref z3, .ref z4, .ref z5, .ref z6, .int (nI (mfN gN nu nC)), .ref z7, .ref z8, .ref z9, .ref z10, .ref z11, .ref z12, .ref z13, .ref z14, .ref z15, .ref z16, .int cyc, .int li, .long me, .long mi, .int (nI sn), .ref z17])), (z7, .inl (G.2 2, 20, .inl (mfA gN nu nC))), (z8, .inl (G.2 3, 20, .inl (mfO gN gO nu onn nC)))] : va_W) = [(z0, .inr (6, [.int 0, .int (nI nM), .ref z1, .ref z2, .ref z3, .ref z4, .ref z5, .ref z6, .int (nI nC), .ref z7, .ref z8, .ref z9, .ref z10, .ref z11, .ref z12, .ref z13, .ref z14, .ref z15, .ref z16, .int cyc, .int li, .long me, .long mi, .int (nI sn), .ref z17])), (z7, .inl (G.2 2, 20, .inl gN)), (z8, .inl (G.2 3, 20, .inl gO))] := by first | (simp [mfR, mfN, mfA, mfO, mfOk, nI_1, hmk9, c_14, c_27, c_37, c_49]; done) | (simp_all [mfR, mfN, mfA, mfO, mfOk, nI_1]; done)
          rw [← hw9] at hP hD
          have hq9 : (.int (mfR gN nu nC)) = (.int (-4) : Value) := by first | (simp [mfR, mfN, mfA, mfO, mfOk, nI_1, hmk9, c_14, c_27, c_37, c_49]; done) | (simp_all [mfR, mfN, mfA, mfO, mfOk, nI_1]; done)
          exact W.iret (v := (-4)) hx hb hr (fun t ht hW => ⟨⟨by rw [hq9], by rw [ht]; exact hP, by rw [hAe]; exact hD⟩, by rw [hAe]; exact hS.F ht⟩) hS.2.2 d_MOD_fault_54
      · refine lv_iinc (v := nI (k + 1)) (lv' := [(3, .int (nI (k + 1))), (0, .ref z0), (1, .int nu), (2, .int onn)]) hx hb d_MOD_fault_40 hl (k := 3) rfl (nI_succ _).symm (by decide) rfl (fun ls hl => ?_)
        refine lv_goto (tgt := 22) hx hb d_MOD_fault_43 (by decide) ?_
        exact ih (k + 1) _ _ _ ⟨hk, by rw [← hmk, mkF_step _ hk, if_neg c_37], hP, hD, hS, lv_sub hl [1, 2, 3, 0] rfl⟩ (by show nC - (k + 1) < nC - k; omega)
  · refine lv_bipush (v := (-2)) hx hb d_MOD_fault_17 (by decide) ?_
    have hw9 : ([(z0, .inr (6, [.int 0, .int (nI nM), .ref z1, .ref z2, .ref z3, .ref z4, .ref z5, .ref z6, .int (nI (mfN gN nu nC)), .ref z7, .ref z8, .ref z9, .ref z10, .ref z11, .ref z12, .ref z13, .ref z14, .ref z15, .ref z16, .int cyc, .int li, .long me, .long mi, .int (nI sn), .ref z17])), (z7, .inl (G.2 2, 20, .inl (mfA gN nu nC))), (z8, .inl (G.2 3, 20, .inl (mfO gN gO nu onn nC)))] : va_W) = [(z0, .inr (6, [.int 0, .int (nI nM), .ref z1, .ref z2, .ref z3, .ref z4, .ref z5, .ref z6, .int (nI nC), .ref z7, .ref z8, .ref z9, .ref z10, .ref z11, .ref z12, .ref z13, .ref z14, .ref z15, .ref z16, .int cyc, .int li, .long me, .long mi, .int (nI sn), .ref z17])), (z7, .inl (G.2 2, 20, .inl gN)), (z8, .inl (G.2 3, 20, .inl gO))] := by first | (simp [mfR, mfN, mfA, mfO, mfOk, c_14]; done) | (simp_all [mfR, mfN, mfA, mfO, mfOk]; done)
    rw [← hw9] at hP hD
    have hq9 : (.int (mfR gN nu nC)) = (.int (-2) : Value) := by first | (simp [mfR, mfN, mfA, mfO, mfOk, c_14]; done) | (simp_all [mfR, mfN, mfA, mfO, mfOk]; done)
    exact W.iret (v := (-2)) hx hb hr (fun t ht hW => ⟨⟨by rw [hq9], by rw [ht]; exact hP, by rw [hAe]; exact hD⟩, by rw [hAe]; exact hS.F ht⟩) hS.2.2 d_MOD_fault_19
set_option maxHeartbeats 4000000 in
set_option maxRecDepth 100000 in
theorem c_mclear (l : Launch) (G : GG) (sz : Nat) (z0 : Nat) (z1 : Nat) (z2 : Nat) (z3 : Nat) (z4 : Nat) (z5 : Nat) (z6 : Nat) (z7 : Nat) (z8 : Nat) (z9 : Nat) (z10 : Nat) (z11 : Nat) (z12 : Nat) (z13 : Nat) (z14 : Nat) (z15 : Nat) (z16 : Nat) (z17 : Nat) (cdv : Int32) (cyc : Int32) (li : Int32) (nM : Nat) (nC : Nat) (sn : Nat) (me : Int64) (mi : Int64) (gP : Nat → Int32) (gQ : Nat → Int32) (gF : Nat → Int32) (gW : Nat → Int32) (fY : Nat → Int32) (hn : nC ≤ 20) (hm : nM ≤ 16) : Met l y_MOD_clear w_MOD_clear ({ frames := 1, cells := 0, slots := 0, locals := 22 }) (va_Pc [.ref z0] (Pw G sz [(z0, .inr (6, [.int cdv, .int (nI nM), .ref z1, .ref z2, .ref z3, .ref z4, .ref z5, .ref z6, .int (nI nC), .ref z7, .ref z8, .ref z9, .ref z10, .ref z11, .ref z12, .ref z13, .ref z14, .ref z15, .ref z16, .int cyc, .int li, .long me, .long mi, .int (nI sn), .ref z17])), (z9, .inl (G.2 3, 20, .inl gP)), (z10, .inl (G.2 3, 20, .inl gQ)), (z12, .inl (G.2 2, 20, .inl gF)), (z14, .inl (G.2 3, 20, .inl gW)), (z6, .inl (G.2 3, 16, .inl fY))])) (QW G (some (.int (mcnt gQ nC))) [(z0, .inr (6, [.int cdv, .int (nI nM), .ref z1, .ref z2, .ref z3, .ref z4, .ref z5, .ref z6, .int (nI nC), .ref z7, .ref z8, .ref z9, .ref z10, .ref z11, .ref z12, .ref z13, .ref z14, .ref z15, .ref z16, .int cyc, .int li, .long me, .long mi, .int (nI sn), .ref z17])), (z9, .inl (G.2 3, 20, .inl gP)), (z10, .inl (G.2 3, 20, .inl gQ)), (z12, .inl (G.2 2, 20, .inl gF)), (z14, .inl (G.2 3, 20, .inl gW)), (z6, .inl (G.2 3, 16, .inl fY))] [(z0, .inr (6, [.int 0, .int (nI nM), .ref z1, .ref z2, .ref z3, .ref z4, .ref z5, .ref z6, .int (nI nC), .ref z7, .ref z8, .ref z9, .ref z10, .ref z11, .ref z12, .ref z13, .ref z14, .ref z15, .ref z16, .int cyc, .int 0, .long 0, .long 0, .int (nI sn), .ref z17])), (z9, .inl (G.2 3, 20, .inl (zk gP nC))), (z10, .inl (G.2 3, 20, .inl (zk gQ nC))), (z12, .inl (G.2 2, 20, .inl (zk gF nC))), (z14, .inl (G.2 3, 20, .inl (zk gW nC))), (z6, .inl (G.2 3, 16, .inl (zk fY nM)))] sz) 0 0 (va_A [(z0, .inr (6, [.int cdv, .int (nI nM), .ref z1, .ref z2, .ref z3, .ref z4, .ref z5, .ref z6, .int (nI nC), .ref z7, .ref z8, .ref z9, .ref z10, .ref z11, .ref z12, .ref z13, .ref z14, .ref z15, .ref z16, .int cyc, .int li, .long me, .long mi, .int (nI sn), .ref z17])), (z9, .inl (G.2 3, 20, .inl gP)), (z10, .inl (G.2 3, 20, .inl gQ)), (z12, .inl (G.2 2, 20, .inl gF)), (z14, .inl (G.2 3, 20, .inl gW)), (z6, .inl (G.2 3, 16, .inl fY))] sz) := by
  refine Met.ofW (cc := b_MOD_clear) (maxL := 3) (ret := (some .int)) (by decide) rfl ?_
  intro p e s m args below meth c s₁ B hml hv
  obtain ⟨rfl, hsz, hP, hGK, hD0⟩ := hv
  have hx := B.exec
  have hb := B.bytes
  have hr := B.returns
  have hts := atoms_spec (ws := w_MOD_clear) B.pre
  have hT : ∀ w ∈ lwG, w.before _ s = true := fun w h => hts w (List.mem_cons_of_mem _ h)
  have hown : s.vm.findClass R_MOD = some m.cls := findClass_of_methodNamed B.named
  have hlocks := B.notSynchronized
  have hK := hGK.1
  have hN := hGK.2
  subst hsz
  have hD := hD0.self (sz := s.heap.size)
  generalize hAe : va_A [(z0, .inr (6, [.int cdv, .int (nI nM), .ref z1, .ref z2, .ref z3, .ref z4, .ref z5, .ref z6, .int (nI nC), .ref z7, .ref z8, .ref z9, .ref z10, .ref z11, .ref z12, .ref z13, .ref z14, .ref z15, .ref z16, .int cyc, .int li, .long me, .long mi, .int (nI sn), .ref z17])), (z9, .inl (G.2 3, 20, .inl gP)), (z10, .inl (G.2 3, 20, .inl gQ)), (z12, .inl (G.2 2, 20, .inl gF)), (z14, .inl (G.2 3, 20, .inl gW)), (z6, .inl (G.2 3, 16, .inl fY))] s.heap.size = A at hD ⊢
  have hA : ∀ q : Nat, s.heap.size ≤ q → A q := fun q h => by rw [← hAe]; exact Or.inr h
  have hS : va_S A s.heap s.heap [] := va_S.rf
  have hP : va_P G.1 vwCl [(z0, .inr (6, [.int cdv, .int (nI nM), .ref z1, .ref z2, .ref z3, .ref z4, .ref z5, .ref z6, .int (nI nC), .ref z7, .ref z8, .ref z9, .ref z10, .ref z11, .ref z12, .ref z13, .ref z14, .ref z15, .ref z16, .int cyc, .int li, .long me, .long mi, .int (nI sn), .ref z17])), (z9, .inl (G.2 3, 20, .inl gP)), (z10, .inl (G.2 3, 20, .inl gQ)), (z12, .inl (G.2 2, 20, .inl gF)), (z14, .inl (G.2 3, 20, .inl gW)), (z6, .inl (G.2 3, 16, .inl fY))] s.heap := hP
  have hl := lv_entry ([.ref z0]) (n := 3) (Nat.le_of_ble_eq_true rfl)
  rw [lg_entry_eq]
  generalize (lg_sl ([.ref z0]) ++ List.replicate (3 - (lg_sl ([.ref z0])).length) Slot.unset).toArray = ls at hl ⊢
  have hl : lv_has ls 3 [(0, .ref z0)] := hl
  refine lv_aload_n hx hb d_MOD_clear_0 rfl (lv_at hl 0 rfl) ?_
  refine lv_iconst (v := 0) hx hb d_MOD_clear_1 (by decide) ?_
  refine va_put (D := G.1) (ci := 6) (v := .int 0) (ty := .int) (C := R_MOD) (T := T_MOD) (N := 25) hx hb hT in_MOD t_MOD tok_MOD nok_MOD hown hK hP hD hS 0 rfl rfl 0 (by decide) (hT _ wd_582) (fun _ h9 => h9) rfl (by decide +kernel) rfl rfl (Nat.le_of_ble_eq_true rfl) d_MOD_clear_2 (fun H locs hP hD hS => ?_)
  have hP : va_P G.1 vwCl [(z0, .inr (6, [.int 0, .int (nI nM), .ref z1, .ref z2, .ref z3, .ref z4, .ref z5, .ref z6, .int (nI nC), .ref z7, .ref z8, .ref z9, .ref z10, .ref z11, .ref z12, .ref z13, .ref z14, .ref z15, .ref z16, .int cyc, .int li, .long me, .long mi, .int (nI sn), .ref z17])), (z9, .inl (G.2 3, 20, .inl gP)), (z10, .inl (G.2 3, 20, .inl gQ)), (z12, .inl (G.2 2, 20, .inl gF)), (z14, .inl (G.2 3, 20, .inl gW)), (z6, .inl (G.2 3, 16, .inl fY))] H := hP
  have hD : va_D A [(z0, .inr (6, [.int 0, .int (nI nM), .ref z1, .ref z2, .ref z3, .ref z4, .ref z5, .ref z6, .int (nI nC), .ref z7, .ref z8, .ref z9, .ref z10, .ref z11, .ref z12, .ref z13, .ref z14, .ref z15, .ref z16, .int cyc, .int li, .long me, .long mi, .int (nI sn), .ref z17])), (z9, .inl (G.2 3, 20, .inl gP)), (z10, .inl (G.2 3, 20, .inl gQ)), (z12, .inl (G.2 2, 20, .inl gF)), (z14, .inl (G.2 3, 20, .inl gW)), (z6, .inl (G.2 3, 16, .inl fY))] := hD
  refine lv_aload_n hx hb d_MOD_clear_5 rfl (lv_at hl 0 rfl) ?_
  have hPc := hP.sub (ws' := [(z0, .inr (6, [.int 0, .int (nI nM), .ref z1, .ref z2, .ref z3, .ref z4, .ref z5, .ref z6, .int (nI nC), .ref z7, .ref z8, .ref z9, .ref z10, .ref z11, .ref z12, .ref z13, .ref z14, .ref z15, .ref z16, .int cyc, .int li, .long me, .long mi, .int (nI sn), .ref z17])), (z10, .inl (G.2 3, 20, .inl gQ))]) [0, 2] rfl
  refine bx_callV (W.runV (As := []) (rest := []) ⟨hx, hb, hml, hown, hts⟩ (c_confirmedCodes l G z0 z1 z2 z3 z4 z5 z6 z7 z8 z9 z10 z11 z12 z13 z14 z15 z16 z17 0 cyc li nM nC sn me mi gQ (by assumption)) ⟨(callB_of 0 hts (gi_all wd_701) rfl rfl rfl (hT _ wd_51) (hT _ wd_698) (by decide +kernel) ⟨Nat.le_of_ble_eq_true rfl, Nat.le_of_ble_eq_true rfl⟩), (hT _ wd_700), (hT _ wd_37)⟩ (pvR hPc hGK (va_recv hK hPc (ci := 6) (q0 := 0) rfl rfl)) rfl rfl hl.1 rfl (lv_room (Nat.le_of_ble_eq_true rfl)) d_MOD_clear_6 ⟨Nat.le_of_ble_eq_true rfl, Nat.le_of_ble_eq_true rfl⟩) ?_
  refine lv_istore_n (lv' := [(1, .int (mcnt gQ nC)), (0, .ref z0)]) hx hb d_MOD_clear_9 rfl hl (by decide) rfl (fun ls hl => ?_)
  refine lv_iconst (v := 0) hx hb d_MOD_clear_10 (by decide) ?_
  refine lv_istore_n (lv' := [(2, .int 0), (1, .int (mcnt gQ nC)), (0, .ref z0)]) hx hb d_MOD_clear_11 rfl hl (by decide) rfl (fun ls hl => ?_)
  refine bx_loop (σ := Nat) (fun q H locs ls => q ≤ nC ∧ va_P G.1 vwCl [(z0, .inr (6, [.int 0, .int (nI nM), .ref z1, .ref z2, .ref z3, .ref z4, .ref z5, .ref z6, .int (nI nC), .ref z7, .ref z8, .ref z9, .ref z10, .ref z11, .ref z12, .ref z13, .ref z14, .ref z15, .ref z16, .int cyc, .int li, .long me, .long mi, .int (nI sn), .ref z17])), (z9, .inl (G.2 3, 20, .inl (zk gP q))), (z10, .inl (G.2 3, 20, .inl (zk gQ q))), (z12, .inl (G.2 2, 20, .inl (zk gF q))), (z14, .inl (G.2 3, 20, .inl (zk gW q))), (z6, .inl (G.2 3, 16, .inl fY))] H ∧ va_D A [(z0, .inr (6, [.int 0, .int (nI nM), .ref z1, .ref z2, .ref z3, .ref z4, .ref z5, .ref z6, .int (nI nC), .ref z7, .ref z8, .ref z9, .ref z10, .ref z11, .ref z12, .ref z13, .ref z14, .ref z15, .ref z16, .int cyc, .int li, .long me, .long mi, .int (nI sn), .ref z17])), (z9, .inl (G.2 3, 20, .inl (zk gP q))), (z10, .inl (G.2 3, 20, .inl (zk gQ q))), (z12, .inl (G.2 2, 20, .inl (zk gF q))), (z14, .inl (G.2 3, 20, .inl (zk gW q))), (z6, .inl (G.2 3, 16, .inl fY))] ∧ va_S A s.heap H locs ∧ lv_has ls 3 [(0, .ref z0), (1, .int (mcnt gQ nC)), (2, .int (nI q))]) (fun q => nC - q) _ (fun q H locs ls hI ih => ?_) 0 ls ⟨Nat.zero_le _, by rw [zk_zero, zk_zero, zk_zero, zk_zero]; exact hP, by rw [zk_zero, zk_zero, zk_zero, zk_zero]; exact hD, hS, lv_sub hl [2, 1, 0] rfl⟩
  revert hI ih; generalize q = k; intro hI ih
  obtain ⟨hknk, hP, hD, hS, hl⟩ := hI
  have hknk : k ≤ nC := hknk
  have hP : va_P G.1 vwCl [(z0, .inr (6, [.int 0, .int (nI nM), .ref z1, .ref z2, .ref z3, .ref z4, .ref z5, .ref z6, .int (nI nC), .ref z7, .ref z8, .ref z9, .ref z10, .ref z11, .ref z12, .ref z13, .ref z14, .ref z15, .ref z16, .int cyc, .int li, .long me, .long mi, .int (nI sn), .ref z17])), (z9, .inl (G.2 3, 20, .inl (zk gP k))), (z10, .inl (G.2 3, 20, .inl (zk gQ k))), (z12, .inl (G.2 2, 20, .inl (zk gF k))), (z14, .inl (G.2 3, 20, .inl (zk gW k))), (z6, .inl (G.2 3, 16, .inl fY))] H := hP
  have hD : va_D A [(z0, .inr (6, [.int 0, .int (nI nM), .ref z1, .ref z2, .ref z3, .ref z4, .ref z5, .ref z6, .int (nI nC), .ref z7, .ref z8, .ref z9, .ref z10, .ref z11, .ref z12, .ref z13, .ref z14, .ref z15, .ref z16, .int cyc, .int li, .long me, .long mi, .int (nI sn), .ref z17])), (z9, .inl (G.2 3, 20, .inl (zk gP k))), (z10, .inl (G.2 3, 20, .inl (zk gQ k))), (z12, .inl (G.2 2, 20, .inl (zk gF k))), (z14, .inl (G.2 3, 20, .inl (zk gW k))), (z6, .inl (G.2 3, 16, .inl fY))] := hD
  have hl : lv_has ls 3 [(0, .ref z0), (1, .int (mcnt gQ nC)), (2, .int (nI k))] := hl
  refine lv_iload_n hx hb d_MOD_clear_12 rfl (lv_at hl 2 rfl) ?_
  refine lv_aload_n hx hb d_MOD_clear_13 rfl (lv_at hl 0 rfl) ?_
  refine va_get (D := G.1) (ci := 6) (v := .int (nI nC)) (C := R_MOD) (T := T_MOD) (N := 25) hx hb hT in_MOD hown hK hP 0 rfl rfl 8 (by decide) (hT _ wd_590) (fun _ h9 => h9) rfl d_MOD_clear_14 ?_
  refine lv_icmp_ge (tgt := 54) hx hb d_MOD_clear_17 (by decide) (fun c_17 => ?_) (fun c_17 => ?_)
  · have hge : nC ≤ k := (nI_leI (by omega) (by omega)).mp c_17
    have hke : k = nC := by omega
    rw [hke] at hP hD
    have hP : va_P G.1 vwCl [(z0, .inr (6, [.int 0, .int (nI nM), .ref z1, .ref z2, .ref z3, .ref z4, .ref z5, .ref z6, .int (nI nC), .ref z7, .ref z8, .ref z9, .ref z10, .ref z11, .ref z12, .ref z13, .ref z14, .ref z15, .ref z16, .int cyc, .int li, .long me, .long mi, .int (nI sn), .ref z17])), (z9, .inl (G.2 3, 20, .inl (zk gP nC))), (z10, .inl (G.2 3, 20, .inl (zk gQ nC))), (z12, .inl (G.2 2, 20, .inl (zk gF nC))), (z14, .inl (G.2 3, 20, .inl (zk gW nC))), (z6, .inl (G.2 3, 16, .inl fY))] H := hP
    have hD : va_D A [(z0, .inr (6, [.int 0, .int (nI nM), .ref z1, .ref z2, .ref z3, .ref z4, .ref z5, .ref z6, .int (nI nC), .ref z7, .ref z8, .ref z9, .ref z10, .ref z11, .ref z12, .ref z13, .ref z14, .ref z15, .ref z16, .int cyc, .int li, .long me, .long mi, .int (nI sn), .ref z17])), (z9, .inl (G.2 3, 20, .inl (zk gP nC))), (z10, .inl (G.2 3, 20, .inl (zk gQ nC))), (z12, .inl (G.2 2, 20, .inl (zk gF nC))), (z14, .inl (G.2 3, 20, .inl (zk gW nC))), (z6, .inl (G.2 3, 16, .inl fY))] := hD
    refine lv_iconst (v := 0) hx hb d_MOD_clear_54 (by decide) ?_
    refine lv_istore_n (lv' := [(2, .int 0), (0, .ref z0), (1, .int (mcnt gQ nC))]) hx hb d_MOD_clear_55 rfl hl (by decide) rfl (fun ls hl => ?_)
    refine bx_loop (σ := Nat) (fun q H locs ls => q ≤ nM ∧ va_P G.1 vwCl [(z0, .inr (6, [.int 0, .int (nI nM), .ref z1, .ref z2, .ref z3, .ref z4, .ref z5, .ref z6, .int (nI nC), .ref z7, .ref z8, .ref z9, .ref z10, .ref z11, .ref z12, .ref z13, .ref z14, .ref z15, .ref z16, .int cyc, .int li, .long me, .long mi, .int (nI sn), .ref z17])), (z9, .inl (G.2 3, 20, .inl (zk gP nC))), (z10, .inl (G.2 3, 20, .inl (zk gQ nC))), (z12, .inl (G.2 2, 20, .inl (zk gF nC))), (z14, .inl (G.2 3, 20, .inl (zk gW nC))), (z6, .inl (G.2 3, 16, .inl (zk fY q)))] H ∧ va_D A [(z0, .inr (6, [.int 0, .int (nI nM), .ref z1, .ref z2, .ref z3, .ref z4, .ref z5, .ref z6, .int (nI nC), .ref z7, .ref z8, .ref z9, .ref z10, .ref z11, .ref z12, .ref z13, .ref z14, .ref z15, .ref z16, .int cyc, .int li, .long me, .long mi, .int (nI sn), .ref z17])), (z9, .inl (G.2 3, 20, .inl (zk gP nC))), (z10, .inl (G.2 3, 20, .inl (zk gQ nC))), (z12, .inl (G.2 2, 20, .inl (zk gF nC))), (z14, .inl (G.2 3, 20, .inl (zk gW nC))), (z6, .inl (G.2 3, 16, .inl (zk fY q)))] ∧ va_S A s.heap H locs ∧ lv_has ls 3 [(0, .ref z0), (1, .int (mcnt gQ nC)), (2, .int (nI q))]) (fun q => nM - q) _ (fun q H locs ls hI ih => ?_) 0 ls ⟨Nat.zero_le _, by rw [zk_zero]; exact hP, by rw [zk_zero]; exact hD, hS, lv_sub hl [1, 2, 0] rfl⟩
    revert hI ih; generalize q = k2; intro hI ih
    obtain ⟨hknk2, hP, hD, hS, hl⟩ := hI
    have hknk2 : k2 ≤ nM := hknk2
    have hP : va_P G.1 vwCl [(z0, .inr (6, [.int 0, .int (nI nM), .ref z1, .ref z2, .ref z3, .ref z4, .ref z5, .ref z6, .int (nI nC), .ref z7, .ref z8, .ref z9, .ref z10, .ref z11, .ref z12, .ref z13, .ref z14, .ref z15, .ref z16, .int cyc, .int li, .long me, .long mi, .int (nI sn), .ref z17])), (z9, .inl (G.2 3, 20, .inl (zk gP nC))), (z10, .inl (G.2 3, 20, .inl (zk gQ nC))), (z12, .inl (G.2 2, 20, .inl (zk gF nC))), (z14, .inl (G.2 3, 20, .inl (zk gW nC))), (z6, .inl (G.2 3, 16, .inl (zk fY k2)))] H := hP
    have hD : va_D A [(z0, .inr (6, [.int 0, .int (nI nM), .ref z1, .ref z2, .ref z3, .ref z4, .ref z5, .ref z6, .int (nI nC), .ref z7, .ref z8, .ref z9, .ref z10, .ref z11, .ref z12, .ref z13, .ref z14, .ref z15, .ref z16, .int cyc, .int li, .long me, .long mi, .int (nI sn), .ref z17])), (z9, .inl (G.2 3, 20, .inl (zk gP nC))), (z10, .inl (G.2 3, 20, .inl (zk gQ nC))), (z12, .inl (G.2 2, 20, .inl (zk gF nC))), (z14, .inl (G.2 3, 20, .inl (zk gW nC))), (z6, .inl (G.2 3, 16, .inl (zk fY k2)))] := hD
    have hl : lv_has ls 3 [(0, .ref z0), (1, .int (mcnt gQ nC)), (2, .int (nI k2))] := hl
    refine lv_iload_n hx hb d_MOD_clear_56 rfl (lv_at hl 2 rfl) ?_
    refine lv_aload_n hx hb d_MOD_clear_57 rfl (lv_at hl 0 rfl) ?_
    refine va_get (D := G.1) (ci := 6) (v := .int (nI nM)) (C := R_MOD) (T := T_MOD) (N := 25) hx hb hT in_MOD hown hK hP 0 rfl rfl 1 (by decide) (hT _ wd_583) (fun _ h9 => h9) rfl d_MOD_clear_58 ?_
    refine lv_icmp_ge (tgt := 77) hx hb d_MOD_clear_61 (by decide) (fun c_61 => ?_) (fun c_61 => ?_)
    · have hge : nM ≤ k2 := (nI_leI (by omega) (by omega)).mp c_61
      have hk2e : k2 = nM := by omega
      rw [hk2e] at hP hD
      have hP : va_P G.1 vwCl [(z0, .inr (6, [.int 0, .int (nI nM), .ref z1, .ref z2, .ref z3, .ref z4, .ref z5, .ref z6, .int (nI nC), .ref z7, .ref z8, .ref z9, .ref z10, .ref z11, .ref z12, .ref z13, .ref z14, .ref z15, .ref z16, .int cyc, .int li, .long me, .long mi, .int (nI sn), .ref z17])), (z9, .inl (G.2 3, 20, .inl (zk gP nC))), (z10, .inl (G.2 3, 20, .inl (zk gQ nC))), (z12, .inl (G.2 2, 20, .inl (zk gF nC))), (z14, .inl (G.2 3, 20, .inl (zk gW nC))), (z6, .inl (G.2 3, 16, .inl (zk fY nM)))] H := hP
      have hD : va_D A [(z0, .inr (6, [.int 0, .int (nI nM), .ref z1, .ref z2, .ref z3, .ref z4, .ref z5, .ref z6, .int (nI nC), .ref z7, .ref z8, .ref z9, .ref z10, .ref z11, .ref z12, .ref z13, .ref z14, .ref z15, .ref z16, .int cyc, .int li, .long me, .long mi, .int (nI sn), .ref z17])), (z9, .inl (G.2 3, 20, .inl (zk gP nC))), (z10, .inl (G.2 3, 20, .inl (zk gQ nC))), (z12, .inl (G.2 2, 20, .inl (zk gF nC))), (z14, .inl (G.2 3, 20, .inl (zk gW nC))), (z6, .inl (G.2 3, 16, .inl (zk fY nM)))] := hD
      refine lv_aload_n hx hb d_MOD_clear_77 rfl (lv_at hl 0 rfl) ?_
      refine lv_iconst (v := 0) hx hb d_MOD_clear_78 (by decide) ?_
      refine va_put (D := G.1) (ci := 6) (v := .int 0) (ty := .boolean) (C := R_MOD) (T := T_MOD) (N := 25) hx hb hT in_MOD t_MOD tok_MOD nok_MOD hown hK hP hD hS 0 rfl rfl 20 (by decide) (hT _ wd_602) (fun _ h9 => h9) rfl (by decide +kernel) rfl rfl (Nat.le_of_ble_eq_true rfl) d_MOD_clear_79 (fun H locs hP hD hS => ?_)
      have hP : va_P G.1 vwCl [(z0, .inr (6, [.int 0, .int (nI nM), .ref z1, .ref z2, .ref z3, .ref z4, .ref z5, .ref z6, .int (nI nC), .ref z7, .ref z8, .ref z9, .ref z10, .ref z11, .ref z12, .ref z13, .ref z14, .ref z15, .ref z16, .int cyc, .int 0, .long me, .long mi, .int (nI sn), .ref z17])), (z9, .inl (G.2 3, 20, .inl (zk gP nC))), (z10, .inl (G.2 3, 20, .inl (zk gQ nC))), (z12, .inl (G.2 2, 20, .inl (zk gF nC))), (z14, .inl (G.2 3, 20, .inl (zk gW nC))), (z6, .inl (G.2 3, 16, .inl (zk fY nM)))] H := hP
      have hD : va_D A [(z0, .inr (6, [.int 0, .int (nI nM), .ref z1, .ref z2, .ref z3, .ref z4, .ref z5, .ref z6, .int (nI nC), .ref z7, .ref z8, .ref z9, .ref z10, .ref z11, .ref z12, .ref z13, .ref z14, .ref z15, .ref z16, .int cyc, .int 0, .long me, .long mi, .int (nI sn), .ref z17])), (z9, .inl (G.2 3, 20, .inl (zk gP nC))), (z10, .inl (G.2 3, 20, .inl (zk gQ nC))), (z12, .inl (G.2 2, 20, .inl (zk gF nC))), (z14, .inl (G.2 3, 20, .inl (zk gW nC))), (z6, .inl (G.2 3, 16, .inl (zk fY nM)))] := hD
      refine lv_aload_n hx hb d_MOD_clear_82 rfl (lv_at hl 0 rfl) ?_
      refine lv_lconst (v := 0) hx hb d_MOD_clear_83 (by decide) ?_
      refine va_put (D := G.1) (ci := 6) (v := .long 0) (ty := .long) (C := R_MOD) (T := T_MOD) (N := 25) hx hb hT in_MOD t_MOD tok_MOD nok_MOD hown hK hP hD hS 0 rfl rfl 21 (by decide) (hT _ wd_603) (fun _ h9 => h9) rfl (by decide +kernel) rfl rfl (Nat.le_of_ble_eq_true rfl) d_MOD_clear_84 (fun H locs hP hD hS => ?_)
      have hP : va_P G.1 vwCl [(z0, .inr (6, [.int 0, .int (nI nM), .ref z1, .ref z2, .ref z3, .ref z4, .ref z5, .ref z6, .int (nI nC), .ref z7, .ref z8, .ref z9, .ref z10, .ref z11, .ref z12, .ref z13, .ref z14, .ref z15, .ref z16, .int cyc, .int 0, .long 0, .long mi, .int (nI sn), .ref z17])), (z9, .inl (G.2 3, 20, .inl (zk gP nC))), (z10, .inl (G.2 3, 20, .inl (zk gQ nC))), (z12, .inl (G.2 2, 20, .inl (zk gF nC))), (z14, .inl (G.2 3, 20, .inl (zk gW nC))), (z6, .inl (G.2 3, 16, .inl (zk fY nM)))] H := hP
      have hD : va_D A [(z0, .inr (6, [.int 0, .int (nI nM), .ref z1, .ref z2, .ref z3, .ref z4, .ref z5, .ref z6, .int (nI nC), .ref z7, .ref z8, .ref z9, .ref z10, .ref z11, .ref z12, .ref z13, .ref z14, .ref z15, .ref z16, .int cyc, .int 0, .long 0, .long mi, .int (nI sn), .ref z17])), (z9, .inl (G.2 3, 20, .inl (zk gP nC))), (z10, .inl (G.2 3, 20, .inl (zk gQ nC))), (z12, .inl (G.2 2, 20, .inl (zk gF nC))), (z14, .inl (G.2 3, 20, .inl (zk gW nC))), (z6, .inl (G.2 3, 16, .inl (zk fY nM)))] := hD
      refine lv_aload_n hx hb d_MOD_clear_87 rfl (lv_at hl 0 rfl) ?_
      refine lv_lconst (v := 0) hx hb d_MOD_clear_88 (by decide) ?_
      refine va_put (D := G.1) (ci := 6) (v := .long 0) (ty := .long) (C := R_MOD) (T := T_MOD) (N := 25) hx hb hT in_MOD t_MOD tok_MOD nok_MOD hown hK hP hD hS 0 rfl rfl 22 (by decide) (hT _ wd_604) (fun _ h9 => h9) rfl (by decide +kernel) rfl rfl (Nat.le_of_ble_eq_true rfl) d_MOD_clear_89 (fun H locs hP hD hS => ?_)
      have hP : va_P G.1 vwCl [(z0, .inr (6, [.int 0, .int (nI nM), .ref z1, .ref z2, .ref z3, .ref z4, .ref z5, .ref z6, .int (nI nC), .ref z7, .ref z8, .ref z9, .ref z10, .ref z11, .ref z12, .ref z13, .ref z14, .ref z15, .ref z16, .int cyc, .int 0, .long 0, .long 0, .int (nI sn), .ref z17])), (z9, .inl (G.2 3, 20, .inl (zk gP nC))), (z10, .inl (G.2 3, 20, .inl (zk gQ nC))), (z12, .inl (G.2 2, 20, .inl (zk gF nC))), (z14, .inl (G.2 3, 20, .inl (zk gW nC))), (z6, .inl (G.2 3, 16, .inl (zk fY nM)))] H := hP
      have hD : va_D A [(z0, .inr (6, [.int 0, .int (nI nM), .ref z1, .ref z2, .ref z3, .ref z4, .ref z5, .ref z6, .int (nI nC), .ref z7, .ref z8, .ref z9, .ref z10, .ref z11, .ref z12, .ref z13, .ref z14, .ref z15, .ref z16, .int cyc, .int 0, .long 0, .long 0, .int (nI sn), .ref z17])), (z9, .inl (G.2 3, 20, .inl (zk gP nC))), (z10, .inl (G.2 3, 20, .inl (zk gQ nC))), (z12, .inl (G.2 2, 20, .inl (zk gF nC))), (z14, .inl (G.2 3, 20, .inl (zk gW nC))), (z6, .inl (G.2 3, 16, .inl (zk fY nM)))] := hD
      refine lv_iload_n hx hb d_MOD_clear_92 rfl (lv_at hl 1 rfl) ?_
      exact W.iret (v := mcnt gQ nC) hx hb hr (fun t ht hW => ⟨⟨rfl, by rw [ht]; exact hP, by rw [hAe]; exact hD⟩, by rw [hAe]; exact hS.F ht⟩) hS.2.2 d_MOD_clear_93
    · have hk2 : k2 < nM := Nat.not_le.mp (fun z => c_61 (nI_le z (by omega)))
      refine lv_aload_n hx hb d_MOD_clear_64 rfl (lv_at hl 0 rfl) ?_
      refine va_get (D := G.1) (ci := 6) (v := .ref z6) (C := R_MOD) (T := T_MOD) (N := 25) hx hb hT in_MOD hown hK hP 0 rfl rfl 7 (by decide) (hT _ wd_589) (fun _ h9 => h9) rfl d_MOD_clear_65 ?_
      refine lv_iload_n hx hb d_MOD_clear_68 rfl (lv_at hl 2 rfl) ?_
      refine lv_iconst (v := 0) hx hb d_MOD_clear_69 (by decide) ?_
      refine va_zast hx hb hK hP hD hS 5 3 rfl rfl (vp_in_nI (by omega) (by omega)) d_MOD_clear_70 (fun H locs hP hD hS => ?_)
      rw [nI_clamp (by omega), vn0] at hP hD
      have hP : va_P G.1 vwCl [(z0, .inr (6, [.int 0, .int (nI nM), .ref z1, .ref z2, .ref z3, .ref z4, .ref z5, .ref z6, .int (nI nC), .ref z7, .ref z8, .ref z9, .ref z10, .ref z11, .ref z12, .ref z13, .ref z14, .ref z15, .ref z16, .int cyc, .int li, .long me, .long mi, .int (nI sn), .ref z17])), (z9, .inl (G.2 3, 20, .inl (zk gP nC))), (z10, .inl (G.2 3, 20, .inl (zk gQ nC))), (z12, .inl (G.2 2, 20, .inl (zk gF nC))), (z14, .inl (G.2 3, 20, .inl (zk gW nC))), (z6, .inl (G.2 3, 16, .inl (upd (zk fY k2) k2 0)))] H := hP
      have hD : va_D A [(z0, .inr (6, [.int 0, .int (nI nM), .ref z1, .ref z2, .ref z3, .ref z4, .ref z5, .ref z6, .int (nI nC), .ref z7, .ref z8, .ref z9, .ref z10, .ref z11, .ref z12, .ref z13, .ref z14, .ref z15, .ref z16, .int cyc, .int li, .long me, .long mi, .int (nI sn), .ref z17])), (z9, .inl (G.2 3, 20, .inl (zk gP nC))), (z10, .inl (G.2 3, 20, .inl (zk gQ nC))), (z12, .inl (G.2 2, 20, .inl (zk gF nC))), (z14, .inl (G.2 3, 20, .inl (zk gW nC))), (z6, .inl (G.2 3, 16, .inl (upd (zk fY k2) k2 0)))] := hD
      refine lv_iinc (v := nI (k2 + 1)) (lv' := [(2, .int (nI (k2 + 1))), (0, .ref z0), (1, .int (mcnt gQ nC))]) hx hb d_MOD_clear_71 hl (k := 2) rfl (nI_succ _).symm (by decide) rfl (fun ls hl => ?_)
      refine lv_goto (tgt := 56) hx hb d_MOD_clear_74 (by decide) ?_
      rw [zk_succ] at hP hD
      exact ih (k2 + 1) _ _ _ ⟨hk2, hP, hD, hS, lv_sub hl [1, 2, 0] rfl⟩ (by show nM - (k2 + 1) < nM - k2; omega)
  · have hk : k < nC := Nat.not_le.mp (fun z => c_17 (nI_le z (by omega)))
    refine lv_aload_n hx hb d_MOD_clear_20 rfl (lv_at hl 0 rfl) ?_
    refine va_get (D := G.1) (ci := 6) (v := .ref z9) (C := R_MOD) (T := T_MOD) (N := 25) hx hb hT in_MOD hown hK hP 0 rfl rfl 11 (by decide) (hT _ wd_593) (fun _ h9 => h9) rfl d_MOD_clear_21 ?_
    refine lv_iload_n hx hb d_MOD_clear_24 rfl (lv_at hl 2 rfl) ?_
    refine lv_iconst (v := 0) hx hb d_MOD_clear_25 (by decide) ?_
    refine va_zast hx hb hK hP hD hS 1 3 rfl rfl (vp_in_nI (by omega) (by omega)) d_MOD_clear_26 (fun H locs hP hD hS => ?_)
    rw [nI_clamp (by omega), vn0] at hP hD
    have hP : va_P G.1 vwCl [(z0, .inr (6, [.int 0, .int (nI nM), .ref z1, .ref z2, .ref z3, .ref z4, .ref z5, .ref z6, .int (nI nC), .ref z7, .ref z8, .ref z9, .ref z10, .ref z11, .ref z12, .ref z13, .ref z14, .ref z15, .ref z16, .int cyc, .int li, .long me, .long mi, .int (nI sn), .ref z17])), (z9, .inl (G.2 3, 20, .inl (upd (zk gP k) k 0))), (z10, .inl (G.2 3, 20, .inl (zk gQ k))), (z12, .inl (G.2 2, 20, .inl (zk gF k))), (z14, .inl (G.2 3, 20, .inl (zk gW k))), (z6, .inl (G.2 3, 16, .inl fY))] H := hP
    have hD : va_D A [(z0, .inr (6, [.int 0, .int (nI nM), .ref z1, .ref z2, .ref z3, .ref z4, .ref z5, .ref z6, .int (nI nC), .ref z7, .ref z8, .ref z9, .ref z10, .ref z11, .ref z12, .ref z13, .ref z14, .ref z15, .ref z16, .int cyc, .int li, .long me, .long mi, .int (nI sn), .ref z17])), (z9, .inl (G.2 3, 20, .inl (upd (zk gP k) k 0))), (z10, .inl (G.2 3, 20, .inl (zk gQ k))), (z12, .inl (G.2 2, 20, .inl (zk gF k))), (z14, .inl (G.2 3, 20, .inl (zk gW k))), (z6, .inl (G.2 3, 16, .inl fY))] := hD
    refine lv_aload_n hx hb d_MOD_clear_27 rfl (lv_at hl 0 rfl) ?_
    refine va_get (D := G.1) (ci := 6) (v := .ref z10) (C := R_MOD) (T := T_MOD) (N := 25) hx hb hT in_MOD hown hK hP 0 rfl rfl 12 (by decide) (hT _ wd_594) (fun _ h9 => h9) rfl d_MOD_clear_28 ?_
    refine lv_iload_n hx hb d_MOD_clear_31 rfl (lv_at hl 2 rfl) ?_
    refine lv_iconst (v := 0) hx hb d_MOD_clear_32 (by decide) ?_
    refine va_zast hx hb hK hP hD hS 2 3 rfl rfl (vp_in_nI (by omega) (by omega)) d_MOD_clear_33 (fun H locs hP hD hS => ?_)
    rw [nI_clamp (by omega), vn0] at hP hD
    have hP : va_P G.1 vwCl [(z0, .inr (6, [.int 0, .int (nI nM), .ref z1, .ref z2, .ref z3, .ref z4, .ref z5, .ref z6, .int (nI nC), .ref z7, .ref z8, .ref z9, .ref z10, .ref z11, .ref z12, .ref z13, .ref z14, .ref z15, .ref z16, .int cyc, .int li, .long me, .long mi, .int (nI sn), .ref z17])), (z9, .inl (G.2 3, 20, .inl (upd (zk gP k) k 0))), (z10, .inl (G.2 3, 20, .inl (upd (zk gQ k) k 0))), (z12, .inl (G.2 2, 20, .inl (zk gF k))), (z14, .inl (G.2 3, 20, .inl (zk gW k))), (z6, .inl (G.2 3, 16, .inl fY))] H := hP
    have hD : va_D A [(z0, .inr (6, [.int 0, .int (nI nM), .ref z1, .ref z2, .ref z3, .ref z4, .ref z5, .ref z6, .int (nI nC), .ref z7, .ref z8, .ref z9, .ref z10, .ref z11, .ref z12, .ref z13, .ref z14, .ref z15, .ref z16, .int cyc, .int li, .long me, .long mi, .int (nI sn), .ref z17])), (z9, .inl (G.2 3, 20, .inl (upd (zk gP k) k 0))), (z10, .inl (G.2 3, 20, .inl (upd (zk gQ k) k 0))), (z12, .inl (G.2 2, 20, .inl (zk gF k))), (z14, .inl (G.2 3, 20, .inl (zk gW k))), (z6, .inl (G.2 3, 16, .inl fY))] := hD
    refine lv_aload_n hx hb d_MOD_clear_34 rfl (lv_at hl 0 rfl) ?_
    refine va_get (D := G.1) (ci := 6) (v := .ref z14) (C := R_MOD) (T := T_MOD) (N := 25) hx hb hT in_MOD hown hK hP 0 rfl rfl 16 (by decide) (hT _ wd_598) (fun _ h9 => h9) rfl d_MOD_clear_35 ?_
    refine lv_iload_n hx hb d_MOD_clear_38 rfl (lv_at hl 2 rfl) ?_
    refine lv_iconst (v := 0) hx hb d_MOD_clear_39 (by decide) ?_
    refine va_zast hx hb hK hP hD hS 4 3 rfl rfl (vp_in_nI (by omega) (by omega)) d_MOD_clear_40 (fun H locs hP hD hS => ?_)
    rw [nI_clamp (by omega), vn0] at hP hD
    have hP : va_P G.1 vwCl [(z0, .inr (6, [.int 0, .int (nI nM), .ref z1, .ref z2, .ref z3, .ref z4, .ref z5, .ref z6, .int (nI nC), .ref z7, .ref z8, .ref z9, .ref z10, .ref z11, .ref z12, .ref z13, .ref z14, .ref z15, .ref z16, .int cyc, .int li, .long me, .long mi, .int (nI sn), .ref z17])), (z9, .inl (G.2 3, 20, .inl (upd (zk gP k) k 0))), (z10, .inl (G.2 3, 20, .inl (upd (zk gQ k) k 0))), (z12, .inl (G.2 2, 20, .inl (zk gF k))), (z14, .inl (G.2 3, 20, .inl (upd (zk gW k) k 0))), (z6, .inl (G.2 3, 16, .inl fY))] H := hP
    have hD : va_D A [(z0, .inr (6, [.int 0, .int (nI nM), .ref z1, .ref z2, .ref z3, .ref z4, .ref z5, .ref z6, .int (nI nC), .ref z7, .ref z8, .ref z9, .ref z10, .ref z11, .ref z12, .ref z13, .ref z14, .ref z15, .ref z16, .int cyc, .int li, .long me, .long mi, .int (nI sn), .ref z17])), (z9, .inl (G.2 3, 20, .inl (upd (zk gP k) k 0))), (z10, .inl (G.2 3, 20, .inl (upd (zk gQ k) k 0))), (z12, .inl (G.2 2, 20, .inl (zk gF k))), (z14, .inl (G.2 3, 20, .inl (upd (zk gW k) k 0))), (z6, .inl (G.2 3, 16, .inl fY))] := hD
    refine lv_aload_n hx hb d_MOD_clear_41 rfl (lv_at hl 0 rfl) ?_
    refine va_get (D := G.1) (ci := 6) (v := .ref z12) (C := R_MOD) (T := T_MOD) (N := 25) hx hb hT in_MOD hown hK hP 0 rfl rfl 14 (by decide) (hT _ wd_596) (fun _ h9 => h9) rfl d_MOD_clear_42 ?_
    refine lv_iload_n hx hb d_MOD_clear_45 rfl (lv_at hl 2 rfl) ?_
    refine lv_iconst (v := 0) hx hb d_MOD_clear_46 (by decide) ?_
    refine va_iast hx hb hK hP hD hS 3 2 rfl rfl (vp_in_nI (by omega) (by omega)) d_MOD_clear_47 (fun H locs hP hD hS => ?_)
    rw [nI_clamp (by omega)] at hP hD
    have hP : va_P G.1 vwCl [(z0, .inr (6, [.int 0, .int (nI nM), .ref z1, .ref z2, .ref z3, .ref z4, .ref z5, .ref z6, .int (nI nC), .ref z7, .ref z8, .ref z9, .ref z10, .ref z11, .ref z12, .ref z13, .ref z14, .ref z15, .ref z16, .int cyc, .int li, .long me, .long mi, .int (nI sn), .ref z17])), (z9, .inl (G.2 3, 20, .inl (upd (zk gP k) k 0))), (z10, .inl (G.2 3, 20, .inl (upd (zk gQ k) k 0))), (z12, .inl (G.2 2, 20, .inl (upd (zk gF k) k 0))), (z14, .inl (G.2 3, 20, .inl (upd (zk gW k) k 0))), (z6, .inl (G.2 3, 16, .inl fY))] H := hP
    have hD : va_D A [(z0, .inr (6, [.int 0, .int (nI nM), .ref z1, .ref z2, .ref z3, .ref z4, .ref z5, .ref z6, .int (nI nC), .ref z7, .ref z8, .ref z9, .ref z10, .ref z11, .ref z12, .ref z13, .ref z14, .ref z15, .ref z16, .int cyc, .int li, .long me, .long mi, .int (nI sn), .ref z17])), (z9, .inl (G.2 3, 20, .inl (upd (zk gP k) k 0))), (z10, .inl (G.2 3, 20, .inl (upd (zk gQ k) k 0))), (z12, .inl (G.2 2, 20, .inl (upd (zk gF k) k 0))), (z14, .inl (G.2 3, 20, .inl (upd (zk gW k) k 0))), (z6, .inl (G.2 3, 16, .inl fY))] := hD
    refine lv_iinc (v := nI (k + 1)) (lv' := [(2, .int (nI (k + 1))), (0, .ref z0), (1, .int (mcnt gQ nC))]) hx hb d_MOD_clear_48 hl (k := 2) rfl (nI_succ _).symm (by decide) rfl (fun ls hl => ?_)
    refine lv_goto (tgt := 12) hx hb d_MOD_clear_51 (by decide) ?_
    rw [zk_succ, zk_succ, zk_succ, zk_succ] at hP hD
    exact ih (k + 1) _ _ _ ⟨hk, hP, hD, hS, lv_sub hl [1, 2, 0] rfl⟩ (by show nC - (k + 1) < nC - k; omega)
end
section
abbrev b_MOD_cycle : ByteArray := prog_7_method_11_code
def y_MOD_cycle : MethodName := ⟨R_MOD, "cycle", "(II)I"⟩
def w_MOD_cycle : List Cond := .code y_MOD_cycle b_MOD_cycle 6 (some .int) :: lwG
theorem d_MOD_cycle_0 : decode b_MOD_cycle 0 = .ok (.aload_n 0, 1) := by decide +kernel
theorem d_MOD_cycle_1 : decode b_MOD_cycle 1 = .ok (.iconst 0, 1) := by decide +kernel
theorem d_MOD_cycle_2 : decode b_MOD_cycle 2 = .ok (.putfield 62, 3) := by decide +kernel
theorem d_MOD_cycle_5 : decode b_MOD_cycle 5 = .ok (.iload_n 1, 1) := by decide +kernel
theorem d_MOD_cycle_6 : decode b_MOD_cycle 6 = .ok (.i2l, 1) := by decide +kernel
theorem d_MOD_cycle_7 : decode b_MOD_cycle 7 = .ok (.lconst 0, 1) := by decide +kernel
theorem d_MOD_cycle_8 : decode b_MOD_cycle 8 = .ok (.ldc2_w 87, 3) := by decide +kernel
theorem d_MOD_cycle_11 : decode b_MOD_cycle 11 = .ok (.invokestatic 68, 3) := by decide +kernel
theorem d_MOD_cycle_14 : decode b_MOD_cycle 14 = .ok (.ifCond .eq 15, 3) := by decide +kernel
theorem d_MOD_cycle_17 : decode b_MOD_cycle 17 = .ok (.iload_n 2, 1) := by decide +kernel
theorem d_MOD_cycle_18 : decode b_MOD_cycle 18 = .ok (.i2l, 1) := by decide +kernel
theorem d_MOD_cycle_19 : decode b_MOD_cycle 19 = .ok (.lconst 0, 1) := by decide +kernel
theorem d_MOD_cycle_20 : decode b_MOD_cycle 20 = .ok (.ldc2_w 89, 3) := by decide +kernel
theorem d_MOD_cycle_23 : decode b_MOD_cycle 23 = .ok (.invokestatic 68, 3) := by decide +kernel
theorem d_MOD_cycle_26 : decode b_MOD_cycle 26 = .ok (.ifCond .ne 6, 3) := by decide +kernel
theorem d_MOD_cycle_29 : decode b_MOD_cycle 29 = .ok (.bipush (-2), 2) := by decide +kernel
theorem d_MOD_cycle_31 : decode b_MOD_cycle 31 = .ok (.ireturn, 1) := by decide +kernel
theorem d_MOD_cycle_32 : decode b_MOD_cycle 32 = .ok (.aload_n 0, 1) := by decide +kernel
theorem d_MOD_cycle_33 : decode b_MOD_cycle 33 = .ok (.dup, 1) := by decide +kernel
theorem d_MOD_cycle_34 : decode b_MOD_cycle 34 = .ok (.getfield 81, 3) := by decide +kernel
theorem d_MOD_cycle_37 : decode b_MOD_cycle 37 = .ok (.iconst 1, 1) := by decide +kernel
theorem d_MOD_cycle_38 : decode b_MOD_cycle 38 = .ok (.iadd, 1) := by decide +kernel
theorem d_MOD_cycle_39 : decode b_MOD_cycle 39 = .ok (.putfield 81, 3) := by decide +kernel
theorem d_MOD_cycle_42 : decode b_MOD_cycle 42 = .ok (.iconst 0, 1) := by decide +kernel
theorem d_MOD_cycle_43 : decode b_MOD_cycle 43 = .ok (.istore_n 3, 1) := by decide +kernel
theorem d_MOD_cycle_44 : decode b_MOD_cycle 44 = .ok (.iconst 0, 1) := by decide +kernel
theorem d_MOD_cycle_45 : decode b_MOD_cycle 45 = .ok (.istore 4, 2) := by decide +kernel
theorem d_MOD_cycle_47 : decode b_MOD_cycle 47 = .ok (.iload 4, 2) := by decide +kernel
theorem d_MOD_cycle_49 : decode b_MOD_cycle 49 = .ok (.aload_n 0, 1) := by decide +kernel
theorem d_MOD_cycle_50 : decode b_MOD_cycle 50 = .ok (.getfield 74, 3) := by decide +kernel
theorem d_MOD_cycle_53 : decode b_MOD_cycle 53 = .ok (.if_icmp .ge 74, 3) := by decide +kernel
theorem d_MOD_cycle_56 : decode b_MOD_cycle 56 = .ok (.iload_n 2, 1) := by decide +kernel
theorem d_MOD_cycle_57 : decode b_MOD_cycle 57 = .ok (.iload 4, 2) := by decide +kernel
theorem d_MOD_cycle_59 : decode b_MOD_cycle 59 = .ok (.ishr, 1) := by decide +kernel
theorem d_MOD_cycle_60 : decode b_MOD_cycle 60 = .ok (.iconst 1, 1) := by decide +kernel
theorem d_MOD_cycle_61 : decode b_MOD_cycle 61 = .ok (.iand, 1) := by decide +kernel
theorem d_MOD_cycle_62 : decode b_MOD_cycle 62 = .ok (.iconst 1, 1) := by decide +kernel
theorem d_MOD_cycle_63 : decode b_MOD_cycle 63 = .ok (.if_icmp .ne 7, 3) := by decide +kernel
theorem d_MOD_cycle_66 : decode b_MOD_cycle 66 = .ok (.iconst 1, 1) := by decide +kernel
theorem d_MOD_cycle_67 : decode b_MOD_cycle 67 = .ok (.goto 4, 3) := by decide +kernel
theorem d_MOD_cycle_70 : decode b_MOD_cycle 70 = .ok (.iconst 0, 1) := by decide +kernel
theorem d_MOD_cycle_71 : decode b_MOD_cycle 71 = .ok (.istore 5, 2) := by decide +kernel
theorem d_MOD_cycle_73 : decode b_MOD_cycle 73 = .ok (.aload_n 0, 1) := by decide +kernel
theorem d_MOD_cycle_74 : decode b_MOD_cycle 74 = .ok (.getfield 25, 3) := by decide +kernel
theorem d_MOD_cycle_77 : decode b_MOD_cycle 77 = .ok (.iload 4, 2) := by decide +kernel
theorem d_MOD_cycle_79 : decode b_MOD_cycle 79 = .ok (.aload_n 0, 1) := by decide +kernel
theorem d_MOD_cycle_80 : decode b_MOD_cycle 80 = .ok (.getfield 25, 3) := by decide +kernel
theorem d_MOD_cycle_83 : decode b_MOD_cycle 83 = .ok (.iload 4, 2) := by decide +kernel
theorem d_MOD_cycle_85 : decode b_MOD_cycle 85 = .ok (.baload, 1) := by decide +kernel
theorem d_MOD_cycle_86 : decode b_MOD_cycle 86 = .ok (.ifCond .ne 8, 3) := by decide +kernel
theorem d_MOD_cycle_89 : decode b_MOD_cycle 89 = .ok (.iload 5, 2) := by decide +kernel
theorem d_MOD_cycle_91 : decode b_MOD_cycle 91 = .ok (.ifCond .eq 7, 3) := by decide +kernel
theorem d_MOD_cycle_94 : decode b_MOD_cycle 94 = .ok (.iconst 1, 1) := by decide +kernel
theorem d_MOD_cycle_95 : decode b_MOD_cycle 95 = .ok (.goto 4, 3) := by decide +kernel
theorem d_MOD_cycle_98 : decode b_MOD_cycle 98 = .ok (.iconst 0, 1) := by decide +kernel
theorem d_MOD_cycle_99 : decode b_MOD_cycle 99 = .ok (.bastore, 1) := by decide +kernel
theorem d_MOD_cycle_100 : decode b_MOD_cycle 100 = .ok (.aload_n 0, 1) := by decide +kernel
theorem d_MOD_cycle_101 : decode b_MOD_cycle 101 = .ok (.iload 4, 2) := by decide +kernel
theorem d_MOD_cycle_103 : decode b_MOD_cycle 103 = .ok (.iload_n 1, 1) := by decide +kernel
theorem d_MOD_cycle_104 : decode b_MOD_cycle 104 = .ok (.invokevirtual 91, 3) := by decide +kernel
theorem d_MOD_cycle_107 : decode b_MOD_cycle 107 = .ok (.ifCond .eq 14, 3) := by decide +kernel
theorem d_MOD_cycle_110 : decode b_MOD_cycle 110 = .ok (.aload_n 0, 1) := by decide +kernel
theorem d_MOD_cycle_111 : decode b_MOD_cycle 111 = .ok (.iload 4, 2) := by decide +kernel
theorem d_MOD_cycle_113 : decode b_MOD_cycle 113 = .ok (.iload 5, 2) := by decide +kernel
theorem d_MOD_cycle_115 : decode b_MOD_cycle 115 = .ok (.invokevirtual 94, 3) := by decide +kernel
theorem d_MOD_cycle_118 : decode b_MOD_cycle 118 = .ok (.iinc 3 1, 3) := by decide +kernel
theorem d_MOD_cycle_121 : decode b_MOD_cycle 121 = .ok (.iinc 4 1, 3) := by decide +kernel
theorem d_MOD_cycle_124 : decode b_MOD_cycle 124 = .ok (.goto (-77), 3) := by decide +kernel
theorem d_MOD_cycle_127 : decode b_MOD_cycle 127 = .ok (.iconst 0, 1) := by decide +kernel
theorem d_MOD_cycle_128 : decode b_MOD_cycle 128 = .ok (.istore 4, 2) := by decide +kernel
theorem d_MOD_cycle_130 : decode b_MOD_cycle 130 = .ok (.iload 4, 2) := by decide +kernel
theorem d_MOD_cycle_132 : decode b_MOD_cycle 132 = .ok (.aload_n 0, 1) := by decide +kernel
theorem d_MOD_cycle_133 : decode b_MOD_cycle 133 = .ok (.getfield 84, 3) := by decide +kernel
theorem d_MOD_cycle_136 : decode b_MOD_cycle 136 = .ok (.if_icmp .ge 36, 3) := by decide +kernel
theorem d_MOD_cycle_139 : decode b_MOD_cycle 139 = .ok (.aload_n 0, 1) := by decide +kernel
theorem d_MOD_cycle_140 : decode b_MOD_cycle 140 = .ok (.getfield 32, 3) := by decide +kernel
theorem d_MOD_cycle_143 : decode b_MOD_cycle 143 = .ok (.iload 4, 2) := by decide +kernel
theorem d_MOD_cycle_145 : decode b_MOD_cycle 145 = .ok (.baload, 1) := by decide +kernel
theorem d_MOD_cycle_146 : decode b_MOD_cycle 146 = .ok (.ifCond .eq 13, 3) := by decide +kernel
theorem d_MOD_cycle_149 : decode b_MOD_cycle 149 = .ok (.aload_n 0, 1) := by decide +kernel
theorem d_MOD_cycle_150 : decode b_MOD_cycle 150 = .ok (.iload 4, 2) := by decide +kernel
theorem d_MOD_cycle_152 : decode b_MOD_cycle 152 = .ok (.iload_n 1, 1) := by decide +kernel
theorem d_MOD_cycle_153 : decode b_MOD_cycle 153 = .ok (.invokevirtual 98, 3) := by decide +kernel
theorem d_MOD_cycle_156 : decode b_MOD_cycle 156 = .ok (.goto 10, 3) := by decide +kernel
theorem d_MOD_cycle_159 : decode b_MOD_cycle 159 = .ok (.aload_n 0, 1) := by decide +kernel
theorem d_MOD_cycle_160 : decode b_MOD_cycle 160 = .ok (.iload 4, 2) := by decide +kernel
theorem d_MOD_cycle_162 : decode b_MOD_cycle 162 = .ok (.iload_n 1, 1) := by decide +kernel
theorem d_MOD_cycle_163 : decode b_MOD_cycle 163 = .ok (.invokevirtual 102, 3) := by decide +kernel
theorem d_MOD_cycle_166 : decode b_MOD_cycle 166 = .ok (.iinc 4 1, 3) := by decide +kernel
theorem d_MOD_cycle_169 : decode b_MOD_cycle 169 = .ok (.goto (-39), 3) := by decide +kernel
theorem d_MOD_cycle_172 : decode b_MOD_cycle 172 = .ok (.aload_n 0, 1) := by decide +kernel
theorem d_MOD_cycle_173 : decode b_MOD_cycle 173 = .ok (.invokevirtual 105, 3) := by decide +kernel
theorem d_MOD_cycle_176 : decode b_MOD_cycle 176 = .ok (.ifCond .le 7, 3) := by decide +kernel
theorem d_MOD_cycle_179 : decode b_MOD_cycle 179 = .ok (.iconst 1, 1) := by decide +kernel
theorem d_MOD_cycle_180 : decode b_MOD_cycle 180 = .ok (.goto 4, 3) := by decide +kernel
theorem d_MOD_cycle_183 : decode b_MOD_cycle 183 = .ok (.iconst 0, 1) := by decide +kernel
theorem d_MOD_cycle_184 : decode b_MOD_cycle 184 = .ok (.istore 4, 2) := by decide +kernel
theorem d_MOD_cycle_186 : decode b_MOD_cycle 186 = .ok (.iload 4, 2) := by decide +kernel
theorem d_MOD_cycle_188 : decode b_MOD_cycle 188 = .ok (.ifCond .eq 20, 3) := by decide +kernel
theorem d_MOD_cycle_191 : decode b_MOD_cycle 191 = .ok (.aload_n 0, 1) := by decide +kernel
theorem d_MOD_cycle_192 : decode b_MOD_cycle 192 = .ok (.getfield 109, 3) := by decide +kernel
theorem d_MOD_cycle_195 : decode b_MOD_cycle 195 = .ok (.ifCond .ne 13, 3) := by decide +kernel
theorem d_MOD_cycle_198 : decode b_MOD_cycle 198 = .ok (.aload_n 0, 1) := by decide +kernel
theorem d_MOD_cycle_199 : decode b_MOD_cycle 199 = .ok (.lconst 0, 1) := by decide +kernel
theorem d_MOD_cycle_200 : decode b_MOD_cycle 200 = .ok (.putfield 113, 3) := by decide +kernel
theorem d_MOD_cycle_203 : decode b_MOD_cycle 203 = .ok (.aload_n 0, 1) := by decide +kernel
theorem d_MOD_cycle_204 : decode b_MOD_cycle 204 = .ok (.lconst 0, 1) := by decide +kernel
theorem d_MOD_cycle_205 : decode b_MOD_cycle 205 = .ok (.putfield 117, 3) := by decide +kernel
theorem d_MOD_cycle_208 : decode b_MOD_cycle 208 = .ok (.aload_n 0, 1) := by decide +kernel
theorem d_MOD_cycle_209 : decode b_MOD_cycle 209 = .ok (.iload 4, 2) := by decide +kernel
theorem d_MOD_cycle_211 : decode b_MOD_cycle 211 = .ok (.putfield 109, 3) := by decide +kernel
theorem d_MOD_cycle_214 : decode b_MOD_cycle 214 = .ok (.iload_n 3, 1) := by decide +kernel
theorem d_MOD_cycle_215 : decode b_MOD_cycle 215 = .ok (.ireturn, 1) := by decide +kernel
end
section
set_option maxHeartbeats 4000000 in
set_option maxRecDepth 100000 in
theorem c_mcycle (l : Launch) (G : GG) (sz : Nat) (z0 : Nat) (z1 : Nat) (z2 : Nat) (z3 : Nat) (z4 : Nat) (z5 : Nat) (z6 : Nat) (z7 : Nat) (z8 : Nat) (z9 : Nat) (z10 : Nat) (z11 : Nat) (z12 : Nat) (z13 : Nat) (z14 : Nat) (z15 : Nat) (z16 : Nat) (z17 : Nat) (cdv : Int32) (cyc : Int32) (li : Int32) (nM : Nat) (nC : Nat) (sn : Nat) (me : Int64) (mi : Int64) (mm : Nat → Mon) (cc : Nat → Cdm) (cs : Int32) (ts : Int32) (hm : nM ≤ 16) (hn : nC ≤ 20) : Met l y_MOD_cycle w_MOD_cycle ({ frames := 2, cells := 0, slots := 0, locals := 44 }) (va_Pc [.ref z0, .int cs, .int ts] (Pw G sz [(z0, .inr (6, [.int cdv, .int (nI nM), .ref z1, .ref z2, .ref z3, .ref z4, .ref z5, .ref z6, .int (nI nC), .ref z7, .ref z8, .ref z9, .ref z10, .ref z11, .ref z12, .ref z13, .ref z14, .ref z15, .ref z16, .int cyc, .int li, .long me, .long mi, .int (nI sn), .ref z17])), (z1, .inl (G.2 2, 16, .inl (pj m0 mm))), (z2, .inl (G.2 2, 16, .inl (pj m1 mm))), (z3, .inl (G.2 2, 16, .inl (pj m2 mm))), (z4, .inl (G.2 2, 16, .inl (pj m3 mm))), (z5, .inl (G.2 2, 16, .inl (pj m4 mm))), (z6, .inl (G.2 3, 16, .inl (pj m5 mm))), (z8, .inl (G.2 3, 20, .inl (pj q1 cc))), (z9, .inl (G.2 3, 20, .inl (pj q2 cc))), (z10, .inl (G.2 3, 20, .inl (pj q3 cc))), (z11, .inl (G.2 3, 20, .inl (pj q4 cc))), (z12, .inl (G.2 2, 20, .inl (pj q5 cc))), (z13, .inl (G.2 2, 20, .inl (pj q6 cc))), (z14, .inl (G.2 3, 20, .inl (pj q7 cc))), (z15, .inl (G.2 2, 20, .inl (pj q8 cc))), (z16, .inl (G.2 2, 20, .inl (pj q9 cc)))])) (QW G (some (.int (mcV cs ts nM mm))) [(z0, .inr (6, [.int cdv, .int (nI nM), .ref z1, .ref z2, .ref z3, .ref z4, .ref z5, .ref z6, .int (nI nC), .ref z7, .ref z8, .ref z9, .ref z10, .ref z11, .ref z12, .ref z13, .ref z14, .ref z15, .ref z16, .int cyc, .int li, .long me, .long mi, .int (nI sn), .ref z17])), (z1, .inl (G.2 2, 16, .inl (pj m0 mm))), (z2, .inl (G.2 2, 16, .inl (pj m1 mm))), (z3, .inl (G.2 2, 16, .inl (pj m2 mm))), (z4, .inl (G.2 2, 16, .inl (pj m3 mm))), (z5, .inl (G.2 2, 16, .inl (pj m4 mm))), (z6, .inl (G.2 3, 16, .inl (pj m5 mm))), (z8, .inl (G.2 3, 20, .inl (pj q1 cc))), (z9, .inl (G.2 3, 20, .inl (pj q2 cc))), (z10, .inl (G.2 3, 20, .inl (pj q3 cc))), (z11, .inl (G.2 3, 20, .inl (pj q4 cc))), (z12, .inl (G.2 2, 20, .inl (pj q5 cc))), (z13, .inl (G.2 2, 20, .inl (pj q6 cc))), (z14, .inl (G.2 3, 20, .inl (pj q7 cc))), (z15, .inl (G.2 2, 20, .inl (pj q8 cc))), (z16, .inl (G.2 2, 20, .inl (pj q9 cc)))] [(z0, .inr (6, [.int 0, .int (nI nM), .ref z1, .ref z2, .ref z3, .ref z4, .ref z5, .ref z6, .int (nI nC), .ref z7, .ref z8, .ref z9, .ref z10, .ref z11, .ref z12, .ref z13, .ref z14, .ref z15, .ref z16, .int (mcN cs ts cyc), .int (mcL cs ts cyc nC cc li), .long (mcX cs ts cyc nC cc li me), .long (mcX cs ts cyc nC cc li mi), .int (nI sn), .ref z17])), (z1, .inl (G.2 2, 16, .inl (pj m0 (mcM cs ts nM mm)))), (z2, .inl (G.2 2, 16, .inl (pj m1 (mcM cs ts nM mm)))), (z3, .inl (G.2 2, 16, .inl (pj m2 (mcM cs ts nM mm)))), (z4, .inl (G.2 2, 16, .inl (pj m3 (mcM cs ts nM mm)))), (z5, .inl (G.2 2, 16, .inl (pj m4 (mcM cs ts nM mm)))), (z6, .inl (G.2 3, 16, .inl (pj m5 (mcM cs ts nM mm)))), (z8, .inl (G.2 3, 20, .inl (pj q1 (mcD cs ts cyc nC cc)))), (z9, .inl (G.2 3, 20, .inl (pj q2 (mcD cs ts cyc nC cc)))), (z10, .inl (G.2 3, 20, .inl (pj q3 (mcD cs ts cyc nC cc)))), (z11, .inl (G.2 3, 20, .inl (pj q4 (mcD cs ts cyc nC cc)))), (z12, .inl (G.2 2, 20, .inl (pj q5 (mcD cs ts cyc nC cc)))), (z13, .inl (G.2 2, 20, .inl (pj q6 (mcD cs ts cyc nC cc)))), (z14, .inl (G.2 3, 20, .inl (pj q7 (mcD cs ts cyc nC cc)))), (z15, .inl (G.2 2, 20, .inl (pj q8 (mcD cs ts cyc nC cc)))), (z16, .inl (G.2 2, 20, .inl (pj q9 (mcD cs ts cyc nC cc))))] sz) 0 0 (va_A [(z0, .inr (6, [.int cdv, .int (nI nM), .ref z1, .ref z2, .ref z3, .ref z4, .ref z5, .ref z6, .int (nI nC), .ref z7, .ref z8, .ref z9, .ref z10, .ref z11, .ref z12, .ref z13, .ref z14, .ref z15, .ref z16, .int cyc, .int li, .long me, .long mi, .int (nI sn), .ref z17])), (z1, .inl (G.2 2, 16, .inl (pj m0 mm))), (z2, .inl (G.2 2, 16, .inl (pj m1 mm))), (z3, .inl (G.2 2, 16, .inl (pj m2 mm))), (z4, .inl (G.2 2, 16, .inl (pj m3 mm))), (z5, .inl (G.2 2, 16, .inl (pj m4 mm))), (z6, .inl (G.2 3, 16, .inl (pj m5 mm))), (z8, .inl (G.2 3, 20, .inl (pj q1 cc))), (z9, .inl (G.2 3, 20, .inl (pj q2 cc))), (z10, .inl (G.2 3, 20, .inl (pj q3 cc))), (z11, .inl (G.2 3, 20, .inl (pj q4 cc))), (z12, .inl (G.2 2, 20, .inl (pj q5 cc))), (z13, .inl (G.2 2, 20, .inl (pj q6 cc))), (z14, .inl (G.2 3, 20, .inl (pj q7 cc))), (z15, .inl (G.2 2, 20, .inl (pj q8 cc))), (z16, .inl (G.2 2, 20, .inl (pj q9 cc)))] sz) := by
  refine Met.ofW (cc := b_MOD_cycle) (maxL := 6) (ret := (some .int)) (by decide) rfl ?_
  intro p e s m args below meth c s₁ B hml hv
  obtain ⟨rfl, hsz, hP, hGK, hD0⟩ := hv
  have hx := B.exec
  have hb := B.bytes
  have hr := B.returns
  have hts := atoms_spec (ws := w_MOD_cycle) B.pre
  have hT : ∀ w ∈ lwG, w.before _ s = true := fun w h => hts w (List.mem_cons_of_mem _ h)
  have hown : s.vm.findClass R_MOD = some m.cls := findClass_of_methodNamed B.named
  have hlocks := B.notSynchronized
  have hK := hGK.1
  have hN := hGK.2
  subst hsz
  have hD := hD0.self (sz := s.heap.size)
  generalize hAe : va_A [(z0, .inr (6, [.int cdv, .int (nI nM), .ref z1, .ref z2, .ref z3, .ref z4, .ref z5, .ref z6, .int (nI nC), .ref z7, .ref z8, .ref z9, .ref z10, .ref z11, .ref z12, .ref z13, .ref z14, .ref z15, .ref z16, .int cyc, .int li, .long me, .long mi, .int (nI sn), .ref z17])), (z1, .inl (G.2 2, 16, .inl (pj m0 mm))), (z2, .inl (G.2 2, 16, .inl (pj m1 mm))), (z3, .inl (G.2 2, 16, .inl (pj m2 mm))), (z4, .inl (G.2 2, 16, .inl (pj m3 mm))), (z5, .inl (G.2 2, 16, .inl (pj m4 mm))), (z6, .inl (G.2 3, 16, .inl (pj m5 mm))), (z8, .inl (G.2 3, 20, .inl (pj q1 cc))), (z9, .inl (G.2 3, 20, .inl (pj q2 cc))), (z10, .inl (G.2 3, 20, .inl (pj q3 cc))), (z11, .inl (G.2 3, 20, .inl (pj q4 cc))), (z12, .inl (G.2 2, 20, .inl (pj q5 cc))), (z13, .inl (G.2 2, 20, .inl (pj q6 cc))), (z14, .inl (G.2 3, 20, .inl (pj q7 cc))), (z15, .inl (G.2 2, 20, .inl (pj q8 cc))), (z16, .inl (G.2 2, 20, .inl (pj q9 cc)))] s.heap.size = A at hD ⊢
  have hA : ∀ q : Nat, s.heap.size ≤ q → A q := fun q h => by rw [← hAe]; exact Or.inr h
  have hS : va_S A s.heap s.heap [] := va_S.rf
  have hP : va_P G.1 vwCl [(z0, .inr (6, [.int cdv, .int (nI nM), .ref z1, .ref z2, .ref z3, .ref z4, .ref z5, .ref z6, .int (nI nC), .ref z7, .ref z8, .ref z9, .ref z10, .ref z11, .ref z12, .ref z13, .ref z14, .ref z15, .ref z16, .int cyc, .int li, .long me, .long mi, .int (nI sn), .ref z17])), (z1, .inl (G.2 2, 16, .inl (pj m0 mm))), (z2, .inl (G.2 2, 16, .inl (pj m1 mm))), (z3, .inl (G.2 2, 16, .inl (pj m2 mm))), (z4, .inl (G.2 2, 16, .inl (pj m3 mm))), (z5, .inl (G.2 2, 16, .inl (pj m4 mm))), (z6, .inl (G.2 3, 16, .inl (pj m5 mm))), (z8, .inl (G.2 3, 20, .inl (pj q1 cc))), (z9, .inl (G.2 3, 20, .inl (pj q2 cc))), (z10, .inl (G.2 3, 20, .inl (pj q3 cc))), (z11, .inl (G.2 3, 20, .inl (pj q4 cc))), (z12, .inl (G.2 2, 20, .inl (pj q5 cc))), (z13, .inl (G.2 2, 20, .inl (pj q6 cc))), (z14, .inl (G.2 3, 20, .inl (pj q7 cc))), (z15, .inl (G.2 2, 20, .inl (pj q8 cc))), (z16, .inl (G.2 2, 20, .inl (pj q9 cc)))] s.heap := hP
  have hl := lv_entry ([.ref z0, .int cs, .int ts]) (n := 6) (Nat.le_of_ble_eq_true rfl)
  rw [lg_entry_eq]
  generalize (lg_sl ([.ref z0, .int cs, .int ts]) ++ List.replicate (6 - (lg_sl ([.ref z0, .int cs, .int ts])).length) Slot.unset).toArray = ls at hl ⊢
  have hl : lv_has ls 6 [(0, .ref z0), (1, .int cs), (2, .int ts)] := hl
  refine lv_aload_n hx hb d_MOD_cycle_0 rfl (lv_at hl 0 rfl) ?_
  refine lv_iconst (v := 0) hx hb d_MOD_cycle_1 (by decide) ?_
  refine va_put (D := G.1) (ci := 6) (v := .int 0) (ty := .int) (C := R_MOD) (T := T_MOD) (N := 25) hx hb hT in_MOD t_MOD tok_MOD nok_MOD hown hK hP hD hS 0 rfl rfl 0 (by decide) (hT _ wd_582) (fun _ h9 => h9) rfl (by decide +kernel) rfl rfl (Nat.le_of_ble_eq_true rfl) d_MOD_cycle_2 (fun H locs hP hD hS => ?_)
  have hP : va_P G.1 vwCl [(z0, .inr (6, [.int 0, .int (nI nM), .ref z1, .ref z2, .ref z3, .ref z4, .ref z5, .ref z6, .int (nI nC), .ref z7, .ref z8, .ref z9, .ref z10, .ref z11, .ref z12, .ref z13, .ref z14, .ref z15, .ref z16, .int cyc, .int li, .long me, .long mi, .int (nI sn), .ref z17])), (z1, .inl (G.2 2, 16, .inl (pj m0 mm))), (z2, .inl (G.2 2, 16, .inl (pj m1 mm))), (z3, .inl (G.2 2, 16, .inl (pj m2 mm))), (z4, .inl (G.2 2, 16, .inl (pj m3 mm))), (z5, .inl (G.2 2, 16, .inl (pj m4 mm))), (z6, .inl (G.2 3, 16, .inl (pj m5 mm))), (z8, .inl (G.2 3, 20, .inl (pj q1 cc))), (z9, .inl (G.2 3, 20, .inl (pj q2 cc))), (z10, .inl (G.2 3, 20, .inl (pj q3 cc))), (z11, .inl (G.2 3, 20, .inl (pj q4 cc))), (z12, .inl (G.2 2, 20, .inl (pj q5 cc))), (z13, .inl (G.2 2, 20, .inl (pj q6 cc))), (z14, .inl (G.2 3, 20, .inl (pj q7 cc))), (z15, .inl (G.2 2, 20, .inl (pj q8 cc))), (z16, .inl (G.2 2, 20, .inl (pj q9 cc)))] H := hP
  have hD : va_D A [(z0, .inr (6, [.int 0, .int (nI nM), .ref z1, .ref z2, .ref z3, .ref z4, .ref z5, .ref z6, .int (nI nC), .ref z7, .ref z8, .ref z9, .ref z10, .ref z11, .ref z12, .ref z13, .ref z14, .ref z15, .ref z16, .int cyc, .int li, .long me, .long mi, .int (nI sn), .ref z17])), (z1, .inl (G.2 2, 16, .inl (pj m0 mm))), (z2, .inl (G.2 2, 16, .inl (pj m1 mm))), (z3, .inl (G.2 2, 16, .inl (pj m2 mm))), (z4, .inl (G.2 2, 16, .inl (pj m3 mm))), (z5, .inl (G.2 2, 16, .inl (pj m4 mm))), (z6, .inl (G.2 3, 16, .inl (pj m5 mm))), (z8, .inl (G.2 3, 20, .inl (pj q1 cc))), (z9, .inl (G.2 3, 20, .inl (pj q2 cc))), (z10, .inl (G.2 3, 20, .inl (pj q3 cc))), (z11, .inl (G.2 3, 20, .inl (pj q4 cc))), (z12, .inl (G.2 2, 20, .inl (pj q5 cc))), (z13, .inl (G.2 2, 20, .inl (pj q6 cc))), (z14, .inl (G.2 3, 20, .inl (pj q7 cc))), (z15, .inl (G.2 2, 20, .inl (pj q8 cc))), (z16, .inl (G.2 2, 20, .inl (pj q9 cc)))] := hD
  refine lv_iload_n hx hb d_MOD_cycle_5 rfl (lv_at hl 1 rfl) ?_
  refine lv_i2l (v := cs.toInt64) hx hb d_MOD_cycle_6 rfl ?_
  refine lv_lconst (v := 0) hx hb d_MOD_cycle_7 (by decide) ?_
  refine lv_ldc2 (v := 255) hx hb hown (hT _ wd_677) d_MOD_cycle_8 ?_
  refine bx_callV (W.runS (As := [.long cs.toInt64, .long 0, .long 255]) (rest := []) ⟨hx, hb, hml, hown, hts⟩ (c_isIn l G cs.toInt64 0 255) ⟨(callB_of 3 hts (gi_all wd_671) rfl rfl rfl (hT _ wd_51) (hT _ wd_669) (by decide +kernel) ⟨Nat.le_of_ble_eq_true rfl, Nat.le_of_ble_eq_true rfl⟩), (hT _ wd_670)⟩ (psR bx_nil hGK) rfl rfl hl.1 rfl (lv_room (Nat.le_of_ble_eq_true rfl)) d_MOD_cycle_11 ⟨Nat.le_of_ble_eq_true rfl, Nat.le_of_ble_eq_true rfl⟩) ?_
  refine lv_if_eq (tgt := 29) hx hb d_MOD_cycle_14 (by decide) (fun c_14 => ?_) (fun c_14 => ?_)
  · refine lv_bipush (v := (-2)) hx hb d_MOD_cycle_29 (by decide) ?_
    have hw9 : ([(z0, .inr (6, [.int 0, .int (nI nM), .ref z1, .ref z2, .ref z3, .ref z4, .ref z5, .ref z6, .int (nI nC), .ref z7, .ref z8, .ref z9, .ref z10, .ref z11, .ref z12, .ref z13, .ref z14, .ref z15, .ref z16, .int (mcN cs ts cyc), .int (mcL cs ts cyc nC cc li), .long (mcX cs ts cyc nC cc li me), .long (mcX cs ts cyc nC cc li mi), .int (nI sn), .ref z17])), (z1, .inl (G.2 2, 16, .inl (pj m0 (mcM cs ts nM mm)))), (z2, .inl (G.2 2, 16, .inl (pj m1 (mcM cs ts nM mm)))), (z3, .inl (G.2 2, 16, .inl (pj m2 (mcM cs ts nM mm)))), (z4, .inl (G.2 2, 16, .inl (pj m3 (mcM cs ts nM mm)))), (z5, .inl (G.2 2, 16, .inl (pj m4 (mcM cs ts nM mm)))), (z6, .inl (G.2 3, 16, .inl (pj m5 (mcM cs ts nM mm)))), (z8, .inl (G.2 3, 20, .inl (pj q1 (mcD cs ts cyc nC cc)))), (z9, .inl (G.2 3, 20, .inl (pj q2 (mcD cs ts cyc nC cc)))), (z10, .inl (G.2 3, 20, .inl (pj q3 (mcD cs ts cyc nC cc)))), (z11, .inl (G.2 3, 20, .inl (pj q4 (mcD cs ts cyc nC cc)))), (z12, .inl (G.2 2, 20, .inl (pj q5 (mcD cs ts cyc nC cc)))), (z13, .inl (G.2 2, 20, .inl (pj q6 (mcD cs ts cyc nC cc)))), (z14, .inl (G.2 3, 20, .inl (pj q7 (mcD cs ts cyc nC cc)))), (z15, .inl (G.2 2, 20, .inl (pj q8 (mcD cs ts cyc nC cc)))), (z16, .inl (G.2 2, 20, .inl (pj q9 (mcD cs ts cyc nC cc))))] : va_W) = [(z0, .inr (6, [.int 0, .int (nI nM), .ref z1, .ref z2, .ref z3, .ref z4, .ref z5, .ref z6, .int (nI nC), .ref z7, .ref z8, .ref z9, .ref z10, .ref z11, .ref z12, .ref z13, .ref z14, .ref z15, .ref z16, .int cyc, .int li, .long me, .long mi, .int (nI sn), .ref z17])), (z1, .inl (G.2 2, 16, .inl (pj m0 mm))), (z2, .inl (G.2 2, 16, .inl (pj m1 mm))), (z3, .inl (G.2 2, 16, .inl (pj m2 mm))), (z4, .inl (G.2 2, 16, .inl (pj m3 mm))), (z5, .inl (G.2 2, 16, .inl (pj m4 mm))), (z6, .inl (G.2 3, 16, .inl (pj m5 mm))), (z8, .inl (G.2 3, 20, .inl (pj q1 cc))), (z9, .inl (G.2 3, 20, .inl (pj q2 cc))), (z10, .inl (G.2 3, 20, .inl (pj q3 cc))), (z11, .inl (G.2 3, 20, .inl (pj q4 cc))), (z12, .inl (G.2 2, 20, .inl (pj q5 cc))), (z13, .inl (G.2 2, 20, .inl (pj q6 cc))), (z14, .inl (G.2 3, 20, .inl (pj q7 cc))), (z15, .inl (G.2 2, 20, .inl (pj q8 cc))), (z16, .inl (G.2 2, 20, .inl (pj q9 cc)))] := by first | (simp [mcV, mcN, mcL, mcX, mcM, mcD, mcS, mcB, foZ, c_14]; done) | (simp_all [mcV, mcN, mcL, mcX, mcM, mcD, mcS, mcB, foZ]; done)
    rw [← hw9] at hP hD
    have hq9 : (.int (mcV cs ts nM mm)) = (.int (-2) : Value) := by first | (simp [mcV, mcN, mcL, mcX, mcM, mcD, mcS, mcB, foZ, c_14]; done) | (simp_all [mcV, mcN, mcL, mcX, mcM, mcD, mcS, mcB, foZ]; done)
    exact W.iret (v := (-2)) hx hb hr (fun t ht hW => ⟨⟨by rw [hq9], by rw [ht]; exact hP, by rw [hAe]; exact hD⟩, by rw [hAe]; exact hS.F ht⟩) hS.2.2 d_MOD_cycle_31
  · refine lv_iload_n hx hb d_MOD_cycle_17 rfl (lv_at hl 2 rfl) ?_
    refine lv_i2l (v := ts.toInt64) hx hb d_MOD_cycle_18 rfl ?_
    refine lv_lconst (v := 0) hx hb d_MOD_cycle_19 (by decide) ?_
    refine lv_ldc2 (v := 65535) hx hb hown (hT _ wd_678) d_MOD_cycle_20 ?_
    refine bx_callV (W.runS (As := [.long ts.toInt64, .long 0, .long 65535]) (rest := []) ⟨hx, hb, hml, hown, hts⟩ (c_isIn l G ts.toInt64 0 65535) ⟨(callB_of 3 hts (gi_all wd_671) rfl rfl rfl (hT _ wd_51) (hT _ wd_669) (by decide +kernel) ⟨Nat.le_of_ble_eq_true rfl, Nat.le_of_ble_eq_true rfl⟩), (hT _ wd_670)⟩ (psR bx_nil hGK) rfl rfl hl.1 rfl (lv_room (Nat.le_of_ble_eq_true rfl)) d_MOD_cycle_23 ⟨Nat.le_of_ble_eq_true rfl, Nat.le_of_ble_eq_true rfl⟩) ?_
    refine lv_if_ne (tgt := 32) hx hb d_MOD_cycle_26 (by decide) (fun c_26 => ?_) (fun c_26 => ?_)
    · refine lv_aload_n hx hb d_MOD_cycle_32 rfl (lv_at hl 0 rfl) ?_
      refine lv_dup hx hb d_MOD_cycle_33 rfl ?_
      refine va_get (D := G.1) (ci := 6) (v := .int cyc) (C := R_MOD) (T := T_MOD) (N := 25) hx hb hT in_MOD hown hK hP 0 rfl rfl 19 (by decide) (hT _ wd_601) (fun _ h9 => h9) rfl d_MOD_cycle_34 ?_
      refine lv_iconst (v := 1) hx hb d_MOD_cycle_37 (by decide) ?_
      refine lv_iadd hx hb d_MOD_cycle_38 ?_
      refine va_put (D := G.1) (ci := 6) (v := .int (cyc + 1)) (ty := .int) (C := R_MOD) (T := T_MOD) (N := 25) hx hb hT in_MOD t_MOD tok_MOD nok_MOD hown hK hP hD hS 0 rfl rfl 19 (by decide) (hT _ wd_601) (fun _ h9 => h9) rfl (by decide +kernel) rfl rfl (Nat.le_of_ble_eq_true rfl) d_MOD_cycle_39 (fun H locs hP hD hS => ?_)
      have hP : va_P G.1 vwCl [(z0, .inr (6, [.int 0, .int (nI nM), .ref z1, .ref z2, .ref z3, .ref z4, .ref z5, .ref z6, .int (nI nC), .ref z7, .ref z8, .ref z9, .ref z10, .ref z11, .ref z12, .ref z13, .ref z14, .ref z15, .ref z16, .int (cyc + 1), .int li, .long me, .long mi, .int (nI sn), .ref z17])), (z1, .inl (G.2 2, 16, .inl (pj m0 mm))), (z2, .inl (G.2 2, 16, .inl (pj m1 mm))), (z3, .inl (G.2 2, 16, .inl (pj m2 mm))), (z4, .inl (G.2 2, 16, .inl (pj m3 mm))), (z5, .inl (G.2 2, 16, .inl (pj m4 mm))), (z6, .inl (G.2 3, 16, .inl (pj m5 mm))), (z8, .inl (G.2 3, 20, .inl (pj q1 cc))), (z9, .inl (G.2 3, 20, .inl (pj q2 cc))), (z10, .inl (G.2 3, 20, .inl (pj q3 cc))), (z11, .inl (G.2 3, 20, .inl (pj q4 cc))), (z12, .inl (G.2 2, 20, .inl (pj q5 cc))), (z13, .inl (G.2 2, 20, .inl (pj q6 cc))), (z14, .inl (G.2 3, 20, .inl (pj q7 cc))), (z15, .inl (G.2 2, 20, .inl (pj q8 cc))), (z16, .inl (G.2 2, 20, .inl (pj q9 cc)))] H := hP
      have hD : va_D A [(z0, .inr (6, [.int 0, .int (nI nM), .ref z1, .ref z2, .ref z3, .ref z4, .ref z5, .ref z6, .int (nI nC), .ref z7, .ref z8, .ref z9, .ref z10, .ref z11, .ref z12, .ref z13, .ref z14, .ref z15, .ref z16, .int (cyc + 1), .int li, .long me, .long mi, .int (nI sn), .ref z17])), (z1, .inl (G.2 2, 16, .inl (pj m0 mm))), (z2, .inl (G.2 2, 16, .inl (pj m1 mm))), (z3, .inl (G.2 2, 16, .inl (pj m2 mm))), (z4, .inl (G.2 2, 16, .inl (pj m3 mm))), (z5, .inl (G.2 2, 16, .inl (pj m4 mm))), (z6, .inl (G.2 3, 16, .inl (pj m5 mm))), (z8, .inl (G.2 3, 20, .inl (pj q1 cc))), (z9, .inl (G.2 3, 20, .inl (pj q2 cc))), (z10, .inl (G.2 3, 20, .inl (pj q3 cc))), (z11, .inl (G.2 3, 20, .inl (pj q4 cc))), (z12, .inl (G.2 2, 20, .inl (pj q5 cc))), (z13, .inl (G.2 2, 20, .inl (pj q6 cc))), (z14, .inl (G.2 3, 20, .inl (pj q7 cc))), (z15, .inl (G.2 2, 20, .inl (pj q8 cc))), (z16, .inl (G.2 2, 20, .inl (pj q9 cc)))] := hD
      refine lv_iconst (v := 0) hx hb d_MOD_cycle_42 (by decide) ?_
      refine lv_istore_n (lv' := [(3, .int 0), (0, .ref z0), (1, .int cs), (2, .int ts)]) hx hb d_MOD_cycle_43 rfl hl (by decide) rfl (fun ls hl => ?_)
      refine lv_iconst (v := 0) hx hb d_MOD_cycle_44 (by decide) ?_
      refine lv_istore (lv' := [(4, .int 0), (3, .int 0), (0, .ref z0), (1, .int cs), (2, .int ts)]) hx hb d_MOD_cycle_45 hl (by decide) rfl (fun ls hl => ?_)
      refine bx_loop (σ := Nat × Int32) (fun q H locs ls => q.1 ≤ nM ∧ q.2 = mcntM mm cs q.1 ∧ va_P G.1 vwCl [(z0, .inr (6, [.int 0, .int (nI nM), .ref z1, .ref z2, .ref z3, .ref z4, .ref z5, .ref z6, .int (nI nC), .ref z7, .ref z8, .ref z9, .ref z10, .ref z11, .ref z12, .ref z13, .ref z14, .ref z15, .ref z16, .int (cyc + 1), .int li, .long me, .long mi, .int (nI sn), .ref z17])), (z1, .inl (G.2 2, 16, .inl (pj m0 (upto (gMo cs ts) mm q.1)))), (z2, .inl (G.2 2, 16, .inl (pj m1 (upto (gMo cs ts) mm q.1)))), (z3, .inl (G.2 2, 16, .inl (pj m2 (upto (gMo cs ts) mm q.1)))), (z4, .inl (G.2 2, 16, .inl (pj m3 (upto (gMo cs ts) mm q.1)))), (z5, .inl (G.2 2, 16, .inl (pj m4 (upto (gMo cs ts) mm q.1)))), (z6, .inl (G.2 3, 16, .inl (pj m5 (upto (gMo cs ts) mm q.1)))), (z8, .inl (G.2 3, 20, .inl (pj q1 cc))), (z9, .inl (G.2 3, 20, .inl (pj q2 cc))), (z10, .inl (G.2 3, 20, .inl (pj q3 cc))), (z11, .inl (G.2 3, 20, .inl (pj q4 cc))), (z12, .inl (G.2 2, 20, .inl (pj q5 cc))), (z13, .inl (G.2 2, 20, .inl (pj q6 cc))), (z14, .inl (G.2 3, 20, .inl (pj q7 cc))), (z15, .inl (G.2 2, 20, .inl (pj q8 cc))), (z16, .inl (G.2 2, 20, .inl (pj q9 cc)))] H ∧ va_D A [(z0, .inr (6, [.int 0, .int (nI nM), .ref z1, .ref z2, .ref z3, .ref z4, .ref z5, .ref z6, .int (nI nC), .ref z7, .ref z8, .ref z9, .ref z10, .ref z11, .ref z12, .ref z13, .ref z14, .ref z15, .ref z16, .int (cyc + 1), .int li, .long me, .long mi, .int (nI sn), .ref z17])), (z1, .inl (G.2 2, 16, .inl (pj m0 (upto (gMo cs ts) mm q.1)))), (z2, .inl (G.2 2, 16, .inl (pj m1 (upto (gMo cs ts) mm q.1)))), (z3, .inl (G.2 2, 16, .inl (pj m2 (upto (gMo cs ts) mm q.1)))), (z4, .inl (G.2 2, 16, .inl (pj m3 (upto (gMo cs ts) mm q.1)))), (z5, .inl (G.2 2, 16, .inl (pj m4 (upto (gMo cs ts) mm q.1)))), (z6, .inl (G.2 3, 16, .inl (pj m5 (upto (gMo cs ts) mm q.1)))), (z8, .inl (G.2 3, 20, .inl (pj q1 cc))), (z9, .inl (G.2 3, 20, .inl (pj q2 cc))), (z10, .inl (G.2 3, 20, .inl (pj q3 cc))), (z11, .inl (G.2 3, 20, .inl (pj q4 cc))), (z12, .inl (G.2 2, 20, .inl (pj q5 cc))), (z13, .inl (G.2 2, 20, .inl (pj q6 cc))), (z14, .inl (G.2 3, 20, .inl (pj q7 cc))), (z15, .inl (G.2 2, 20, .inl (pj q8 cc))), (z16, .inl (G.2 2, 20, .inl (pj q9 cc)))] ∧ va_S A s.heap H locs ∧ lv_has ls 6 [(0, .ref z0), (1, .int cs), (2, .int ts), (3, .int q.2), (4, .int (nI q.1))]) (fun q => nM - q.1) _ (fun q H locs ls hI ih => ?_) (0, 0) ls ⟨Nat.zero_le _, rfl, by rw [upto_zero]; exact hP, by rw [upto_zero]; exact hD, hS, lv_sub hl [2, 3, 4, 1, 0] rfl⟩
      obtain ⟨k, ac1⟩ := q
      obtain ⟨hknk, hac, hP, hD, hS, hl⟩ := hI
      have hknk : k ≤ nM := hknk
      have hac : ac1 = mcntM mm cs k := hac
      have hP : va_P G.1 vwCl [(z0, .inr (6, [.int 0, .int (nI nM), .ref z1, .ref z2, .ref z3, .ref z4, .ref z5, .ref z6, .int (nI nC), .ref z7, .ref z8, .ref z9, .ref z10, .ref z11, .ref z12, .ref z13, .ref z14, .ref z15, .ref z16, .int (cyc + 1), .int li, .long me, .long mi, .int (nI sn), .ref z17])), (z1, .inl (G.2 2, 16, .inl (pj m0 (upto (gMo cs ts) mm k)))), (z2, .inl (G.2 2, 16, .inl (pj m1 (upto (gMo cs ts) mm k)))), (z3, .inl (G.2 2, 16, .inl (pj m2 (upto (gMo cs ts) mm k)))), (z4, .inl (G.2 2, 16, .inl (pj m3 (upto (gMo cs ts) mm k)))), (z5, .inl (G.2 2, 16, .inl (pj m4 (upto (gMo cs ts) mm k)))), (z6, .inl (G.2 3, 16, .inl (pj m5 (upto (gMo cs ts) mm k)))), (z8, .inl (G.2 3, 20, .inl (pj q1 cc))), (z9, .inl (G.2 3, 20, .inl (pj q2 cc))), (z10, .inl (G.2 3, 20, .inl (pj q3 cc))), (z11, .inl (G.2 3, 20, .inl (pj q4 cc))), (z12, .inl (G.2 2, 20, .inl (pj q5 cc))), (z13, .inl (G.2 2, 20, .inl (pj q6 cc))), (z14, .inl (G.2 3, 20, .inl (pj q7 cc))), (z15, .inl (G.2 2, 20, .inl (pj q8 cc))), (z16, .inl (G.2 2, 20, .inl (pj q9 cc)))] H := hP
      have hD : va_D A [(z0, .inr (6, [.int 0, .int (nI nM), .ref z1, .ref z2, .ref z3, .ref z4, .ref z5, .ref z6, .int (nI nC), .ref z7, .ref z8, .ref z9, .ref z10, .ref z11, .ref z12, .ref z13, .ref z14, .ref z15, .ref z16, .int (cyc + 1), .int li, .long me, .long mi, .int (nI sn), .ref z17])), (z1, .inl (G.2 2, 16, .inl (pj m0 (upto (gMo cs ts) mm k)))), (z2, .inl (G.2 2, 16, .inl (pj m1 (upto (gMo cs ts) mm k)))), (z3, .inl (G.2 2, 16, .inl (pj m2 (upto (gMo cs ts) mm k)))), (z4, .inl (G.2 2, 16, .inl (pj m3 (upto (gMo cs ts) mm k)))), (z5, .inl (G.2 2, 16, .inl (pj m4 (upto (gMo cs ts) mm k)))), (z6, .inl (G.2 3, 16, .inl (pj m5 (upto (gMo cs ts) mm k)))), (z8, .inl (G.2 3, 20, .inl (pj q1 cc))), (z9, .inl (G.2 3, 20, .inl (pj q2 cc))), (z10, .inl (G.2 3, 20, .inl (pj q3 cc))), (z11, .inl (G.2 3, 20, .inl (pj q4 cc))), (z12, .inl (G.2 2, 20, .inl (pj q5 cc))), (z13, .inl (G.2 2, 20, .inl (pj q6 cc))), (z14, .inl (G.2 3, 20, .inl (pj q7 cc))), (z15, .inl (G.2 2, 20, .inl (pj q8 cc))), (z16, .inl (G.2 2, 20, .inl (pj q9 cc)))] := hD
      have hl : lv_has ls 6 [(0, .ref z0), (1, .int cs), (2, .int ts), (3, .int ac1), (4, .int (nI k))] := hl
      refine lv_iload hx hb d_MOD_cycle_47 (lv_at hl 4 rfl) ?_
      refine lv_aload_n hx hb d_MOD_cycle_49 rfl (lv_at hl 0 rfl) ?_
      refine va_get (D := G.1) (ci := 6) (v := .int (nI nM)) (C := R_MOD) (T := T_MOD) (N := 25) hx hb hT in_MOD hown hK hP 0 rfl rfl 1 (by decide) (hT _ wd_583) (fun _ h9 => h9) rfl d_MOD_cycle_50 ?_
      refine lv_icmp_ge (tgt := 127) hx hb d_MOD_cycle_53 (by decide) (fun c_53 => ?_) (fun c_53 => ?_)
      · have hge : nM ≤ k := (nI_leI (by omega) (by omega)).mp c_53
        have hke : k = nM := by omega
        rw [hke] at hP hD
        have hP : va_P G.1 vwCl [(z0, .inr (6, [.int 0, .int (nI nM), .ref z1, .ref z2, .ref z3, .ref z4, .ref z5, .ref z6, .int (nI nC), .ref z7, .ref z8, .ref z9, .ref z10, .ref z11, .ref z12, .ref z13, .ref z14, .ref z15, .ref z16, .int (cyc + 1), .int li, .long me, .long mi, .int (nI sn), .ref z17])), (z1, .inl (G.2 2, 16, .inl (pj m0 (upto (gMo cs ts) mm nM)))), (z2, .inl (G.2 2, 16, .inl (pj m1 (upto (gMo cs ts) mm nM)))), (z3, .inl (G.2 2, 16, .inl (pj m2 (upto (gMo cs ts) mm nM)))), (z4, .inl (G.2 2, 16, .inl (pj m3 (upto (gMo cs ts) mm nM)))), (z5, .inl (G.2 2, 16, .inl (pj m4 (upto (gMo cs ts) mm nM)))), (z6, .inl (G.2 3, 16, .inl (pj m5 (upto (gMo cs ts) mm nM)))), (z8, .inl (G.2 3, 20, .inl (pj q1 cc))), (z9, .inl (G.2 3, 20, .inl (pj q2 cc))), (z10, .inl (G.2 3, 20, .inl (pj q3 cc))), (z11, .inl (G.2 3, 20, .inl (pj q4 cc))), (z12, .inl (G.2 2, 20, .inl (pj q5 cc))), (z13, .inl (G.2 2, 20, .inl (pj q6 cc))), (z14, .inl (G.2 3, 20, .inl (pj q7 cc))), (z15, .inl (G.2 2, 20, .inl (pj q8 cc))), (z16, .inl (G.2 2, 20, .inl (pj q9 cc)))] H := hP
        have hD : va_D A [(z0, .inr (6, [.int 0, .int (nI nM), .ref z1, .ref z2, .ref z3, .ref z4, .ref z5, .ref z6, .int (nI nC), .ref z7, .ref z8, .ref z9, .ref z10, .ref z11, .ref z12, .ref z13, .ref z14, .ref z15, .ref z16, .int (cyc + 1), .int li, .long me, .long mi, .int (nI sn), .ref z17])), (z1, .inl (G.2 2, 16, .inl (pj m0 (upto (gMo cs ts) mm nM)))), (z2, .inl (G.2 2, 16, .inl (pj m1 (upto (gMo cs ts) mm nM)))), (z3, .inl (G.2 2, 16, .inl (pj m2 (upto (gMo cs ts) mm nM)))), (z4, .inl (G.2 2, 16, .inl (pj m3 (upto (gMo cs ts) mm nM)))), (z5, .inl (G.2 2, 16, .inl (pj m4 (upto (gMo cs ts) mm nM)))), (z6, .inl (G.2 3, 16, .inl (pj m5 (upto (gMo cs ts) mm nM)))), (z8, .inl (G.2 3, 20, .inl (pj q1 cc))), (z9, .inl (G.2 3, 20, .inl (pj q2 cc))), (z10, .inl (G.2 3, 20, .inl (pj q3 cc))), (z11, .inl (G.2 3, 20, .inl (pj q4 cc))), (z12, .inl (G.2 2, 20, .inl (pj q5 cc))), (z13, .inl (G.2 2, 20, .inl (pj q6 cc))), (z14, .inl (G.2 3, 20, .inl (pj q7 cc))), (z15, .inl (G.2 2, 20, .inl (pj q8 cc))), (z16, .inl (G.2 2, 20, .inl (pj q9 cc)))] := hD
        refine lv_iconst (v := 0) hx hb d_MOD_cycle_127 (by decide) ?_
        refine lv_istore (lv' := [(4, .int 0), (0, .ref z0), (1, .int cs), (2, .int ts), (3, .int ac1)]) hx hb d_MOD_cycle_128 hl (by decide) rfl (fun ls hl => ?_)
        rw [hac, hke] at hl
        refine bx_loop (σ := Nat) (fun q H locs ls => q ≤ nC ∧ va_P G.1 vwCl [(z0, .inr (6, [.int 0, .int (nI nM), .ref z1, .ref z2, .ref z3, .ref z4, .ref z5, .ref z6, .int (nI nC), .ref z7, .ref z8, .ref z9, .ref z10, .ref z11, .ref z12, .ref z13, .ref z14, .ref z15, .ref z16, .int (cyc + 1), .int li, .long me, .long mi, .int (nI sn), .ref z17])), (z1, .inl (G.2 2, 16, .inl (pj m0 (upto (gMo cs ts) mm nM)))), (z2, .inl (G.2 2, 16, .inl (pj m1 (upto (gMo cs ts) mm nM)))), (z3, .inl (G.2 2, 16, .inl (pj m2 (upto (gMo cs ts) mm nM)))), (z4, .inl (G.2 2, 16, .inl (pj m3 (upto (gMo cs ts) mm nM)))), (z5, .inl (G.2 2, 16, .inl (pj m4 (upto (gMo cs ts) mm nM)))), (z6, .inl (G.2 3, 16, .inl (pj m5 (upto (gMo cs ts) mm nM)))), (z8, .inl (G.2 3, 20, .inl (pj q1 (upto (gMc (cyc + 1) cs) cc q)))), (z9, .inl (G.2 3, 20, .inl (pj q2 (upto (gMc (cyc + 1) cs) cc q)))), (z10, .inl (G.2 3, 20, .inl (pj q3 (upto (gMc (cyc + 1) cs) cc q)))), (z11, .inl (G.2 3, 20, .inl (pj q4 (upto (gMc (cyc + 1) cs) cc q)))), (z12, .inl (G.2 2, 20, .inl (pj q5 (upto (gMc (cyc + 1) cs) cc q)))), (z13, .inl (G.2 2, 20, .inl (pj q6 (upto (gMc (cyc + 1) cs) cc q)))), (z14, .inl (G.2 3, 20, .inl (pj q7 (upto (gMc (cyc + 1) cs) cc q)))), (z15, .inl (G.2 2, 20, .inl (pj q8 (upto (gMc (cyc + 1) cs) cc q)))), (z16, .inl (G.2 2, 20, .inl (pj q9 (upto (gMc (cyc + 1) cs) cc q))))] H ∧ va_D A [(z0, .inr (6, [.int 0, .int (nI nM), .ref z1, .ref z2, .ref z3, .ref z4, .ref z5, .ref z6, .int (nI nC), .ref z7, .ref z8, .ref z9, .ref z10, .ref z11, .ref z12, .ref z13, .ref z14, .ref z15, .ref z16, .int (cyc + 1), .int li, .long me, .long mi, .int (nI sn), .ref z17])), (z1, .inl (G.2 2, 16, .inl (pj m0 (upto (gMo cs ts) mm nM)))), (z2, .inl (G.2 2, 16, .inl (pj m1 (upto (gMo cs ts) mm nM)))), (z3, .inl (G.2 2, 16, .inl (pj m2 (upto (gMo cs ts) mm nM)))), (z4, .inl (G.2 2, 16, .inl (pj m3 (upto (gMo cs ts) mm nM)))), (z5, .inl (G.2 2, 16, .inl (pj m4 (upto (gMo cs ts) mm nM)))), (z6, .inl (G.2 3, 16, .inl (pj m5 (upto (gMo cs ts) mm nM)))), (z8, .inl (G.2 3, 20, .inl (pj q1 (upto (gMc (cyc + 1) cs) cc q)))), (z9, .inl (G.2 3, 20, .inl (pj q2 (upto (gMc (cyc + 1) cs) cc q)))), (z10, .inl (G.2 3, 20, .inl (pj q3 (upto (gMc (cyc + 1) cs) cc q)))), (z11, .inl (G.2 3, 20, .inl (pj q4 (upto (gMc (cyc + 1) cs) cc q)))), (z12, .inl (G.2 2, 20, .inl (pj q5 (upto (gMc (cyc + 1) cs) cc q)))), (z13, .inl (G.2 2, 20, .inl (pj q6 (upto (gMc (cyc + 1) cs) cc q)))), (z14, .inl (G.2 3, 20, .inl (pj q7 (upto (gMc (cyc + 1) cs) cc q)))), (z15, .inl (G.2 2, 20, .inl (pj q8 (upto (gMc (cyc + 1) cs) cc q)))), (z16, .inl (G.2 2, 20, .inl (pj q9 (upto (gMc (cyc + 1) cs) cc q))))] ∧ va_S A s.heap H locs ∧ lv_has ls 6 [(0, .ref z0), (1, .int cs), (3, .int (mcntM mm cs nM)), (4, .int (nI q))]) (fun q => nC - q) _ (fun q H locs ls hI ih => ?_) 0 ls ⟨Nat.zero_le _, by rw [upto_zero]; exact hP, by rw [upto_zero]; exact hD, hS, lv_sub hl [1, 2, 4, 0] rfl⟩
        revert hI ih; generalize q = k2; intro hI ih
        obtain ⟨hknk2, hP, hD, hS, hl⟩ := hI
        have hknk2 : k2 ≤ nC := hknk2
        have hP : va_P G.1 vwCl [(z0, .inr (6, [.int 0, .int (nI nM), .ref z1, .ref z2, .ref z3, .ref z4, .ref z5, .ref z6, .int (nI nC), .ref z7, .ref z8, .ref z9, .ref z10, .ref z11, .ref z12, .ref z13, .ref z14, .ref z15, .ref z16, .int (cyc + 1), .int li, .long me, .long mi, .int (nI sn), .ref z17])), (z1, .inl (G.2 2, 16, .inl (pj m0 (upto (gMo cs ts) mm nM)))), (z2, .inl (G.2 2, 16, .inl (pj m1 (upto (gMo cs ts) mm nM)))), (z3, .inl (G.2 2, 16, .inl (pj m2 (upto (gMo cs ts) mm nM)))), (z4, .inl (G.2 2, 16, .inl (pj m3 (upto (gMo cs ts) mm nM)))), (z5, .inl (G.2 2, 16, .inl (pj m4 (upto (gMo cs ts) mm nM)))), (z6, .inl (G.2 3, 16, .inl (pj m5 (upto (gMo cs ts) mm nM)))), (z8, .inl (G.2 3, 20, .inl (pj q1 (upto (gMc (cyc + 1) cs) cc k2)))), (z9, .inl (G.2 3, 20, .inl (pj q2 (upto (gMc (cyc + 1) cs) cc k2)))), (z10, .inl (G.2 3, 20, .inl (pj q3 (upto (gMc (cyc + 1) cs) cc k2)))), (z11, .inl (G.2 3, 20, .inl (pj q4 (upto (gMc (cyc + 1) cs) cc k2)))), (z12, .inl (G.2 2, 20, .inl (pj q5 (upto (gMc (cyc + 1) cs) cc k2)))), (z13, .inl (G.2 2, 20, .inl (pj q6 (upto (gMc (cyc + 1) cs) cc k2)))), (z14, .inl (G.2 3, 20, .inl (pj q7 (upto (gMc (cyc + 1) cs) cc k2)))), (z15, .inl (G.2 2, 20, .inl (pj q8 (upto (gMc (cyc + 1) cs) cc k2)))), (z16, .inl (G.2 2, 20, .inl (pj q9 (upto (gMc (cyc + 1) cs) cc k2))))] H := hP
        have hD : va_D A [(z0, .inr (6, [.int 0, .int (nI nM), .ref z1, .ref z2, .ref z3, .ref z4, .ref z5, .ref z6, .int (nI nC), .ref z7, .ref z8, .ref z9, .ref z10, .ref z11, .ref z12, .ref z13, .ref z14, .ref z15, .ref z16, .int (cyc + 1), .int li, .long me, .long mi, .int (nI sn), .ref z17])), (z1, .inl (G.2 2, 16, .inl (pj m0 (upto (gMo cs ts) mm nM)))), (z2, .inl (G.2 2, 16, .inl (pj m1 (upto (gMo cs ts) mm nM)))), (z3, .inl (G.2 2, 16, .inl (pj m2 (upto (gMo cs ts) mm nM)))), (z4, .inl (G.2 2, 16, .inl (pj m3 (upto (gMo cs ts) mm nM)))), (z5, .inl (G.2 2, 16, .inl (pj m4 (upto (gMo cs ts) mm nM)))), (z6, .inl (G.2 3, 16, .inl (pj m5 (upto (gMo cs ts) mm nM)))), (z8, .inl (G.2 3, 20, .inl (pj q1 (upto (gMc (cyc + 1) cs) cc k2)))), (z9, .inl (G.2 3, 20, .inl (pj q2 (upto (gMc (cyc + 1) cs) cc k2)))), (z10, .inl (G.2 3, 20, .inl (pj q3 (upto (gMc (cyc + 1) cs) cc k2)))), (z11, .inl (G.2 3, 20, .inl (pj q4 (upto (gMc (cyc + 1) cs) cc k2)))), (z12, .inl (G.2 2, 20, .inl (pj q5 (upto (gMc (cyc + 1) cs) cc k2)))), (z13, .inl (G.2 2, 20, .inl (pj q6 (upto (gMc (cyc + 1) cs) cc k2)))), (z14, .inl (G.2 3, 20, .inl (pj q7 (upto (gMc (cyc + 1) cs) cc k2)))), (z15, .inl (G.2 2, 20, .inl (pj q8 (upto (gMc (cyc + 1) cs) cc k2)))), (z16, .inl (G.2 2, 20, .inl (pj q9 (upto (gMc (cyc + 1) cs) cc k2))))] := hD
        have hl : lv_has ls 6 [(0, .ref z0), (1, .int cs), (3, .int (mcntM mm cs nM)), (4, .int (nI k2))] := hl
        refine lv_iload hx hb d_MOD_cycle_130 (lv_at hl 3 rfl) ?_
        refine lv_aload_n hx hb d_MOD_cycle_132 rfl (lv_at hl 0 rfl) ?_
        refine va_get (D := G.1) (ci := 6) (v := .int (nI nC)) (C := R_MOD) (T := T_MOD) (N := 25) hx hb hT in_MOD hown hK hP 0 rfl rfl 8 (by decide) (hT _ wd_590) (fun _ h9 => h9) rfl d_MOD_cycle_133 ?_
        refine lv_icmp_ge (tgt := 172) hx hb d_MOD_cycle_136 (by decide) (fun c_136 => ?_) (fun c_136 => ?_)
        · have hge : nC ≤ k2 := (nI_leI (by omega) (by omega)).mp c_136
          have hk2e : k2 = nC := by omega
          rw [hk2e] at hP hD
          have hP : va_P G.1 vwCl [(z0, .inr (6, [.int 0, .int (nI nM), .ref z1, .ref z2, .ref z3, .ref z4, .ref z5, .ref z6, .int (nI nC), .ref z7, .ref z8, .ref z9, .ref z10, .ref z11, .ref z12, .ref z13, .ref z14, .ref z15, .ref z16, .int (cyc + 1), .int li, .long me, .long mi, .int (nI sn), .ref z17])), (z1, .inl (G.2 2, 16, .inl (pj m0 (upto (gMo cs ts) mm nM)))), (z2, .inl (G.2 2, 16, .inl (pj m1 (upto (gMo cs ts) mm nM)))), (z3, .inl (G.2 2, 16, .inl (pj m2 (upto (gMo cs ts) mm nM)))), (z4, .inl (G.2 2, 16, .inl (pj m3 (upto (gMo cs ts) mm nM)))), (z5, .inl (G.2 2, 16, .inl (pj m4 (upto (gMo cs ts) mm nM)))), (z6, .inl (G.2 3, 16, .inl (pj m5 (upto (gMo cs ts) mm nM)))), (z8, .inl (G.2 3, 20, .inl (pj q1 (upto (gMc (cyc + 1) cs) cc nC)))), (z9, .inl (G.2 3, 20, .inl (pj q2 (upto (gMc (cyc + 1) cs) cc nC)))), (z10, .inl (G.2 3, 20, .inl (pj q3 (upto (gMc (cyc + 1) cs) cc nC)))), (z11, .inl (G.2 3, 20, .inl (pj q4 (upto (gMc (cyc + 1) cs) cc nC)))), (z12, .inl (G.2 2, 20, .inl (pj q5 (upto (gMc (cyc + 1) cs) cc nC)))), (z13, .inl (G.2 2, 20, .inl (pj q6 (upto (gMc (cyc + 1) cs) cc nC)))), (z14, .inl (G.2 3, 20, .inl (pj q7 (upto (gMc (cyc + 1) cs) cc nC)))), (z15, .inl (G.2 2, 20, .inl (pj q8 (upto (gMc (cyc + 1) cs) cc nC)))), (z16, .inl (G.2 2, 20, .inl (pj q9 (upto (gMc (cyc + 1) cs) cc nC))))] H := hP
          have hD : va_D A [(z0, .inr (6, [.int 0, .int (nI nM), .ref z1, .ref z2, .ref z3, .ref z4, .ref z5, .ref z6, .int (nI nC), .ref z7, .ref z8, .ref z9, .ref z10, .ref z11, .ref z12, .ref z13, .ref z14, .ref z15, .ref z16, .int (cyc + 1), .int li, .long me, .long mi, .int (nI sn), .ref z17])), (z1, .inl (G.2 2, 16, .inl (pj m0 (upto (gMo cs ts) mm nM)))), (z2, .inl (G.2 2, 16, .inl (pj m1 (upto (gMo cs ts) mm nM)))), (z3, .inl (G.2 2, 16, .inl (pj m2 (upto (gMo cs ts) mm nM)))), (z4, .inl (G.2 2, 16, .inl (pj m3 (upto (gMo cs ts) mm nM)))), (z5, .inl (G.2 2, 16, .inl (pj m4 (upto (gMo cs ts) mm nM)))), (z6, .inl (G.2 3, 16, .inl (pj m5 (upto (gMo cs ts) mm nM)))), (z8, .inl (G.2 3, 20, .inl (pj q1 (upto (gMc (cyc + 1) cs) cc nC)))), (z9, .inl (G.2 3, 20, .inl (pj q2 (upto (gMc (cyc + 1) cs) cc nC)))), (z10, .inl (G.2 3, 20, .inl (pj q3 (upto (gMc (cyc + 1) cs) cc nC)))), (z11, .inl (G.2 3, 20, .inl (pj q4 (upto (gMc (cyc + 1) cs) cc nC)))), (z12, .inl (G.2 2, 20, .inl (pj q5 (upto (gMc (cyc + 1) cs) cc nC)))), (z13, .inl (G.2 2, 20, .inl (pj q6 (upto (gMc (cyc + 1) cs) cc nC)))), (z14, .inl (G.2 3, 20, .inl (pj q7 (upto (gMc (cyc + 1) cs) cc nC)))), (z15, .inl (G.2 2, 20, .inl (pj q8 (upto (gMc (cyc + 1) cs) cc nC)))), (z16, .inl (G.2 2, 20, .inl (pj q9 (upto (gMc (cyc + 1) cs) cc nC))))] := hD
          refine lv_aload_n hx hb d_MOD_cycle_172 rfl (lv_at hl 0 rfl) ?_
          have hPc := hP.sub (ws' := [(z0, .inr (6, [.int 0, .int (nI nM), .ref z1, .ref z2, .ref z3, .ref z4, .ref z5, .ref z6, .int (nI nC), .ref z7, .ref z8, .ref z9, .ref z10, .ref z11, .ref z12, .ref z13, .ref z14, .ref z15, .ref z16, .int (cyc + 1), .int li, .long me, .long mi, .int (nI sn), .ref z17])), (z10, .inl (G.2 3, 20, .inl (pj q3 (upto (gMc (cyc + 1) cs) cc nC))))]) [0, 9] rfl
          refine bx_callV (W.runV (As := []) (rest := []) ⟨hx, hb, hml, hown, hts⟩ (c_confirmedCodes l G z0 z1 z2 z3 z4 z5 z6 z7 z8 z9 z10 z11 z12 z13 z14 z15 z16 z17 0 (cyc + 1) li nM nC sn me mi (pj q3 (upto (gMc (cyc + 1) cs) cc nC)) (by assumption)) ⟨(callB_of 0 hts (gi_all wd_701) rfl rfl rfl (hT _ wd_51) (hT _ wd_698) (by decide +kernel) ⟨Nat.le_of_ble_eq_true rfl, Nat.le_of_ble_eq_true rfl⟩), (hT _ wd_700), (hT _ wd_37)⟩ (pvR hPc hGK (va_recv hK hPc (ci := 6) (q0 := 0) rfl rfl)) rfl rfl hl.1 rfl (lv_room (Nat.le_of_ble_eq_true rfl)) d_MOD_cycle_173 ⟨Nat.le_of_ble_eq_true rfl, Nat.le_of_ble_eq_true rfl⟩) ?_
          refine lv_if_le (tgt := 183) hx hb d_MOD_cycle_176 (by decide) (fun c_176 => ?_) (fun c_176 => ?_)
          · refine lv_iconst (v := 0) hx hb d_MOD_cycle_183 (by decide) ?_
            refine lv_istore (lv' := [(4, .int 0), (0, .ref z0), (1, .int cs), (3, .int (mcntM mm cs nM))]) hx hb d_MOD_cycle_184 hl (by decide) rfl (fun ls hl => ?_)
            refine lv_iload hx hb d_MOD_cycle_186 (lv_at hl 0 rfl) ?_
            refine lv_if_eq (tgt := 208) hx hb d_MOD_cycle_188 (by decide) (fun c_188 => ?_) (fun c_188 => ?_)
            · refine lv_aload_n hx hb d_MOD_cycle_208 rfl (lv_at hl 1 rfl) ?_
              refine lv_iload hx hb d_MOD_cycle_209 (lv_at hl 0 rfl) ?_
              refine va_put (D := G.1) (ci := 6) (v := .int 0) (ty := .boolean) (C := R_MOD) (T := T_MOD) (N := 25) hx hb hT in_MOD t_MOD tok_MOD nok_MOD hown hK hP hD hS 0 rfl rfl 20 (by decide) (hT _ wd_602) (fun _ h9 => h9) rfl (by decide +kernel) rfl rfl (Nat.le_of_ble_eq_true rfl) d_MOD_cycle_211 (fun H locs hP hD hS => ?_)
              have hP : va_P G.1 vwCl [(z0, .inr (6, [.int 0, .int (nI nM), .ref z1, .ref z2, .ref z3, .ref z4, .ref z5, .ref z6, .int (nI nC), .ref z7, .ref z8, .ref z9, .ref z10, .ref z11, .ref z12, .ref z13, .ref z14, .ref z15, .ref z16, .int (cyc + 1), .int 0, .long me, .long mi, .int (nI sn), .ref z17])), (z1, .inl (G.2 2, 16, .inl (pj m0 (upto (gMo cs ts) mm nM)))), (z2, .inl (G.2 2, 16, .inl (pj m1 (upto (gMo cs ts) mm nM)))), (z3, .inl (G.2 2, 16, .inl (pj m2 (upto (gMo cs ts) mm nM)))), (z4, .inl (G.2 2, 16, .inl (pj m3 (upto (gMo cs ts) mm nM)))), (z5, .inl (G.2 2, 16, .inl (pj m4 (upto (gMo cs ts) mm nM)))), (z6, .inl (G.2 3, 16, .inl (pj m5 (upto (gMo cs ts) mm nM)))), (z8, .inl (G.2 3, 20, .inl (pj q1 (upto (gMc (cyc + 1) cs) cc nC)))), (z9, .inl (G.2 3, 20, .inl (pj q2 (upto (gMc (cyc + 1) cs) cc nC)))), (z10, .inl (G.2 3, 20, .inl (pj q3 (upto (gMc (cyc + 1) cs) cc nC)))), (z11, .inl (G.2 3, 20, .inl (pj q4 (upto (gMc (cyc + 1) cs) cc nC)))), (z12, .inl (G.2 2, 20, .inl (pj q5 (upto (gMc (cyc + 1) cs) cc nC)))), (z13, .inl (G.2 2, 20, .inl (pj q6 (upto (gMc (cyc + 1) cs) cc nC)))), (z14, .inl (G.2 3, 20, .inl (pj q7 (upto (gMc (cyc + 1) cs) cc nC)))), (z15, .inl (G.2 2, 20, .inl (pj q8 (upto (gMc (cyc + 1) cs) cc nC)))), (z16, .inl (G.2 2, 20, .inl (pj q9 (upto (gMc (cyc + 1) cs) cc nC))))] H := hP
              have hD : va_D A [(z0, .inr (6, [.int 0, .int (nI nM), .ref z1, .ref z2, .ref z3, .ref z4, .ref z5, .ref z6, .int (nI nC), .ref z7, .ref z8, .ref z9, .ref z10, .ref z11, .ref z12, .ref z13, .ref z14, .ref z15, .ref z16, .int (cyc + 1), .int 0, .long me, .long mi, .int (nI sn), .ref z17])), (z1, .inl (G.2 2, 16, .inl (pj m0 (upto (gMo cs ts) mm nM)))), (z2, .inl (G.2 2, 16, .inl (pj m1 (upto (gMo cs ts) mm nM)))), (z3, .inl (G.2 2, 16, .inl (pj m2 (upto (gMo cs ts) mm nM)))), (z4, .inl (G.2 2, 16, .inl (pj m3 (upto (gMo cs ts) mm nM)))), (z5, .inl (G.2 2, 16, .inl (pj m4 (upto (gMo cs ts) mm nM)))), (z6, .inl (G.2 3, 16, .inl (pj m5 (upto (gMo cs ts) mm nM)))), (z8, .inl (G.2 3, 20, .inl (pj q1 (upto (gMc (cyc + 1) cs) cc nC)))), (z9, .inl (G.2 3, 20, .inl (pj q2 (upto (gMc (cyc + 1) cs) cc nC)))), (z10, .inl (G.2 3, 20, .inl (pj q3 (upto (gMc (cyc + 1) cs) cc nC)))), (z11, .inl (G.2 3, 20, .inl (pj q4 (upto (gMc (cyc + 1) cs) cc nC)))), (z12, .inl (G.2 2, 20, .inl (pj q5 (upto (gMc (cyc + 1) cs) cc nC)))), (z13, .inl (G.2 2, 20, .inl (pj q6 (upto (gMc (cyc + 1) cs) cc nC)))), (z14, .inl (G.2 3, 20, .inl (pj q7 (upto (gMc (cyc + 1) cs) cc nC)))), (z15, .inl (G.2 2, 20, .inl (pj q8 (upto (gMc (cyc + 1) cs) cc nC)))), (z16, .inl (G.2 2, 20, .inl (pj q9 (upto (gMc (cyc + 1) cs) cc nC))))] := hD
              refine lv_iload_n hx hb d_MOD_cycle_214 rfl (lv_at hl 3 rfl) ?_
              have hw9 : ([(z0, .inr (6, [.int 0, .int (nI nM), .ref z1, .ref z2, .ref z3, .ref z4, .ref z5, .ref z6, .int (nI nC), .ref z7, .ref z8, .ref z9, .ref z10, .ref z11, .ref z12, .ref z13, .ref z14, .ref z15, .ref z16, .int (mcN cs ts cyc), .int (mcL cs ts cyc nC cc li), .long (mcX cs ts cyc nC cc li me), .long (mcX cs ts cyc nC cc li mi), .int (nI sn), .ref z17])), (z1, .inl (G.2 2, 16, .inl (pj m0 (mcM cs ts nM mm)))), (z2, .inl (G.2 2, 16, .inl (pj m1 (mcM cs ts nM mm)))), (z3, .inl (G.2 2, 16, .inl (pj m2 (mcM cs ts nM mm)))), (z4, .inl (G.2 2, 16, .inl (pj m3 (mcM cs ts nM mm)))), (z5, .inl (G.2 2, 16, .inl (pj m4 (mcM cs ts nM mm)))), (z6, .inl (G.2 3, 16, .inl (pj m5 (mcM cs ts nM mm)))), (z8, .inl (G.2 3, 20, .inl (pj q1 (mcD cs ts cyc nC cc)))), (z9, .inl (G.2 3, 20, .inl (pj q2 (mcD cs ts cyc nC cc)))), (z10, .inl (G.2 3, 20, .inl (pj q3 (mcD cs ts cyc nC cc)))), (z11, .inl (G.2 3, 20, .inl (pj q4 (mcD cs ts cyc nC cc)))), (z12, .inl (G.2 2, 20, .inl (pj q5 (mcD cs ts cyc nC cc)))), (z13, .inl (G.2 2, 20, .inl (pj q6 (mcD cs ts cyc nC cc)))), (z14, .inl (G.2 3, 20, .inl (pj q7 (mcD cs ts cyc nC cc)))), (z15, .inl (G.2 2, 20, .inl (pj q8 (mcD cs ts cyc nC cc)))), (z16, .inl (G.2 2, 20, .inl (pj q9 (mcD cs ts cyc nC cc))))] : va_W) = [(z0, .inr (6, [.int 0, .int (nI nM), .ref z1, .ref z2, .ref z3, .ref z4, .ref z5, .ref z6, .int (nI nC), .ref z7, .ref z8, .ref z9, .ref z10, .ref z11, .ref z12, .ref z13, .ref z14, .ref z15, .ref z16, .int (cyc + 1), .int 0, .long me, .long mi, .int (nI sn), .ref z17])), (z1, .inl (G.2 2, 16, .inl (pj m0 (upto (gMo cs ts) mm nM)))), (z2, .inl (G.2 2, 16, .inl (pj m1 (upto (gMo cs ts) mm nM)))), (z3, .inl (G.2 2, 16, .inl (pj m2 (upto (gMo cs ts) mm nM)))), (z4, .inl (G.2 2, 16, .inl (pj m3 (upto (gMo cs ts) mm nM)))), (z5, .inl (G.2 2, 16, .inl (pj m4 (upto (gMo cs ts) mm nM)))), (z6, .inl (G.2 3, 16, .inl (pj m5 (upto (gMo cs ts) mm nM)))), (z8, .inl (G.2 3, 20, .inl (pj q1 (upto (gMc (cyc + 1) cs) cc nC)))), (z9, .inl (G.2 3, 20, .inl (pj q2 (upto (gMc (cyc + 1) cs) cc nC)))), (z10, .inl (G.2 3, 20, .inl (pj q3 (upto (gMc (cyc + 1) cs) cc nC)))), (z11, .inl (G.2 3, 20, .inl (pj q4 (upto (gMc (cyc + 1) cs) cc nC)))), (z12, .inl (G.2 2, 20, .inl (pj q5 (upto (gMc (cyc + 1) cs) cc nC)))), (z13, .inl (G.2 2, 20, .inl (pj q6 (upto (gMc (cyc + 1) cs) cc nC)))), (z14, .inl (G.2 3, 20, .inl (pj q7 (upto (gMc (cyc + 1) cs) cc nC)))), (z15, .inl (G.2 2, 20, .inl (pj q8 (upto (gMc (cyc + 1) cs) cc nC)))), (z16, .inl (G.2 2, 20, .inl (pj q9 (upto (gMc (cyc + 1) cs) cc nC))))] := by first | (simp [mcV, mcN, mcL, mcX, mcM, mcD, mcS, mcB, foZ, c_14, c_26, c_53, c_136, c_176]; done) | (simp_all [mcV, mcN, mcL, mcX, mcM, mcD, mcS, mcB, foZ]; done)
              rw [← hw9] at hP hD
              have hq9 : (.int (mcV cs ts nM mm)) = (.int (mcntM mm cs nM) : Value) := by first | (simp [mcV, mcN, mcL, mcX, mcM, mcD, mcS, mcB, foZ, c_14, c_26, c_53, c_136, c_176]; done) | (simp_all [mcV, mcN, mcL, mcX, mcM, mcD, mcS, mcB, foZ]; done)
              exact W.iret (v := mcntM mm cs nM) hx hb hr (fun t ht hW => ⟨⟨by rw [hq9], by rw [ht]; exact hP, by rw [hAe]; exact hD⟩, by rw [hAe]; exact hS.F ht⟩) hS.2.2 d_MOD_cycle_215
            · exact absurd c_188 (by decide)
          · refine lv_iconst (v := 1) hx hb d_MOD_cycle_179 (by decide) ?_
            refine lv_goto (tgt := 184) hx hb d_MOD_cycle_180 (by decide) ?_
            refine lv_istore (lv' := [(4, .int 1), (0, .ref z0), (1, .int cs), (3, .int (mcntM mm cs nM))]) hx hb d_MOD_cycle_184 hl (by decide) rfl (fun ls hl => ?_)
            refine lv_iload hx hb d_MOD_cycle_186 (lv_at hl 0 rfl) ?_
            refine lv_if_eq (tgt := 208) hx hb d_MOD_cycle_188 (by decide) (fun c_188 => ?_) (fun c_188 => ?_)
            · exact absurd c_188 (by decide)
            · refine lv_aload_n hx hb d_MOD_cycle_191 rfl (lv_at hl 1 rfl) ?_
              refine va_get (D := G.1) (ci := 6) (v := .int li) (C := R_MOD) (T := T_MOD) (N := 25) hx hb hT in_MOD hown hK hP 0 rfl rfl 20 (by decide) (hT _ wd_602) (fun _ h9 => h9) rfl d_MOD_cycle_192 ?_
              refine lv_if_ne (tgt := 208) hx hb d_MOD_cycle_195 (by decide) (fun c_195 => ?_) (fun c_195 => ?_)
              · refine lv_aload_n hx hb d_MOD_cycle_208 rfl (lv_at hl 1 rfl) ?_
                refine lv_iload hx hb d_MOD_cycle_209 (lv_at hl 0 rfl) ?_
                refine va_put (D := G.1) (ci := 6) (v := .int 1) (ty := .boolean) (C := R_MOD) (T := T_MOD) (N := 25) hx hb hT in_MOD t_MOD tok_MOD nok_MOD hown hK hP hD hS 0 rfl rfl 20 (by decide) (hT _ wd_602) (fun _ h9 => h9) rfl (by decide +kernel) rfl rfl (Nat.le_of_ble_eq_true rfl) d_MOD_cycle_211 (fun H locs hP hD hS => ?_)
                have hP : va_P G.1 vwCl [(z0, .inr (6, [.int 0, .int (nI nM), .ref z1, .ref z2, .ref z3, .ref z4, .ref z5, .ref z6, .int (nI nC), .ref z7, .ref z8, .ref z9, .ref z10, .ref z11, .ref z12, .ref z13, .ref z14, .ref z15, .ref z16, .int (cyc + 1), .int 1, .long me, .long mi, .int (nI sn), .ref z17])), (z1, .inl (G.2 2, 16, .inl (pj m0 (upto (gMo cs ts) mm nM)))), (z2, .inl (G.2 2, 16, .inl (pj m1 (upto (gMo cs ts) mm nM)))), (z3, .inl (G.2 2, 16, .inl (pj m2 (upto (gMo cs ts) mm nM)))), (z4, .inl (G.2 2, 16, .inl (pj m3 (upto (gMo cs ts) mm nM)))), (z5, .inl (G.2 2, 16, .inl (pj m4 (upto (gMo cs ts) mm nM)))), (z6, .inl (G.2 3, 16, .inl (pj m5 (upto (gMo cs ts) mm nM)))), (z8, .inl (G.2 3, 20, .inl (pj q1 (upto (gMc (cyc + 1) cs) cc nC)))), (z9, .inl (G.2 3, 20, .inl (pj q2 (upto (gMc (cyc + 1) cs) cc nC)))), (z10, .inl (G.2 3, 20, .inl (pj q3 (upto (gMc (cyc + 1) cs) cc nC)))), (z11, .inl (G.2 3, 20, .inl (pj q4 (upto (gMc (cyc + 1) cs) cc nC)))), (z12, .inl (G.2 2, 20, .inl (pj q5 (upto (gMc (cyc + 1) cs) cc nC)))), (z13, .inl (G.2 2, 20, .inl (pj q6 (upto (gMc (cyc + 1) cs) cc nC)))), (z14, .inl (G.2 3, 20, .inl (pj q7 (upto (gMc (cyc + 1) cs) cc nC)))), (z15, .inl (G.2 2, 20, .inl (pj q8 (upto (gMc (cyc + 1) cs) cc nC)))), (z16, .inl (G.2 2, 20, .inl (pj q9 (upto (gMc (cyc + 1) cs) cc nC))))] H := hP
                have hD : va_D A [(z0, .inr (6, [.int 0, .int (nI nM), .ref z1, .ref z2, .ref z3, .ref z4, .ref z5, .ref z6, .int (nI nC), .ref z7, .ref z8, .ref z9, .ref z10, .ref z11, .ref z12, .ref z13, .ref z14, .ref z15, .ref z16, .int (cyc + 1), .int 1, .long me, .long mi, .int (nI sn), .ref z17])), (z1, .inl (G.2 2, 16, .inl (pj m0 (upto (gMo cs ts) mm nM)))), (z2, .inl (G.2 2, 16, .inl (pj m1 (upto (gMo cs ts) mm nM)))), (z3, .inl (G.2 2, 16, .inl (pj m2 (upto (gMo cs ts) mm nM)))), (z4, .inl (G.2 2, 16, .inl (pj m3 (upto (gMo cs ts) mm nM)))), (z5, .inl (G.2 2, 16, .inl (pj m4 (upto (gMo cs ts) mm nM)))), (z6, .inl (G.2 3, 16, .inl (pj m5 (upto (gMo cs ts) mm nM)))), (z8, .inl (G.2 3, 20, .inl (pj q1 (upto (gMc (cyc + 1) cs) cc nC)))), (z9, .inl (G.2 3, 20, .inl (pj q2 (upto (gMc (cyc + 1) cs) cc nC)))), (z10, .inl (G.2 3, 20, .inl (pj q3 (upto (gMc (cyc + 1) cs) cc nC)))), (z11, .inl (G.2 3, 20, .inl (pj q4 (upto (gMc (cyc + 1) cs) cc nC)))), (z12, .inl (G.2 2, 20, .inl (pj q5 (upto (gMc (cyc + 1) cs) cc nC)))), (z13, .inl (G.2 2, 20, .inl (pj q6 (upto (gMc (cyc + 1) cs) cc nC)))), (z14, .inl (G.2 3, 20, .inl (pj q7 (upto (gMc (cyc + 1) cs) cc nC)))), (z15, .inl (G.2 2, 20, .inl (pj q8 (upto (gMc (cyc + 1) cs) cc nC)))), (z16, .inl (G.2 2, 20, .inl (pj q9 (upto (gMc (cyc + 1) cs) cc nC))))] := hD
                refine lv_iload_n hx hb d_MOD_cycle_214 rfl (lv_at hl 3 rfl) ?_
                have hw9 : ([(z0, .inr (6, [.int 0, .int (nI nM), .ref z1, .ref z2, .ref z3, .ref z4, .ref z5, .ref z6, .int (nI nC), .ref z7, .ref z8, .ref z9, .ref z10, .ref z11, .ref z12, .ref z13, .ref z14, .ref z15, .ref z16, .int (mcN cs ts cyc), .int (mcL cs ts cyc nC cc li), .long (mcX cs ts cyc nC cc li me), .long (mcX cs ts cyc nC cc li mi), .int (nI sn), .ref z17])), (z1, .inl (G.2 2, 16, .inl (pj m0 (mcM cs ts nM mm)))), (z2, .inl (G.2 2, 16, .inl (pj m1 (mcM cs ts nM mm)))), (z3, .inl (G.2 2, 16, .inl (pj m2 (mcM cs ts nM mm)))), (z4, .inl (G.2 2, 16, .inl (pj m3 (mcM cs ts nM mm)))), (z5, .inl (G.2 2, 16, .inl (pj m4 (mcM cs ts nM mm)))), (z6, .inl (G.2 3, 16, .inl (pj m5 (mcM cs ts nM mm)))), (z8, .inl (G.2 3, 20, .inl (pj q1 (mcD cs ts cyc nC cc)))), (z9, .inl (G.2 3, 20, .inl (pj q2 (mcD cs ts cyc nC cc)))), (z10, .inl (G.2 3, 20, .inl (pj q3 (mcD cs ts cyc nC cc)))), (z11, .inl (G.2 3, 20, .inl (pj q4 (mcD cs ts cyc nC cc)))), (z12, .inl (G.2 2, 20, .inl (pj q5 (mcD cs ts cyc nC cc)))), (z13, .inl (G.2 2, 20, .inl (pj q6 (mcD cs ts cyc nC cc)))), (z14, .inl (G.2 3, 20, .inl (pj q7 (mcD cs ts cyc nC cc)))), (z15, .inl (G.2 2, 20, .inl (pj q8 (mcD cs ts cyc nC cc)))), (z16, .inl (G.2 2, 20, .inl (pj q9 (mcD cs ts cyc nC cc))))] : va_W) = [(z0, .inr (6, [.int 0, .int (nI nM), .ref z1, .ref z2, .ref z3, .ref z4, .ref z5, .ref z6, .int (nI nC), .ref z7, .ref z8, .ref z9, .ref z10, .ref z11, .ref z12, .ref z13, .ref z14, .ref z15, .ref z16, .int (cyc + 1), .int 1, .long me, .long mi, .int (nI sn), .ref z17])), (z1, .inl (G.2 2, 16, .inl (pj m0 (upto (gMo cs ts) mm nM)))), (z2, .inl (G.2 2, 16, .inl (pj m1 (upto (gMo cs ts) mm nM)))), (z3, .inl (G.2 2, 16, .inl (pj m2 (upto (gMo cs ts) mm nM)))), (z4, .inl (G.2 2, 16, .inl (pj m3 (upto (gMo cs ts) mm nM)))), (z5, .inl (G.2 2, 16, .inl (pj m4 (upto (gMo cs ts) mm nM)))), (z6, .inl (G.2 3, 16, .inl (pj m5 (upto (gMo cs ts) mm nM)))), (z8, .inl (G.2 3, 20, .inl (pj q1 (upto (gMc (cyc + 1) cs) cc nC)))), (z9, .inl (G.2 3, 20, .inl (pj q2 (upto (gMc (cyc + 1) cs) cc nC)))), (z10, .inl (G.2 3, 20, .inl (pj q3 (upto (gMc (cyc + 1) cs) cc nC)))), (z11, .inl (G.2 3, 20, .inl (pj q4 (upto (gMc (cyc + 1) cs) cc nC)))), (z12, .inl (G.2 2, 20, .inl (pj q5 (upto (gMc (cyc + 1) cs) cc nC)))), (z13, .inl (G.2 2, 20, .inl (pj q6 (upto (gMc (cyc + 1) cs) cc nC)))), (z14, .inl (G.2 3, 20, .inl (pj q7 (upto (gMc (cyc + 1) cs) cc nC)))), (z15, .inl (G.2 2, 20, .inl (pj q8 (upto (gMc (cyc + 1) cs) cc nC)))), (z16, .inl (G.2 2, 20, .inl (pj q9 (upto (gMc (cyc + 1) cs) cc nC))))] := by first | (simp [mcV, mcN, mcL, mcX, mcM, mcD, mcS, mcB, foZ, c_14, c_26, c_53, c_136, c_176, c_195]; done) | (simp_all [mcV, mcN, mcL, mcX, mcM, mcD, mcS, mcB, foZ]; done)
                rw [← hw9] at hP hD
                have hq9 : (.int (mcV cs ts nM mm)) = (.int (mcntM mm cs nM) : Value) := by first | (simp [mcV, mcN, mcL, mcX, mcM, mcD, mcS, mcB, foZ, c_14, c_26, c_53, c_136, c_176, c_195]; done) | (simp_all [mcV, mcN, mcL, mcX, mcM, mcD, mcS, mcB, foZ]; done)
                exact W.iret (v := mcntM mm cs nM) hx hb hr (fun t ht hW => ⟨⟨by rw [hq9], by rw [ht]; exact hP, by rw [hAe]; exact hD⟩, by rw [hAe]; exact hS.F ht⟩) hS.2.2 d_MOD_cycle_215
              · refine lv_aload_n hx hb d_MOD_cycle_198 rfl (lv_at hl 1 rfl) ?_
                refine lv_lconst (v := 0) hx hb d_MOD_cycle_199 (by decide) ?_
                refine va_put (D := G.1) (ci := 6) (v := .long 0) (ty := .long) (C := R_MOD) (T := T_MOD) (N := 25) hx hb hT in_MOD t_MOD tok_MOD nok_MOD hown hK hP hD hS 0 rfl rfl 21 (by decide) (hT _ wd_603) (fun _ h9 => h9) rfl (by decide +kernel) rfl rfl (Nat.le_of_ble_eq_true rfl) d_MOD_cycle_200 (fun H locs hP hD hS => ?_)
                have hP : va_P G.1 vwCl [(z0, .inr (6, [.int 0, .int (nI nM), .ref z1, .ref z2, .ref z3, .ref z4, .ref z5, .ref z6, .int (nI nC), .ref z7, .ref z8, .ref z9, .ref z10, .ref z11, .ref z12, .ref z13, .ref z14, .ref z15, .ref z16, .int (cyc + 1), .int li, .long 0, .long mi, .int (nI sn), .ref z17])), (z1, .inl (G.2 2, 16, .inl (pj m0 (upto (gMo cs ts) mm nM)))), (z2, .inl (G.2 2, 16, .inl (pj m1 (upto (gMo cs ts) mm nM)))), (z3, .inl (G.2 2, 16, .inl (pj m2 (upto (gMo cs ts) mm nM)))), (z4, .inl (G.2 2, 16, .inl (pj m3 (upto (gMo cs ts) mm nM)))), (z5, .inl (G.2 2, 16, .inl (pj m4 (upto (gMo cs ts) mm nM)))), (z6, .inl (G.2 3, 16, .inl (pj m5 (upto (gMo cs ts) mm nM)))), (z8, .inl (G.2 3, 20, .inl (pj q1 (upto (gMc (cyc + 1) cs) cc nC)))), (z9, .inl (G.2 3, 20, .inl (pj q2 (upto (gMc (cyc + 1) cs) cc nC)))), (z10, .inl (G.2 3, 20, .inl (pj q3 (upto (gMc (cyc + 1) cs) cc nC)))), (z11, .inl (G.2 3, 20, .inl (pj q4 (upto (gMc (cyc + 1) cs) cc nC)))), (z12, .inl (G.2 2, 20, .inl (pj q5 (upto (gMc (cyc + 1) cs) cc nC)))), (z13, .inl (G.2 2, 20, .inl (pj q6 (upto (gMc (cyc + 1) cs) cc nC)))), (z14, .inl (G.2 3, 20, .inl (pj q7 (upto (gMc (cyc + 1) cs) cc nC)))), (z15, .inl (G.2 2, 20, .inl (pj q8 (upto (gMc (cyc + 1) cs) cc nC)))), (z16, .inl (G.2 2, 20, .inl (pj q9 (upto (gMc (cyc + 1) cs) cc nC))))] H := hP
                have hD : va_D A [(z0, .inr (6, [.int 0, .int (nI nM), .ref z1, .ref z2, .ref z3, .ref z4, .ref z5, .ref z6, .int (nI nC), .ref z7, .ref z8, .ref z9, .ref z10, .ref z11, .ref z12, .ref z13, .ref z14, .ref z15, .ref z16, .int (cyc + 1), .int li, .long 0, .long mi, .int (nI sn), .ref z17])), (z1, .inl (G.2 2, 16, .inl (pj m0 (upto (gMo cs ts) mm nM)))), (z2, .inl (G.2 2, 16, .inl (pj m1 (upto (gMo cs ts) mm nM)))), (z3, .inl (G.2 2, 16, .inl (pj m2 (upto (gMo cs ts) mm nM)))), (z4, .inl (G.2 2, 16, .inl (pj m3 (upto (gMo cs ts) mm nM)))), (z5, .inl (G.2 2, 16, .inl (pj m4 (upto (gMo cs ts) mm nM)))), (z6, .inl (G.2 3, 16, .inl (pj m5 (upto (gMo cs ts) mm nM)))), (z8, .inl (G.2 3, 20, .inl (pj q1 (upto (gMc (cyc + 1) cs) cc nC)))), (z9, .inl (G.2 3, 20, .inl (pj q2 (upto (gMc (cyc + 1) cs) cc nC)))), (z10, .inl (G.2 3, 20, .inl (pj q3 (upto (gMc (cyc + 1) cs) cc nC)))), (z11, .inl (G.2 3, 20, .inl (pj q4 (upto (gMc (cyc + 1) cs) cc nC)))), (z12, .inl (G.2 2, 20, .inl (pj q5 (upto (gMc (cyc + 1) cs) cc nC)))), (z13, .inl (G.2 2, 20, .inl (pj q6 (upto (gMc (cyc + 1) cs) cc nC)))), (z14, .inl (G.2 3, 20, .inl (pj q7 (upto (gMc (cyc + 1) cs) cc nC)))), (z15, .inl (G.2 2, 20, .inl (pj q8 (upto (gMc (cyc + 1) cs) cc nC)))), (z16, .inl (G.2 2, 20, .inl (pj q9 (upto (gMc (cyc + 1) cs) cc nC))))] := hD
                refine lv_aload_n hx hb d_MOD_cycle_203 rfl (lv_at hl 1 rfl) ?_
                refine lv_lconst (v := 0) hx hb d_MOD_cycle_204 (by decide) ?_
                refine va_put (D := G.1) (ci := 6) (v := .long 0) (ty := .long) (C := R_MOD) (T := T_MOD) (N := 25) hx hb hT in_MOD t_MOD tok_MOD nok_MOD hown hK hP hD hS 0 rfl rfl 22 (by decide) (hT _ wd_604) (fun _ h9 => h9) rfl (by decide +kernel) rfl rfl (Nat.le_of_ble_eq_true rfl) d_MOD_cycle_205 (fun H locs hP hD hS => ?_)
                have hP : va_P G.1 vwCl [(z0, .inr (6, [.int 0, .int (nI nM), .ref z1, .ref z2, .ref z3, .ref z4, .ref z5, .ref z6, .int (nI nC), .ref z7, .ref z8, .ref z9, .ref z10, .ref z11, .ref z12, .ref z13, .ref z14, .ref z15, .ref z16, .int (cyc + 1), .int li, .long 0, .long 0, .int (nI sn), .ref z17])), (z1, .inl (G.2 2, 16, .inl (pj m0 (upto (gMo cs ts) mm nM)))), (z2, .inl (G.2 2, 16, .inl (pj m1 (upto (gMo cs ts) mm nM)))), (z3, .inl (G.2 2, 16, .inl (pj m2 (upto (gMo cs ts) mm nM)))), (z4, .inl (G.2 2, 16, .inl (pj m3 (upto (gMo cs ts) mm nM)))), (z5, .inl (G.2 2, 16, .inl (pj m4 (upto (gMo cs ts) mm nM)))), (z6, .inl (G.2 3, 16, .inl (pj m5 (upto (gMo cs ts) mm nM)))), (z8, .inl (G.2 3, 20, .inl (pj q1 (upto (gMc (cyc + 1) cs) cc nC)))), (z9, .inl (G.2 3, 20, .inl (pj q2 (upto (gMc (cyc + 1) cs) cc nC)))), (z10, .inl (G.2 3, 20, .inl (pj q3 (upto (gMc (cyc + 1) cs) cc nC)))), (z11, .inl (G.2 3, 20, .inl (pj q4 (upto (gMc (cyc + 1) cs) cc nC)))), (z12, .inl (G.2 2, 20, .inl (pj q5 (upto (gMc (cyc + 1) cs) cc nC)))), (z13, .inl (G.2 2, 20, .inl (pj q6 (upto (gMc (cyc + 1) cs) cc nC)))), (z14, .inl (G.2 3, 20, .inl (pj q7 (upto (gMc (cyc + 1) cs) cc nC)))), (z15, .inl (G.2 2, 20, .inl (pj q8 (upto (gMc (cyc + 1) cs) cc nC)))), (z16, .inl (G.2 2, 20, .inl (pj q9 (upto (gMc (cyc + 1) cs) cc nC))))] H := hP
                have hD : va_D A [(z0, .inr (6, [.int 0, .int (nI nM), .ref z1, .ref z2, .ref z3, .ref z4, .ref z5, .ref z6, .int (nI nC), .ref z7, .ref z8, .ref z9, .ref z10, .ref z11, .ref z12, .ref z13, .ref z14, .ref z15, .ref z16, .int (cyc + 1), .int li, .long 0, .long 0, .int (nI sn), .ref z17])), (z1, .inl (G.2 2, 16, .inl (pj m0 (upto (gMo cs ts) mm nM)))), (z2, .inl (G.2 2, 16, .inl (pj m1 (upto (gMo cs ts) mm nM)))), (z3, .inl (G.2 2, 16, .inl (pj m2 (upto (gMo cs ts) mm nM)))), (z4, .inl (G.2 2, 16, .inl (pj m3 (upto (gMo cs ts) mm nM)))), (z5, .inl (G.2 2, 16, .inl (pj m4 (upto (gMo cs ts) mm nM)))), (z6, .inl (G.2 3, 16, .inl (pj m5 (upto (gMo cs ts) mm nM)))), (z8, .inl (G.2 3, 20, .inl (pj q1 (upto (gMc (cyc + 1) cs) cc nC)))), (z9, .inl (G.2 3, 20, .inl (pj q2 (upto (gMc (cyc + 1) cs) cc nC)))), (z10, .inl (G.2 3, 20, .inl (pj q3 (upto (gMc (cyc + 1) cs) cc nC)))), (z11, .inl (G.2 3, 20, .inl (pj q4 (upto (gMc (cyc + 1) cs) cc nC)))), (z12, .inl (G.2 2, 20, .inl (pj q5 (upto (gMc (cyc + 1) cs) cc nC)))), (z13, .inl (G.2 2, 20, .inl (pj q6 (upto (gMc (cyc + 1) cs) cc nC)))), (z14, .inl (G.2 3, 20, .inl (pj q7 (upto (gMc (cyc + 1) cs) cc nC)))), (z15, .inl (G.2 2, 20, .inl (pj q8 (upto (gMc (cyc + 1) cs) cc nC)))), (z16, .inl (G.2 2, 20, .inl (pj q9 (upto (gMc (cyc + 1) cs) cc nC))))] := hD
                refine lv_aload_n hx hb d_MOD_cycle_208 rfl (lv_at hl 1 rfl) ?_
                refine lv_iload hx hb d_MOD_cycle_209 (lv_at hl 0 rfl) ?_
                refine va_put (D := G.1) (ci := 6) (v := .int 1) (ty := .boolean) (C := R_MOD) (T := T_MOD) (N := 25) hx hb hT in_MOD t_MOD tok_MOD nok_MOD hown hK hP hD hS 0 rfl rfl 20 (by decide) (hT _ wd_602) (fun _ h9 => h9) rfl (by decide +kernel) rfl rfl (Nat.le_of_ble_eq_true rfl) d_MOD_cycle_211 (fun H locs hP hD hS => ?_)
                have hP : va_P G.1 vwCl [(z0, .inr (6, [.int 0, .int (nI nM), .ref z1, .ref z2, .ref z3, .ref z4, .ref z5, .ref z6, .int (nI nC), .ref z7, .ref z8, .ref z9, .ref z10, .ref z11, .ref z12, .ref z13, .ref z14, .ref z15, .ref z16, .int (cyc + 1), .int 1, .long 0, .long 0, .int (nI sn), .ref z17])), (z1, .inl (G.2 2, 16, .inl (pj m0 (upto (gMo cs ts) mm nM)))), (z2, .inl (G.2 2, 16, .inl (pj m1 (upto (gMo cs ts) mm nM)))), (z3, .inl (G.2 2, 16, .inl (pj m2 (upto (gMo cs ts) mm nM)))), (z4, .inl (G.2 2, 16, .inl (pj m3 (upto (gMo cs ts) mm nM)))), (z5, .inl (G.2 2, 16, .inl (pj m4 (upto (gMo cs ts) mm nM)))), (z6, .inl (G.2 3, 16, .inl (pj m5 (upto (gMo cs ts) mm nM)))), (z8, .inl (G.2 3, 20, .inl (pj q1 (upto (gMc (cyc + 1) cs) cc nC)))), (z9, .inl (G.2 3, 20, .inl (pj q2 (upto (gMc (cyc + 1) cs) cc nC)))), (z10, .inl (G.2 3, 20, .inl (pj q3 (upto (gMc (cyc + 1) cs) cc nC)))), (z11, .inl (G.2 3, 20, .inl (pj q4 (upto (gMc (cyc + 1) cs) cc nC)))), (z12, .inl (G.2 2, 20, .inl (pj q5 (upto (gMc (cyc + 1) cs) cc nC)))), (z13, .inl (G.2 2, 20, .inl (pj q6 (upto (gMc (cyc + 1) cs) cc nC)))), (z14, .inl (G.2 3, 20, .inl (pj q7 (upto (gMc (cyc + 1) cs) cc nC)))), (z15, .inl (G.2 2, 20, .inl (pj q8 (upto (gMc (cyc + 1) cs) cc nC)))), (z16, .inl (G.2 2, 20, .inl (pj q9 (upto (gMc (cyc + 1) cs) cc nC))))] H := hP
                have hD : va_D A [(z0, .inr (6, [.int 0, .int (nI nM), .ref z1, .ref z2, .ref z3, .ref z4, .ref z5, .ref z6, .int (nI nC), .ref z7, .ref z8, .ref z9, .ref z10, .ref z11, .ref z12, .ref z13, .ref z14, .ref z15, .ref z16, .int (cyc + 1), .int 1, .long 0, .long 0, .int (nI sn), .ref z17])), (z1, .inl (G.2 2, 16, .inl (pj m0 (upto (gMo cs ts) mm nM)))), (z2, .inl (G.2 2, 16, .inl (pj m1 (upto (gMo cs ts) mm nM)))), (z3, .inl (G.2 2, 16, .inl (pj m2 (upto (gMo cs ts) mm nM)))), (z4, .inl (G.2 2, 16, .inl (pj m3 (upto (gMo cs ts) mm nM)))), (z5, .inl (G.2 2, 16, .inl (pj m4 (upto (gMo cs ts) mm nM)))), (z6, .inl (G.2 3, 16, .inl (pj m5 (upto (gMo cs ts) mm nM)))), (z8, .inl (G.2 3, 20, .inl (pj q1 (upto (gMc (cyc + 1) cs) cc nC)))), (z9, .inl (G.2 3, 20, .inl (pj q2 (upto (gMc (cyc + 1) cs) cc nC)))), (z10, .inl (G.2 3, 20, .inl (pj q3 (upto (gMc (cyc + 1) cs) cc nC)))), (z11, .inl (G.2 3, 20, .inl (pj q4 (upto (gMc (cyc + 1) cs) cc nC)))), (z12, .inl (G.2 2, 20, .inl (pj q5 (upto (gMc (cyc + 1) cs) cc nC)))), (z13, .inl (G.2 2, 20, .inl (pj q6 (upto (gMc (cyc + 1) cs) cc nC)))), (z14, .inl (G.2 3, 20, .inl (pj q7 (upto (gMc (cyc + 1) cs) cc nC)))), (z15, .inl (G.2 2, 20, .inl (pj q8 (upto (gMc (cyc + 1) cs) cc nC)))), (z16, .inl (G.2 2, 20, .inl (pj q9 (upto (gMc (cyc + 1) cs) cc nC))))] := hD
                refine lv_iload_n hx hb d_MOD_cycle_214 rfl (lv_at hl 3 rfl) ?_
                have hw9 : ([(z0, .inr (6, [.int 0, .int (nI nM), .ref z1, .ref z2, .ref z3, .ref z4, .ref z5, .ref z6, .int (nI nC), .ref z7, .ref z8, .ref z9, .ref z10, .ref z11, .ref z12, .ref z13, .ref z14, .ref z15, .ref z16, .int (mcN cs ts cyc), .int (mcL cs ts cyc nC cc li), .long (mcX cs ts cyc nC cc li me), .long (mcX cs ts cyc nC cc li mi), .int (nI sn), .ref z17])), (z1, .inl (G.2 2, 16, .inl (pj m0 (mcM cs ts nM mm)))), (z2, .inl (G.2 2, 16, .inl (pj m1 (mcM cs ts nM mm)))), (z3, .inl (G.2 2, 16, .inl (pj m2 (mcM cs ts nM mm)))), (z4, .inl (G.2 2, 16, .inl (pj m3 (mcM cs ts nM mm)))), (z5, .inl (G.2 2, 16, .inl (pj m4 (mcM cs ts nM mm)))), (z6, .inl (G.2 3, 16, .inl (pj m5 (mcM cs ts nM mm)))), (z8, .inl (G.2 3, 20, .inl (pj q1 (mcD cs ts cyc nC cc)))), (z9, .inl (G.2 3, 20, .inl (pj q2 (mcD cs ts cyc nC cc)))), (z10, .inl (G.2 3, 20, .inl (pj q3 (mcD cs ts cyc nC cc)))), (z11, .inl (G.2 3, 20, .inl (pj q4 (mcD cs ts cyc nC cc)))), (z12, .inl (G.2 2, 20, .inl (pj q5 (mcD cs ts cyc nC cc)))), (z13, .inl (G.2 2, 20, .inl (pj q6 (mcD cs ts cyc nC cc)))), (z14, .inl (G.2 3, 20, .inl (pj q7 (mcD cs ts cyc nC cc)))), (z15, .inl (G.2 2, 20, .inl (pj q8 (mcD cs ts cyc nC cc)))), (z16, .inl (G.2 2, 20, .inl (pj q9 (mcD cs ts cyc nC cc))))] : va_W) = [(z0, .inr (6, [.int 0, .int (nI nM), .ref z1, .ref z2, .ref z3, .ref z4, .ref z5, .ref z6, .int (nI nC), .ref z7, .ref z8, .ref z9, .ref z10, .ref z11, .ref z12, .ref z13, .ref z14, .ref z15, .ref z16, .int (cyc + 1), .int 1, .long 0, .long 0, .int (nI sn), .ref z17])), (z1, .inl (G.2 2, 16, .inl (pj m0 (upto (gMo cs ts) mm nM)))), (z2, .inl (G.2 2, 16, .inl (pj m1 (upto (gMo cs ts) mm nM)))), (z3, .inl (G.2 2, 16, .inl (pj m2 (upto (gMo cs ts) mm nM)))), (z4, .inl (G.2 2, 16, .inl (pj m3 (upto (gMo cs ts) mm nM)))), (z5, .inl (G.2 2, 16, .inl (pj m4 (upto (gMo cs ts) mm nM)))), (z6, .inl (G.2 3, 16, .inl (pj m5 (upto (gMo cs ts) mm nM)))), (z8, .inl (G.2 3, 20, .inl (pj q1 (upto (gMc (cyc + 1) cs) cc nC)))), (z9, .inl (G.2 3, 20, .inl (pj q2 (upto (gMc (cyc + 1) cs) cc nC)))), (z10, .inl (G.2 3, 20, .inl (pj q3 (upto (gMc (cyc + 1) cs) cc nC)))), (z11, .inl (G.2 3, 20, .inl (pj q4 (upto (gMc (cyc + 1) cs) cc nC)))), (z12, .inl (G.2 2, 20, .inl (pj q5 (upto (gMc (cyc + 1) cs) cc nC)))), (z13, .inl (G.2 2, 20, .inl (pj q6 (upto (gMc (cyc + 1) cs) cc nC)))), (z14, .inl (G.2 3, 20, .inl (pj q7 (upto (gMc (cyc + 1) cs) cc nC)))), (z15, .inl (G.2 2, 20, .inl (pj q8 (upto (gMc (cyc + 1) cs) cc nC)))), (z16, .inl (G.2 2, 20, .inl (pj q9 (upto (gMc (cyc + 1) cs) cc nC))))] := by first | (simp [mcV, mcN, mcL, mcX, mcM, mcD, mcS, mcB, foZ, c_14, c_26, c_53, c_136, c_176, c_195]; done) | (simp_all [mcV, mcN, mcL, mcX, mcM, mcD, mcS, mcB, foZ]; done)
                rw [← hw9] at hP hD
                have hq9 : (.int (mcV cs ts nM mm)) = (.int (mcntM mm cs nM) : Value) := by first | (simp [mcV, mcN, mcL, mcX, mcM, mcD, mcS, mcB, foZ, c_14, c_26, c_53, c_136, c_176, c_195]; done) | (simp_all [mcV, mcN, mcL, mcX, mcM, mcD, mcS, mcB, foZ]; done)
                exact W.iret (v := mcntM mm cs nM) hx hb hr (fun t ht hW => ⟨⟨by rw [hq9], by rw [ht]; exact hP, by rw [hAe]; exact hD⟩, by rw [hAe]; exact hS.F ht⟩) hS.2.2 d_MOD_cycle_215
        · have hk2 : k2 < nC := Nat.not_le.mp (fun z => c_136 (nI_le z (by omega)))
          refine lv_aload_n hx hb d_MOD_cycle_139 rfl (lv_at hl 0 rfl) ?_
          refine va_get (D := G.1) (ci := 6) (v := .ref z8) (C := R_MOD) (T := T_MOD) (N := 25) hx hb hT in_MOD hown hK hP 0 rfl rfl 10 (by decide) (hT _ wd_592) (fun _ h9 => h9) rfl d_MOD_cycle_140 ?_
          refine lv_iload hx hb d_MOD_cycle_143 (lv_at hl 3 rfl) ?_
          refine va_zald hx hb hK hP 7 3 rfl rfl (vp_in_nI (by omega) (by omega)) d_MOD_cycle_145 ?_
          refine W.eq (g2 := F0 m 146 ls (.int (q1 (cc k2)) :: [])) (by rw [nI_clamp (by omega), pj_k, upto_self]) ?_
          refine lv_if_eq (tgt := 159) hx hb d_MOD_cycle_146 (by decide) (fun c_146 => ?_) (fun c_146 => ?_)
          · refine lv_aload_n hx hb d_MOD_cycle_159 rfl (lv_at hl 0 rfl) ?_
            refine lv_iload hx hb d_MOD_cycle_160 (lv_at hl 3 rfl) ?_
            refine lv_iload_n hx hb d_MOD_cycle_162 rfl (lv_at hl 1 rfl) ?_
            have hPc := hP.sub (ws' := [(z0, .inr (6, [.int 0, .int (nI nM), .ref z1, .ref z2, .ref z3, .ref z4, .ref z5, .ref z6, .int (nI nC), .ref z7, .ref z8, .ref z9, .ref z10, .ref z11, .ref z12, .ref z13, .ref z14, .ref z15, .ref z16, .int (cyc + 1), .int li, .long me, .long mi, .int (nI sn), .ref z17])), (z9, .inl (G.2 3, 20, .inl (pj q2 (upto (gMc (cyc + 1) cs) cc k2)))), (z10, .inl (G.2 3, 20, .inl (pj q3 (upto (gMc (cyc + 1) cs) cc k2)))), (z11, .inl (G.2 3, 20, .inl (pj q4 (upto (gMc (cyc + 1) cs) cc k2)))), (z12, .inl (G.2 2, 20, .inl (pj q5 (upto (gMc (cyc + 1) cs) cc k2)))), (z13, .inl (G.2 2, 20, .inl (pj q6 (upto (gMc (cyc + 1) cs) cc k2)))), (z14, .inl (G.2 3, 20, .inl (pj q7 (upto (gMc (cyc + 1) cs) cc k2))))]) [0, 8, 9, 10, 11, 12, 13] rfl
            have hDc := hD.sub (ws' := [(z0, .inr (6, [.int 0, .int (nI nM), .ref z1, .ref z2, .ref z3, .ref z4, .ref z5, .ref z6, .int (nI nC), .ref z7, .ref z8, .ref z9, .ref z10, .ref z11, .ref z12, .ref z13, .ref z14, .ref z15, .ref z16, .int (cyc + 1), .int li, .long me, .long mi, .int (nI sn), .ref z17])), (z9, .inl (G.2 3, 20, .inl (pj q2 (upto (gMc (cyc + 1) cs) cc k2)))), (z10, .inl (G.2 3, 20, .inl (pj q3 (upto (gMc (cyc + 1) cs) cc k2)))), (z11, .inl (G.2 3, 20, .inl (pj q4 (upto (gMc (cyc + 1) cs) cc k2)))), (z12, .inl (G.2 2, 20, .inl (pj q5 (upto (gMc (cyc + 1) cs) cc k2)))), (z13, .inl (G.2 2, 20, .inl (pj q6 (upto (gMc (cyc + 1) cs) cc k2)))), (z14, .inl (G.2 3, 20, .inl (pj q7 (upto (gMc (cyc + 1) cs) cc k2))))]) [0, 8, 9, 10, 11, 12, 13] (by decide) rfl
            refine bx_callKv [0, 8, 9, 10, 11, 12, 13] (va_runV (As := [.int (nI k2), .int cs]) (rest := []) ⟨hx, hb, hml, hown, hts⟩ (c_mendOff l G H.size z0 z1 z2 z3 z4 z5 z6 z7 z8 z9 z10 z11 z12 z13 z14 z15 z16 z17 0 (cyc + 1) li nM nC sn me mi (pj q2 (upto (gMc (cyc + 1) cs) cc k2)) (pj q3 (upto (gMc (cyc + 1) cs) cc k2)) (pj q4 (upto (gMc (cyc + 1) cs) cc k2)) (pj q5 (upto (gMc (cyc + 1) cs) cc k2)) (pj q6 (upto (gMc (cyc + 1) cs) cc k2)) (pj q7 (upto (gMc (cyc + 1) cs) cc k2)) k2 cs (by omega)) ⟨(callB_of 2 hts (gi_all wd_697) rfl rfl rfl (hT _ wd_51) (hT _ wd_694) (by decide +kernel) ⟨Nat.le_of_ble_eq_true rfl, Nat.le_of_ble_eq_true rfl⟩), (hT _ wd_696), (hT _ wd_36)⟩ (pvW hPc hGK hDc (va_recv hK hPc (ci := 6) (q0 := 0) rfl rfl)) rfl rfl hl.1 rfl (lv_room (Nat.le_of_ble_eq_true rfl)) d_MOD_cycle_163 ⟨Nat.le_of_ble_eq_true rfl, Nat.le_of_ble_eq_true rfl⟩) hP hD hS hA rfl rfl rfl (fun H locs hP hD hS => ?_)
            have hP : va_P G.1 vwCl [(z0, .inr (6, [.int 0, .int (nI nM), .ref z1, .ref z2, .ref z3, .ref z4, .ref z5, .ref z6, .int (nI nC), .ref z7, .ref z8, .ref z9, .ref z10, .ref z11, .ref z12, .ref z13, .ref z14, .ref z15, .ref z16, .int (cyc + 1), .int li, .long me, .long mi, .int (nI sn), .ref z17])), (z1, .inl (G.2 2, 16, .inl (pj m0 (upto (gMo cs ts) mm nM)))), (z2, .inl (G.2 2, 16, .inl (pj m1 (upto (gMo cs ts) mm nM)))), (z3, .inl (G.2 2, 16, .inl (pj m2 (upto (gMo cs ts) mm nM)))), (z4, .inl (G.2 2, 16, .inl (pj m3 (upto (gMo cs ts) mm nM)))), (z5, .inl (G.2 2, 16, .inl (pj m4 (upto (gMo cs ts) mm nM)))), (z6, .inl (G.2 3, 16, .inl (pj m5 (upto (gMo cs ts) mm nM)))), (z8, .inl (G.2 3, 20, .inl (pj q1 (upto (gMc (cyc + 1) cs) cc k2)))), (z9, .inl (G.2 3, 20, .inl (upd (pj q2 (upto (gMc (cyc + 1) cs) cc k2)) k2 (mfP ((pj q2 (upto (gMc (cyc + 1) cs) cc k2)) k2))))), (z10, .inl (G.2 3, 20, .inl (upd (pj q3 (upto (gMc (cyc + 1) cs) cc k2)) k2 (mfQ ((pj q3 (upto (gMc (cyc + 1) cs) cc k2)) k2) ((pj q5 (upto (gMc (cyc + 1) cs) cc k2)) k2))))), (z11, .inl (G.2 3, 20, .inl (upd (pj q4 (upto (gMc (cyc + 1) cs) cc k2)) k2 (mfL ((pj q4 (upto (gMc (cyc + 1) cs) cc k2)) k2) ((pj q6 (upto (gMc (cyc + 1) cs) cc k2)) k2) cs)))), (z12, .inl (G.2 2, 20, .inl (upd (pj q5 (upto (gMc (cyc + 1) cs) cc k2)) k2 ((pj q5 (upto (gMc (cyc + 1) cs) cc k2)) k2 + 1)))), (z13, .inl (G.2 2, 20, .inl (upd (pj q6 (upto (gMc (cyc + 1) cs) cc k2)) k2 (mfZ ((pj q6 (upto (gMc (cyc + 1) cs) cc k2)) k2) cs)))), (z14, .inl (G.2 3, 20, .inl (upd (pj q7 (upto (gMc (cyc + 1) cs) cc k2)) k2 (mfW ((pj q2 (upto (gMc (cyc + 1) cs) cc k2)) k2) ((pj q7 (upto (gMc (cyc + 1) cs) cc k2)) k2) ((pj q3 (upto (gMc (cyc + 1) cs) cc k2)) k2) ((pj q5 (upto (gMc (cyc + 1) cs) cc k2)) k2))))), (z15, .inl (G.2 2, 20, .inl (pj q8 (upto (gMc (cyc + 1) cs) cc k2)))), (z16, .inl (G.2 2, 20, .inl (pj q9 (upto (gMc (cyc + 1) cs) cc k2))))] H := hP
            have hD : va_D A [(z0, .inr (6, [.int 0, .int (nI nM), .ref z1, .ref z2, .ref z3, .ref z4, .ref z5, .ref z6, .int (nI nC), .ref z7, .ref z8, .ref z9, .ref z10, .ref z11, .ref z12, .ref z13, .ref z14, .ref z15, .ref z16, .int (cyc + 1), .int li, .long me, .long mi, .int (nI sn), .ref z17])), (z1, .inl (G.2 2, 16, .inl (pj m0 (upto (gMo cs ts) mm nM)))), (z2, .inl (G.2 2, 16, .inl (pj m1 (upto (gMo cs ts) mm nM)))), (z3, .inl (G.2 2, 16, .inl (pj m2 (upto (gMo cs ts) mm nM)))), (z4, .inl (G.2 2, 16, .inl (pj m3 (upto (gMo cs ts) mm nM)))), (z5, .inl (G.2 2, 16, .inl (pj m4 (upto (gMo cs ts) mm nM)))), (z6, .inl (G.2 3, 16, .inl (pj m5 (upto (gMo cs ts) mm nM)))), (z8, .inl (G.2 3, 20, .inl (pj q1 (upto (gMc (cyc + 1) cs) cc k2)))), (z9, .inl (G.2 3, 20, .inl (upd (pj q2 (upto (gMc (cyc + 1) cs) cc k2)) k2 (mfP ((pj q2 (upto (gMc (cyc + 1) cs) cc k2)) k2))))), (z10, .inl (G.2 3, 20, .inl (upd (pj q3 (upto (gMc (cyc + 1) cs) cc k2)) k2 (mfQ ((pj q3 (upto (gMc (cyc + 1) cs) cc k2)) k2) ((pj q5 (upto (gMc (cyc + 1) cs) cc k2)) k2))))), (z11, .inl (G.2 3, 20, .inl (upd (pj q4 (upto (gMc (cyc + 1) cs) cc k2)) k2 (mfL ((pj q4 (upto (gMc (cyc + 1) cs) cc k2)) k2) ((pj q6 (upto (gMc (cyc + 1) cs) cc k2)) k2) cs)))), (z12, .inl (G.2 2, 20, .inl (upd (pj q5 (upto (gMc (cyc + 1) cs) cc k2)) k2 ((pj q5 (upto (gMc (cyc + 1) cs) cc k2)) k2 + 1)))), (z13, .inl (G.2 2, 20, .inl (upd (pj q6 (upto (gMc (cyc + 1) cs) cc k2)) k2 (mfZ ((pj q6 (upto (gMc (cyc + 1) cs) cc k2)) k2) cs)))), (z14, .inl (G.2 3, 20, .inl (upd (pj q7 (upto (gMc (cyc + 1) cs) cc k2)) k2 (mfW ((pj q2 (upto (gMc (cyc + 1) cs) cc k2)) k2) ((pj q7 (upto (gMc (cyc + 1) cs) cc k2)) k2) ((pj q3 (upto (gMc (cyc + 1) cs) cc k2)) k2) ((pj q5 (upto (gMc (cyc + 1) cs) cc k2)) k2))))), (z15, .inl (G.2 2, 20, .inl (pj q8 (upto (gMc (cyc + 1) cs) cc k2)))), (z16, .inl (G.2 2, 20, .inl (pj q9 (upto (gMc (cyc + 1) cs) cc k2))))] := hD
            refine lv_iinc (v := nI (k2 + 1)) (lv' := [(4, .int (nI (k2 + 1))), (0, .ref z0), (1, .int cs), (3, .int (mcntM mm cs nM))]) hx hb d_MOD_cycle_166 hl (k := 3) rfl (nI_succ _).symm (by decide) rfl (fun ls hl => ?_)
            refine lv_goto (tgt := 130) hx hb d_MOD_cycle_169 (by decide) ?_
            have e_gO : pj q1 (upto (gMc (cyc + 1) cs) cc k2) = pj q1 (upto (gMc (cyc + 1) cs) cc (k2 + 1)) := pj_up (by first | (simp only [gMo, gMc, mhC, pj_k, upto_self, pk_us, bitF, m0, m1, m2, m3, m4, m5, q0, q1, q2, q3, q4, q5, q6, q7, q8, q9, c_14, c_26, c_53, c_136, c_146, if_true, if_false, reduceIte]; done) | (simp [gMo, gMc, mhC, pj_k, upto_self, pk_us, bitF, m0, m1, m2, m3, m4, m5, q0, q1, q2, q3, q4, q5, q6, q7, q8, q9, c_14, c_26, c_53, c_136, c_146]; done) | (simp_all [gMo, gMc, mhC, pj_k, upto_self, pk_us, bitF, m0, m1, m2, m3, m4, m5, q0, q1, q2, q3, q4, q5, q6, q7, q8, q9]; done))
            have e_gP : upd (pj q2 (upto (gMc (cyc + 1) cs) cc k2)) k2 (mfP ((pj q2 (upto (gMc (cyc + 1) cs) cc k2)) k2)) = pj q2 (upto (gMc (cyc + 1) cs) cc (k2 + 1)) := pj_upd (by first | (simp only [gMo, gMc, mhC, pj_k, upto_self, pk_us, bitF, m0, m1, m2, m3, m4, m5, q0, q1, q2, q3, q4, q5, q6, q7, q8, q9, c_14, c_26, c_53, c_136, c_146, if_true, if_false, reduceIte]; done) | (simp [gMo, gMc, mhC, pj_k, upto_self, pk_us, bitF, m0, m1, m2, m3, m4, m5, q0, q1, q2, q3, q4, q5, q6, q7, q8, q9, c_14, c_26, c_53, c_136, c_146]; done) | (simp_all [gMo, gMc, mhC, pj_k, upto_self, pk_us, bitF, m0, m1, m2, m3, m4, m5, q0, q1, q2, q3, q4, q5, q6, q7, q8, q9]; done))
            have e_gQ : upd (pj q3 (upto (gMc (cyc + 1) cs) cc k2)) k2 (mfQ ((pj q3 (upto (gMc (cyc + 1) cs) cc k2)) k2) ((pj q5 (upto (gMc (cyc + 1) cs) cc k2)) k2)) = pj q3 (upto (gMc (cyc + 1) cs) cc (k2 + 1)) := pj_upd (by first | (simp only [gMo, gMc, mhC, pj_k, upto_self, pk_us, bitF, m0, m1, m2, m3, m4, m5, q0, q1, q2, q3, q4, q5, q6, q7, q8, q9, c_14, c_26, c_53, c_136, c_146, if_true, if_false, reduceIte]; done) | (simp [gMo, gMc, mhC, pj_k, upto_self, pk_us, bitF, m0, m1, m2, m3, m4, m5, q0, q1, q2, q3, q4, q5, q6, q7, q8, q9, c_14, c_26, c_53, c_136, c_146]; done) | (simp_all [gMo, gMc, mhC, pj_k, upto_self, pk_us, bitF, m0, m1, m2, m3, m4, m5, q0, q1, q2, q3, q4, q5, q6, q7, q8, q9]; done))
            have e_gL : upd (pj q4 (upto (gMc (cyc + 1) cs) cc k2)) k2 (mfL ((pj q4 (upto (gMc (cyc + 1) cs) cc k2)) k2) ((pj q6 (upto (gMc (cyc + 1) cs) cc k2)) k2) cs) = pj q4 (upto (gMc (cyc + 1) cs) cc (k2 + 1)) := pj_upd (by first | (simp only [gMo, gMc, mhC, pj_k, upto_self, pk_us, bitF, m0, m1, m2, m3, m4, m5, q0, q1, q2, q3, q4, q5, q6, q7, q8, q9, c_14, c_26, c_53, c_136, c_146, if_true, if_false, reduceIte]; done) | (simp [gMo, gMc, mhC, pj_k, upto_self, pk_us, bitF, m0, m1, m2, m3, m4, m5, q0, q1, q2, q3, q4, q5, q6, q7, q8, q9, c_14, c_26, c_53, c_136, c_146]; done) | (simp_all [gMo, gMc, mhC, pj_k, upto_self, pk_us, bitF, m0, m1, m2, m3, m4, m5, q0, q1, q2, q3, q4, q5, q6, q7, q8, q9]; done))
            have e_gF : upd (pj q5 (upto (gMc (cyc + 1) cs) cc k2)) k2 ((pj q5 (upto (gMc (cyc + 1) cs) cc k2)) k2 + 1) = pj q5 (upto (gMc (cyc + 1) cs) cc (k2 + 1)) := pj_upd (by first | (simp only [gMo, gMc, mhC, pj_k, upto_self, pk_us, bitF, m0, m1, m2, m3, m4, m5, q0, q1, q2, q3, q4, q5, q6, q7, q8, q9, c_14, c_26, c_53, c_136, c_146, if_true, if_false, reduceIte]; done) | (simp [gMo, gMc, mhC, pj_k, upto_self, pk_us, bitF, m0, m1, m2, m3, m4, m5, q0, q1, q2, q3, q4, q5, q6, q7, q8, q9, c_14, c_26, c_53, c_136, c_146]; done) | (simp_all [gMo, gMc, mhC, pj_k, upto_self, pk_us, bitF, m0, m1, m2, m3, m4, m5, q0, q1, q2, q3, q4, q5, q6, q7, q8, q9]; done))
            have e_gZ : upd (pj q6 (upto (gMc (cyc + 1) cs) cc k2)) k2 (mfZ ((pj q6 (upto (gMc (cyc + 1) cs) cc k2)) k2) cs) = pj q6 (upto (gMc (cyc + 1) cs) cc (k2 + 1)) := pj_upd (by first | (simp only [gMo, gMc, mhC, pj_k, upto_self, pk_us, bitF, m0, m1, m2, m3, m4, m5, q0, q1, q2, q3, q4, q5, q6, q7, q8, q9, c_14, c_26, c_53, c_136, c_146, if_true, if_false, reduceIte]; done) | (simp [gMo, gMc, mhC, pj_k, upto_self, pk_us, bitF, m0, m1, m2, m3, m4, m5, q0, q1, q2, q3, q4, q5, q6, q7, q8, q9, c_14, c_26, c_53, c_136, c_146]; done) | (simp_all [gMo, gMc, mhC, pj_k, upto_self, pk_us, bitF, m0, m1, m2, m3, m4, m5, q0, q1, q2, q3, q4, q5, q6, q7, q8, q9]; done))
            have e_gW : upd (pj q7 (upto (gMc (cyc + 1) cs) cc k2)) k2 (mfW ((pj q2 (upto (gMc (cyc + 1) cs) cc k2)) k2) ((pj q7 (upto (gMc (cyc + 1) cs) cc k2)) k2) ((pj q3 (upto (gMc (cyc + 1) cs) cc k2)) k2) ((pj q5 (upto (gMc (cyc + 1) cs) cc k2)) k2)) = pj q7 (upto (gMc (cyc + 1) cs) cc (k2 + 1)) := pj_upd (by first | (simp only [gMo, gMc, mhC, pj_k, upto_self, pk_us, bitF, m0, m1, m2, m3, m4, m5, q0, q1, q2, q3, q4, q5, q6, q7, q8, q9, c_14, c_26, c_53, c_136, c_146, if_true, if_false, reduceIte]; done) | (simp [gMo, gMc, mhC, pj_k, upto_self, pk_us, bitF, m0, m1, m2, m3, m4, m5, q0, q1, q2, q3, q4, q5, q6, q7, q8, q9, c_14, c_26, c_53, c_136, c_146]; done) | (simp_all [gMo, gMc, mhC, pj_k, upto_self, pk_us, bitF, m0, m1, m2, m3, m4, m5, q0, q1, q2, q3, q4, q5, q6, q7, q8, q9]; done))
            have e_gC : pj q8 (upto (gMc (cyc + 1) cs) cc k2) = pj q8 (upto (gMc (cyc + 1) cs) cc (k2 + 1)) := pj_up (by first | (simp only [gMo, gMc, mhC, pj_k, upto_self, pk_us, bitF, m0, m1, m2, m3, m4, m5, q0, q1, q2, q3, q4, q5, q6, q7, q8, q9, c_14, c_26, c_53, c_136, c_146, if_true, if_false, reduceIte]; done) | (simp [gMo, gMc, mhC, pj_k, upto_self, pk_us, bitF, m0, m1, m2, m3, m4, m5, q0, q1, q2, q3, q4, q5, q6, q7, q8, q9, c_14, c_26, c_53, c_136, c_146]; done) | (simp_all [gMo, gMc, mhC, pj_k, upto_self, pk_us, bitF, m0, m1, m2, m3, m4, m5, q0, q1, q2, q3, q4, q5, q6, q7, q8, q9]; done))
            have e_gD : pj q9 (upto (gMc (cyc + 1) cs) cc k2) = pj q9 (upto (gMc (cyc + 1) cs) cc (k2 + 1)) := pj_up (by first | (simp only [gMo, gMc, mhC, pj_k, upto_self, pk_us, bitF, m0, m1, m2, m3, m4, m5, q0, q1, q2, q3, q4, q5, q6, q7, q8, q9, c_14, c_26, c_53, c_136, c_146, if_true, if_false, reduceIte]; done) | (simp [gMo, gMc, mhC, pj_k, upto_self, pk_us, bitF, m0, m1, m2, m3, m4, m5, q0, q1, q2, q3, q4, q5, q6, q7, q8, q9, c_14, c_26, c_53, c_136, c_146]; done) | (simp_all [gMo, gMc, mhC, pj_k, upto_self, pk_us, bitF, m0, m1, m2, m3, m4, m5, q0, q1, q2, q3, q4, q5, q6, q7, q8, q9]; done))
            rw [e_gF, e_gL, e_gP, e_gQ, e_gW, e_gZ, e_gC, e_gD, e_gO] at hP hD
            exact ih (k2 + 1) _ _ _ ⟨hk2, hP, hD, hS, lv_sub hl [1, 2, 3, 0] rfl⟩ (by show nC - (k2 + 1) < nC - k2; omega)
          · refine lv_aload_n hx hb d_MOD_cycle_149 rfl (lv_at hl 0 rfl) ?_
            refine lv_iload hx hb d_MOD_cycle_150 (lv_at hl 3 rfl) ?_
            refine lv_iload_n hx hb d_MOD_cycle_152 rfl (lv_at hl 1 rfl) ?_
            have hPc := hP.sub (ws' := [(z0, .inr (6, [.int 0, .int (nI nM), .ref z1, .ref z2, .ref z3, .ref z4, .ref z5, .ref z6, .int (nI nC), .ref z7, .ref z8, .ref z9, .ref z10, .ref z11, .ref z12, .ref z13, .ref z14, .ref z15, .ref z16, .int (cyc + 1), .int li, .long me, .long mi, .int (nI sn), .ref z17])), (z9, .inl (G.2 3, 20, .inl (pj q2 (upto (gMc (cyc + 1) cs) cc k2)))), (z10, .inl (G.2 3, 20, .inl (pj q3 (upto (gMc (cyc + 1) cs) cc k2)))), (z11, .inl (G.2 3, 20, .inl (pj q4 (upto (gMc (cyc + 1) cs) cc k2)))), (z12, .inl (G.2 2, 20, .inl (pj q5 (upto (gMc (cyc + 1) cs) cc k2)))), (z13, .inl (G.2 2, 20, .inl (pj q6 (upto (gMc (cyc + 1) cs) cc k2)))), (z14, .inl (G.2 3, 20, .inl (pj q7 (upto (gMc (cyc + 1) cs) cc k2)))), (z15, .inl (G.2 2, 20, .inl (pj q8 (upto (gMc (cyc + 1) cs) cc k2)))), (z16, .inl (G.2 2, 20, .inl (pj q9 (upto (gMc (cyc + 1) cs) cc k2))))]) [0, 8, 9, 10, 11, 12, 13, 14, 15] rfl
            have hDc := hD.sub (ws' := [(z0, .inr (6, [.int 0, .int (nI nM), .ref z1, .ref z2, .ref z3, .ref z4, .ref z5, .ref z6, .int (nI nC), .ref z7, .ref z8, .ref z9, .ref z10, .ref z11, .ref z12, .ref z13, .ref z14, .ref z15, .ref z16, .int (cyc + 1), .int li, .long me, .long mi, .int (nI sn), .ref z17])), (z9, .inl (G.2 3, 20, .inl (pj q2 (upto (gMc (cyc + 1) cs) cc k2)))), (z10, .inl (G.2 3, 20, .inl (pj q3 (upto (gMc (cyc + 1) cs) cc k2)))), (z11, .inl (G.2 3, 20, .inl (pj q4 (upto (gMc (cyc + 1) cs) cc k2)))), (z12, .inl (G.2 2, 20, .inl (pj q5 (upto (gMc (cyc + 1) cs) cc k2)))), (z13, .inl (G.2 2, 20, .inl (pj q6 (upto (gMc (cyc + 1) cs) cc k2)))), (z14, .inl (G.2 3, 20, .inl (pj q7 (upto (gMc (cyc + 1) cs) cc k2)))), (z15, .inl (G.2 2, 20, .inl (pj q8 (upto (gMc (cyc + 1) cs) cc k2)))), (z16, .inl (G.2 2, 20, .inl (pj q9 (upto (gMc (cyc + 1) cs) cc k2))))]) [0, 8, 9, 10, 11, 12, 13, 14, 15] (by decide) rfl
            refine bx_callKv [0, 8, 9, 10, 11, 12, 13, 14, 15] (va_runV (As := [.int (nI k2), .int cs]) (rest := []) ⟨hx, hb, hml, hown, hts⟩ (c_mendOn l G H.size z0 z1 z2 z3 z4 z5 z6 z7 z8 z9 z10 z11 z12 z13 z14 z15 z16 z17 0 (cyc + 1) li nM nC sn me mi (pj q2 (upto (gMc (cyc + 1) cs) cc k2)) (pj q3 (upto (gMc (cyc + 1) cs) cc k2)) (pj q4 (upto (gMc (cyc + 1) cs) cc k2)) (pj q5 (upto (gMc (cyc + 1) cs) cc k2)) (pj q6 (upto (gMc (cyc + 1) cs) cc k2)) (pj q7 (upto (gMc (cyc + 1) cs) cc k2)) (pj q8 (upto (gMc (cyc + 1) cs) cc k2)) (pj q9 (upto (gMc (cyc + 1) cs) cc k2)) k2 cs (by omega)) ⟨(callB_of 2 hts (gi_all wd_693) rfl rfl rfl (hT _ wd_51) (hT _ wd_690) (by decide +kernel) ⟨Nat.le_of_ble_eq_true rfl, Nat.le_of_ble_eq_true rfl⟩), (hT _ wd_692), (hT _ wd_35)⟩ (pvW hPc hGK hDc (va_recv hK hPc (ci := 6) (q0 := 0) rfl rfl)) rfl rfl hl.1 rfl (lv_room (Nat.le_of_ble_eq_true rfl)) d_MOD_cycle_153 ⟨Nat.le_of_ble_eq_true rfl, Nat.le_of_ble_eq_true rfl⟩) hP hD hS hA rfl rfl rfl (fun H locs hP hD hS => ?_)
            have hP : va_P G.1 vwCl [(z0, .inr (6, [.int 0, .int (nI nM), .ref z1, .ref z2, .ref z3, .ref z4, .ref z5, .ref z6, .int (nI nC), .ref z7, .ref z8, .ref z9, .ref z10, .ref z11, .ref z12, .ref z13, .ref z14, .ref z15, .ref z16, .int (cyc + 1), .int li, .long me, .long mi, .int (nI sn), .ref z17])), (z1, .inl (G.2 2, 16, .inl (pj m0 (upto (gMo cs ts) mm nM)))), (z2, .inl (G.2 2, 16, .inl (pj m1 (upto (gMo cs ts) mm nM)))), (z3, .inl (G.2 2, 16, .inl (pj m2 (upto (gMo cs ts) mm nM)))), (z4, .inl (G.2 2, 16, .inl (pj m3 (upto (gMo cs ts) mm nM)))), (z5, .inl (G.2 2, 16, .inl (pj m4 (upto (gMo cs ts) mm nM)))), (z6, .inl (G.2 3, 16, .inl (pj m5 (upto (gMo cs ts) mm nM)))), (z8, .inl (G.2 3, 20, .inl (pj q1 (upto (gMc (cyc + 1) cs) cc k2)))), (z9, .inl (G.2 3, 20, .inl (upd (pj q2 (upto (gMc (cyc + 1) cs) cc k2)) k2 (moP ((pj q2 (upto (gMc (cyc + 1) cs) cc k2)) k2) ((pj q3 (upto (gMc (cyc + 1) cs) cc k2)) k2))))), (z10, .inl (G.2 3, 20, .inl (upd (pj q3 (upto (gMc (cyc + 1) cs) cc k2)) k2 (moK ((pj q2 (upto (gMc (cyc + 1) cs) cc k2)) k2) ((pj q3 (upto (gMc (cyc + 1) cs) cc k2)) k2))))), (z11, .inl (G.2 3, 20, .inl (upd (pj q4 (upto (gMc (cyc + 1) cs) cc k2)) k2 (moK ((pj q2 (upto (gMc (cyc + 1) cs) cc k2)) k2) ((pj q4 (upto (gMc (cyc + 1) cs) cc k2)) k2))))), (z12, .inl (G.2 2, 20, .inl (upd (pj q5 (upto (gMc (cyc + 1) cs) cc k2)) k2 0))), (z13, .inl (G.2 2, 20, .inl (upd (pj q6 (upto (gMc (cyc + 1) cs) cc k2)) k2 0))), (z14, .inl (G.2 3, 20, .inl (upd (pj q7 (upto (gMc (cyc + 1) cs) cc k2)) k2 (moF ((pj q2 (upto (gMc (cyc + 1) cs) cc k2)) k2) ((pj q3 (upto (gMc (cyc + 1) cs) cc k2)) k2) ((pj q7 (upto (gMc (cyc + 1) cs) cc k2)) k2) 1)))), (z15, .inl (G.2 2, 20, .inl (upd (pj q8 (upto (gMc (cyc + 1) cs) cc k2)) k2 (moF ((pj q2 (upto (gMc (cyc + 1) cs) cc k2)) k2) ((pj q3 (upto (gMc (cyc + 1) cs) cc k2)) k2) ((pj q8 (upto (gMc (cyc + 1) cs) cc k2)) k2) (cyc + 1))))), (z16, .inl (G.2 2, 20, .inl (upd (pj q9 (upto (gMc (cyc + 1) cs) cc k2)) k2 (moF ((pj q2 (upto (gMc (cyc + 1) cs) cc k2)) k2) ((pj q3 (upto (gMc (cyc + 1) cs) cc k2)) k2) ((pj q9 (upto (gMc (cyc + 1) cs) cc k2)) k2) cs))))] H := hP
            have hD : va_D A [(z0, .inr (6, [.int 0, .int (nI nM), .ref z1, .ref z2, .ref z3, .ref z4, .ref z5, .ref z6, .int (nI nC), .ref z7, .ref z8, .ref z9, .ref z10, .ref z11, .ref z12, .ref z13, .ref z14, .ref z15, .ref z16, .int (cyc + 1), .int li, .long me, .long mi, .int (nI sn), .ref z17])), (z1, .inl (G.2 2, 16, .inl (pj m0 (upto (gMo cs ts) mm nM)))), (z2, .inl (G.2 2, 16, .inl (pj m1 (upto (gMo cs ts) mm nM)))), (z3, .inl (G.2 2, 16, .inl (pj m2 (upto (gMo cs ts) mm nM)))), (z4, .inl (G.2 2, 16, .inl (pj m3 (upto (gMo cs ts) mm nM)))), (z5, .inl (G.2 2, 16, .inl (pj m4 (upto (gMo cs ts) mm nM)))), (z6, .inl (G.2 3, 16, .inl (pj m5 (upto (gMo cs ts) mm nM)))), (z8, .inl (G.2 3, 20, .inl (pj q1 (upto (gMc (cyc + 1) cs) cc k2)))), (z9, .inl (G.2 3, 20, .inl (upd (pj q2 (upto (gMc (cyc + 1) cs) cc k2)) k2 (moP ((pj q2 (upto (gMc (cyc + 1) cs) cc k2)) k2) ((pj q3 (upto (gMc (cyc + 1) cs) cc k2)) k2))))), (z10, .inl (G.2 3, 20, .inl (upd (pj q3 (upto (gMc (cyc + 1) cs) cc k2)) k2 (moK ((pj q2 (upto (gMc (cyc + 1) cs) cc k2)) k2) ((pj q3 (upto (gMc (cyc + 1) cs) cc k2)) k2))))), (z11, .inl (G.2 3, 20, .inl (upd (pj q4 (upto (gMc (cyc + 1) cs) cc k2)) k2 (moK ((pj q2 (upto (gMc (cyc + 1) cs) cc k2)) k2) ((pj q4 (upto (gMc (cyc + 1) cs) cc k2)) k2))))), (z12, .inl (G.2 2, 20, .inl (upd (pj q5 (upto (gMc (cyc + 1) cs) cc k2)) k2 0))), (z13, .inl (G.2 2, 20, .inl (upd (pj q6 (upto (gMc (cyc + 1) cs) cc k2)) k2 0))), (z14, .inl (G.2 3, 20, .inl (upd (pj q7 (upto (gMc (cyc + 1) cs) cc k2)) k2 (moF ((pj q2 (upto (gMc (cyc + 1) cs) cc k2)) k2) ((pj q3 (upto (gMc (cyc + 1) cs) cc k2)) k2) ((pj q7 (upto (gMc (cyc + 1) cs) cc k2)) k2) 1)))), (z15, .inl (G.2 2, 20, .inl (upd (pj q8 (upto (gMc (cyc + 1) cs) cc k2)) k2 (moF ((pj q2 (upto (gMc (cyc + 1) cs) cc k2)) k2) ((pj q3 (upto (gMc (cyc + 1) cs) cc k2)) k2) ((pj q8 (upto (gMc (cyc + 1) cs) cc k2)) k2) (cyc + 1))))), (z16, .inl (G.2 2, 20, .inl (upd (pj q9 (upto (gMc (cyc + 1) cs) cc k2)) k2 (moF ((pj q2 (upto (gMc (cyc + 1) cs) cc k2)) k2) ((pj q3 (upto (gMc (cyc + 1) cs) cc k2)) k2) ((pj q9 (upto (gMc (cyc + 1) cs) cc k2)) k2) cs))))] := hD
            refine lv_goto (tgt := 166) hx hb d_MOD_cycle_156 (by decide) ?_
            refine lv_iinc (v := nI (k2 + 1)) (lv' := [(4, .int (nI (k2 + 1))), (0, .ref z0), (1, .int cs), (3, .int (mcntM mm cs nM))]) hx hb d_MOD_cycle_166 hl (k := 3) rfl (nI_succ _).symm (by decide) rfl (fun ls hl => ?_)
            refine lv_goto (tgt := 130) hx hb d_MOD_cycle_169 (by decide) ?_
            have e_gO : pj q1 (upto (gMc (cyc + 1) cs) cc k2) = pj q1 (upto (gMc (cyc + 1) cs) cc (k2 + 1)) := pj_up (by first | (simp only [gMo, gMc, mhC, pj_k, upto_self, pk_us, bitF, m0, m1, m2, m3, m4, m5, q0, q1, q2, q3, q4, q5, q6, q7, q8, q9, c_14, c_26, c_53, c_136, c_146, if_true, if_false, reduceIte]; done) | (simp [gMo, gMc, mhC, pj_k, upto_self, pk_us, bitF, m0, m1, m2, m3, m4, m5, q0, q1, q2, q3, q4, q5, q6, q7, q8, q9, c_14, c_26, c_53, c_136, c_146]; done) | (simp_all [gMo, gMc, mhC, pj_k, upto_self, pk_us, bitF, m0, m1, m2, m3, m4, m5, q0, q1, q2, q3, q4, q5, q6, q7, q8, q9]; done))
            have e_gP : upd (pj q2 (upto (gMc (cyc + 1) cs) cc k2)) k2 (moP ((pj q2 (upto (gMc (cyc + 1) cs) cc k2)) k2) ((pj q3 (upto (gMc (cyc + 1) cs) cc k2)) k2)) = pj q2 (upto (gMc (cyc + 1) cs) cc (k2 + 1)) := pj_upd (by first | (simp only [gMo, gMc, mhC, pj_k, upto_self, pk_us, bitF, m0, m1, m2, m3, m4, m5, q0, q1, q2, q3, q4, q5, q6, q7, q8, q9, c_14, c_26, c_53, c_136, c_146, if_true, if_false, reduceIte]; done) | (simp [gMo, gMc, mhC, pj_k, upto_self, pk_us, bitF, m0, m1, m2, m3, m4, m5, q0, q1, q2, q3, q4, q5, q6, q7, q8, q9, c_14, c_26, c_53, c_136, c_146]; done) | (simp_all [gMo, gMc, mhC, pj_k, upto_self, pk_us, bitF, m0, m1, m2, m3, m4, m5, q0, q1, q2, q3, q4, q5, q6, q7, q8, q9]; done))
            have e_gQ : upd (pj q3 (upto (gMc (cyc + 1) cs) cc k2)) k2 (moK ((pj q2 (upto (gMc (cyc + 1) cs) cc k2)) k2) ((pj q3 (upto (gMc (cyc + 1) cs) cc k2)) k2)) = pj q3 (upto (gMc (cyc + 1) cs) cc (k2 + 1)) := pj_upd (by first | (simp only [gMo, gMc, mhC, pj_k, upto_self, pk_us, bitF, m0, m1, m2, m3, m4, m5, q0, q1, q2, q3, q4, q5, q6, q7, q8, q9, c_14, c_26, c_53, c_136, c_146, if_true, if_false, reduceIte]; done) | (simp [gMo, gMc, mhC, pj_k, upto_self, pk_us, bitF, m0, m1, m2, m3, m4, m5, q0, q1, q2, q3, q4, q5, q6, q7, q8, q9, c_14, c_26, c_53, c_136, c_146]; done) | (simp_all [gMo, gMc, mhC, pj_k, upto_self, pk_us, bitF, m0, m1, m2, m3, m4, m5, q0, q1, q2, q3, q4, q5, q6, q7, q8, q9]; done))
            have e_gL : upd (pj q4 (upto (gMc (cyc + 1) cs) cc k2)) k2 (moK ((pj q2 (upto (gMc (cyc + 1) cs) cc k2)) k2) ((pj q4 (upto (gMc (cyc + 1) cs) cc k2)) k2)) = pj q4 (upto (gMc (cyc + 1) cs) cc (k2 + 1)) := pj_upd (by first | (simp only [gMo, gMc, mhC, pj_k, upto_self, pk_us, bitF, m0, m1, m2, m3, m4, m5, q0, q1, q2, q3, q4, q5, q6, q7, q8, q9, c_14, c_26, c_53, c_136, c_146, if_true, if_false, reduceIte]; done) | (simp [gMo, gMc, mhC, pj_k, upto_self, pk_us, bitF, m0, m1, m2, m3, m4, m5, q0, q1, q2, q3, q4, q5, q6, q7, q8, q9, c_14, c_26, c_53, c_136, c_146]; done) | (simp_all [gMo, gMc, mhC, pj_k, upto_self, pk_us, bitF, m0, m1, m2, m3, m4, m5, q0, q1, q2, q3, q4, q5, q6, q7, q8, q9]; done))
            have e_gF : upd (pj q5 (upto (gMc (cyc + 1) cs) cc k2)) k2 0 = pj q5 (upto (gMc (cyc + 1) cs) cc (k2 + 1)) := pj_upd (by first | (simp only [gMo, gMc, mhC, pj_k, upto_self, pk_us, bitF, m0, m1, m2, m3, m4, m5, q0, q1, q2, q3, q4, q5, q6, q7, q8, q9, c_14, c_26, c_53, c_136, c_146, if_true, if_false, reduceIte]; done) | (simp [gMo, gMc, mhC, pj_k, upto_self, pk_us, bitF, m0, m1, m2, m3, m4, m5, q0, q1, q2, q3, q4, q5, q6, q7, q8, q9, c_14, c_26, c_53, c_136, c_146]; done) | (simp_all [gMo, gMc, mhC, pj_k, upto_self, pk_us, bitF, m0, m1, m2, m3, m4, m5, q0, q1, q2, q3, q4, q5, q6, q7, q8, q9]; done))
            have e_gZ : upd (pj q6 (upto (gMc (cyc + 1) cs) cc k2)) k2 0 = pj q6 (upto (gMc (cyc + 1) cs) cc (k2 + 1)) := pj_upd (by first | (simp only [gMo, gMc, mhC, pj_k, upto_self, pk_us, bitF, m0, m1, m2, m3, m4, m5, q0, q1, q2, q3, q4, q5, q6, q7, q8, q9, c_14, c_26, c_53, c_136, c_146, if_true, if_false, reduceIte]; done) | (simp [gMo, gMc, mhC, pj_k, upto_self, pk_us, bitF, m0, m1, m2, m3, m4, m5, q0, q1, q2, q3, q4, q5, q6, q7, q8, q9, c_14, c_26, c_53, c_136, c_146]; done) | (simp_all [gMo, gMc, mhC, pj_k, upto_self, pk_us, bitF, m0, m1, m2, m3, m4, m5, q0, q1, q2, q3, q4, q5, q6, q7, q8, q9]; done))
            have e_gW : upd (pj q7 (upto (gMc (cyc + 1) cs) cc k2)) k2 (moF ((pj q2 (upto (gMc (cyc + 1) cs) cc k2)) k2) ((pj q3 (upto (gMc (cyc + 1) cs) cc k2)) k2) ((pj q7 (upto (gMc (cyc + 1) cs) cc k2)) k2) 1) = pj q7 (upto (gMc (cyc + 1) cs) cc (k2 + 1)) := pj_upd (by first | (simp only [gMo, gMc, mhC, pj_k, upto_self, pk_us, bitF, m0, m1, m2, m3, m4, m5, q0, q1, q2, q3, q4, q5, q6, q7, q8, q9, c_14, c_26, c_53, c_136, c_146, if_true, if_false, reduceIte]; done) | (simp [gMo, gMc, mhC, pj_k, upto_self, pk_us, bitF, m0, m1, m2, m3, m4, m5, q0, q1, q2, q3, q4, q5, q6, q7, q8, q9, c_14, c_26, c_53, c_136, c_146]; done) | (simp_all [gMo, gMc, mhC, pj_k, upto_self, pk_us, bitF, m0, m1, m2, m3, m4, m5, q0, q1, q2, q3, q4, q5, q6, q7, q8, q9]; done))
            have e_gC : upd (pj q8 (upto (gMc (cyc + 1) cs) cc k2)) k2 (moF ((pj q2 (upto (gMc (cyc + 1) cs) cc k2)) k2) ((pj q3 (upto (gMc (cyc + 1) cs) cc k2)) k2) ((pj q8 (upto (gMc (cyc + 1) cs) cc k2)) k2) (cyc + 1)) = pj q8 (upto (gMc (cyc + 1) cs) cc (k2 + 1)) := pj_upd (by first | (simp only [gMo, gMc, mhC, pj_k, upto_self, pk_us, bitF, m0, m1, m2, m3, m4, m5, q0, q1, q2, q3, q4, q5, q6, q7, q8, q9, c_14, c_26, c_53, c_136, c_146, if_true, if_false, reduceIte]; done) | (simp [gMo, gMc, mhC, pj_k, upto_self, pk_us, bitF, m0, m1, m2, m3, m4, m5, q0, q1, q2, q3, q4, q5, q6, q7, q8, q9, c_14, c_26, c_53, c_136, c_146]; done) | (simp_all [gMo, gMc, mhC, pj_k, upto_self, pk_us, bitF, m0, m1, m2, m3, m4, m5, q0, q1, q2, q3, q4, q5, q6, q7, q8, q9]; done))
            have e_gD : upd (pj q9 (upto (gMc (cyc + 1) cs) cc k2)) k2 (moF ((pj q2 (upto (gMc (cyc + 1) cs) cc k2)) k2) ((pj q3 (upto (gMc (cyc + 1) cs) cc k2)) k2) ((pj q9 (upto (gMc (cyc + 1) cs) cc k2)) k2) cs) = pj q9 (upto (gMc (cyc + 1) cs) cc (k2 + 1)) := pj_upd (by first | (simp only [gMo, gMc, mhC, pj_k, upto_self, pk_us, bitF, m0, m1, m2, m3, m4, m5, q0, q1, q2, q3, q4, q5, q6, q7, q8, q9, c_14, c_26, c_53, c_136, c_146, if_true, if_false, reduceIte]; done) | (simp [gMo, gMc, mhC, pj_k, upto_self, pk_us, bitF, m0, m1, m2, m3, m4, m5, q0, q1, q2, q3, q4, q5, q6, q7, q8, q9, c_14, c_26, c_53, c_136, c_146]; done) | (simp_all [gMo, gMc, mhC, pj_k, upto_self, pk_us, bitF, m0, m1, m2, m3, m4, m5, q0, q1, q2, q3, q4, q5, q6, q7, q8, q9]; done))
            rw [e_gC, e_gD, e_gF, e_gL, e_gP, e_gQ, e_gW, e_gZ, e_gO] at hP hD
            exact ih (k2 + 1) _ _ _ ⟨hk2, hP, hD, hS, lv_sub hl [1, 2, 3, 0] rfl⟩ (by show nC - (k2 + 1) < nC - k2; omega)
      · have hk : k < nM := Nat.not_le.mp (fun z => c_53 (nI_le z (by omega)))
        refine lv_iload_n hx hb d_MOD_cycle_56 rfl (lv_at hl 2 rfl) ?_
        refine lv_iload hx hb d_MOD_cycle_57 (lv_at hl 4 rfl) ?_
        refine lv_ishr hx hb d_MOD_cycle_59 ?_
        refine lv_iconst (v := 1) hx hb d_MOD_cycle_60 (by decide) ?_
        refine lv_iand hx hb d_MOD_cycle_61 ?_
        refine lv_iconst (v := 1) hx hb d_MOD_cycle_62 (by decide) ?_
        refine lv_icmp_ne (tgt := 70) hx hb d_MOD_cycle_63 (by decide) (fun c_63 => ?_) (fun c_63 => ?_)
        · refine lv_iconst (v := 0) hx hb d_MOD_cycle_70 (by decide) ?_
          refine lv_istore (lv' := [(5, .int 0), (0, .ref z0), (1, .int cs), (2, .int ts), (3, .int ac1), (4, .int (nI k))]) hx hb d_MOD_cycle_71 hl (by decide) rfl (fun ls hl => ?_)
          refine lv_aload_n hx hb d_MOD_cycle_73 rfl (lv_at hl 1 rfl) ?_
          refine va_get (D := G.1) (ci := 6) (v := .ref z6) (C := R_MOD) (T := T_MOD) (N := 25) hx hb hT in_MOD hown hK hP 0 rfl rfl 7 (by decide) (hT _ wd_589) (fun _ h9 => h9) rfl d_MOD_cycle_74 ?_
          refine lv_iload hx hb d_MOD_cycle_77 (lv_at hl 5 rfl) ?_
          refine lv_aload_n hx hb d_MOD_cycle_79 rfl (lv_at hl 1 rfl) ?_
          refine va_get (D := G.1) (ci := 6) (v := .ref z6) (C := R_MOD) (T := T_MOD) (N := 25) hx hb hT in_MOD hown hK hP 0 rfl rfl 7 (by decide) (hT _ wd_589) (fun _ h9 => h9) rfl d_MOD_cycle_80 ?_
          refine lv_iload hx hb d_MOD_cycle_83 (lv_at hl 5 rfl) ?_
          refine va_zald hx hb hK hP 6 3 rfl rfl (vp_in_nI (by omega) (by omega)) d_MOD_cycle_85 ?_
          refine W.eq (g2 := F0 m 86 ls (.int (m5 (mm k)) :: [.int (nI k), .ref z6])) (by rw [nI_clamp (by omega), pj_k, upto_self]) ?_
          refine lv_if_ne (tgt := 94) hx hb d_MOD_cycle_86 (by decide) (fun c_86 => ?_) (fun c_86 => ?_)
          · refine lv_iconst (v := 1) hx hb d_MOD_cycle_94 (by decide) ?_
            refine lv_goto (tgt := 99) hx hb d_MOD_cycle_95 (by decide) ?_
            refine va_zast hx hb hK hP hD hS 6 3 rfl rfl (vp_in_nI (by omega) (by omega)) d_MOD_cycle_99 (fun H locs hP hD hS => ?_)
            rw [nI_clamp (by omega), vn1] at hP hD
            have hP : va_P G.1 vwCl [(z0, .inr (6, [.int 0, .int (nI nM), .ref z1, .ref z2, .ref z3, .ref z4, .ref z5, .ref z6, .int (nI nC), .ref z7, .ref z8, .ref z9, .ref z10, .ref z11, .ref z12, .ref z13, .ref z14, .ref z15, .ref z16, .int (cyc + 1), .int li, .long me, .long mi, .int (nI sn), .ref z17])), (z1, .inl (G.2 2, 16, .inl (pj m0 (upto (gMo cs ts) mm k)))), (z2, .inl (G.2 2, 16, .inl (pj m1 (upto (gMo cs ts) mm k)))), (z3, .inl (G.2 2, 16, .inl (pj m2 (upto (gMo cs ts) mm k)))), (z4, .inl (G.2 2, 16, .inl (pj m3 (upto (gMo cs ts) mm k)))), (z5, .inl (G.2 2, 16, .inl (pj m4 (upto (gMo cs ts) mm k)))), (z6, .inl (G.2 3, 16, .inl (upd (pj m5 (upto (gMo cs ts) mm k)) k 1))), (z8, .inl (G.2 3, 20, .inl (pj q1 cc))), (z9, .inl (G.2 3, 20, .inl (pj q2 cc))), (z10, .inl (G.2 3, 20, .inl (pj q3 cc))), (z11, .inl (G.2 3, 20, .inl (pj q4 cc))), (z12, .inl (G.2 2, 20, .inl (pj q5 cc))), (z13, .inl (G.2 2, 20, .inl (pj q6 cc))), (z14, .inl (G.2 3, 20, .inl (pj q7 cc))), (z15, .inl (G.2 2, 20, .inl (pj q8 cc))), (z16, .inl (G.2 2, 20, .inl (pj q9 cc)))] H := hP
            have hD : va_D A [(z0, .inr (6, [.int 0, .int (nI nM), .ref z1, .ref z2, .ref z3, .ref z4, .ref z5, .ref z6, .int (nI nC), .ref z7, .ref z8, .ref z9, .ref z10, .ref z11, .ref z12, .ref z13, .ref z14, .ref z15, .ref z16, .int (cyc + 1), .int li, .long me, .long mi, .int (nI sn), .ref z17])), (z1, .inl (G.2 2, 16, .inl (pj m0 (upto (gMo cs ts) mm k)))), (z2, .inl (G.2 2, 16, .inl (pj m1 (upto (gMo cs ts) mm k)))), (z3, .inl (G.2 2, 16, .inl (pj m2 (upto (gMo cs ts) mm k)))), (z4, .inl (G.2 2, 16, .inl (pj m3 (upto (gMo cs ts) mm k)))), (z5, .inl (G.2 2, 16, .inl (pj m4 (upto (gMo cs ts) mm k)))), (z6, .inl (G.2 3, 16, .inl (upd (pj m5 (upto (gMo cs ts) mm k)) k 1))), (z8, .inl (G.2 3, 20, .inl (pj q1 cc))), (z9, .inl (G.2 3, 20, .inl (pj q2 cc))), (z10, .inl (G.2 3, 20, .inl (pj q3 cc))), (z11, .inl (G.2 3, 20, .inl (pj q4 cc))), (z12, .inl (G.2 2, 20, .inl (pj q5 cc))), (z13, .inl (G.2 2, 20, .inl (pj q6 cc))), (z14, .inl (G.2 3, 20, .inl (pj q7 cc))), (z15, .inl (G.2 2, 20, .inl (pj q8 cc))), (z16, .inl (G.2 2, 20, .inl (pj q9 cc)))] := hD
            refine lv_aload_n hx hb d_MOD_cycle_100 rfl (lv_at hl 1 rfl) ?_
            refine lv_iload hx hb d_MOD_cycle_101 (lv_at hl 5 rfl) ?_
            refine lv_iload_n hx hb d_MOD_cycle_103 rfl (lv_at hl 2 rfl) ?_
            have hPc := hP.sub (ws' := [(z0, .inr (6, [.int 0, .int (nI nM), .ref z1, .ref z2, .ref z3, .ref z4, .ref z5, .ref z6, .int (nI nC), .ref z7, .ref z8, .ref z9, .ref z10, .ref z11, .ref z12, .ref z13, .ref z14, .ref z15, .ref z16, .int (cyc + 1), .int li, .long me, .long mi, .int (nI sn), .ref z17])), (z1, .inl (G.2 2, 16, .inl (pj m0 (upto (gMo cs ts) mm k)))), (z2, .inl (G.2 2, 16, .inl (pj m1 (upto (gMo cs ts) mm k)))), (z5, .inl (G.2 2, 16, .inl (pj m4 (upto (gMo cs ts) mm k))))]) [0, 1, 2, 5] rfl
            have hDc := hD.sub (ws' := [(z0, .inr (6, [.int 0, .int (nI nM), .ref z1, .ref z2, .ref z3, .ref z4, .ref z5, .ref z6, .int (nI nC), .ref z7, .ref z8, .ref z9, .ref z10, .ref z11, .ref z12, .ref z13, .ref z14, .ref z15, .ref z16, .int (cyc + 1), .int li, .long me, .long mi, .int (nI sn), .ref z17])), (z1, .inl (G.2 2, 16, .inl (pj m0 (upto (gMo cs ts) mm k)))), (z2, .inl (G.2 2, 16, .inl (pj m1 (upto (gMo cs ts) mm k)))), (z5, .inl (G.2 2, 16, .inl (pj m4 (upto (gMo cs ts) mm k))))]) [0, 1, 2, 5] (by decide) rfl
            refine bx_callKr [0, 1, 2, 5] (va_runV (As := [.int (nI k), .int cs]) (rest := []) ⟨hx, hb, hml, hown, hts⟩ (c_mhasChance l G H.size z0 z1 z2 z3 z4 z5 z6 z7 z8 z9 z10 z11 z12 z13 z14 z15 z16 z17 0 (cyc + 1) li nM nC sn me mi (pj m0 (upto (gMo cs ts) mm k)) (pj m1 (upto (gMo cs ts) mm k)) (pj m4 (upto (gMo cs ts) mm k)) k cs (by omega)) ⟨(callB_of 2 hts (gi_all wd_682) rfl rfl rfl (hT _ wd_51) (hT _ wd_679) (by decide +kernel) ⟨Nat.le_of_ble_eq_true rfl, Nat.le_of_ble_eq_true rfl⟩), (hT _ wd_681), (hT _ wd_33)⟩ (pvW hPc hGK hDc (va_recv hK hPc (ci := 6) (q0 := 0) rfl rfl)) rfl rfl hl.1 rfl (lv_room (Nat.le_of_ble_eq_true rfl)) d_MOD_cycle_104 ⟨Nat.le_of_ble_eq_true rfl, Nat.le_of_ble_eq_true rfl⟩) hP hD hS hA rfl rfl rfl (fun H locs hP hD hS => ?_)
            have hP : va_P G.1 vwCl [(z0, .inr (6, [.int 0, .int (nI nM), .ref z1, .ref z2, .ref z3, .ref z4, .ref z5, .ref z6, .int (nI nC), .ref z7, .ref z8, .ref z9, .ref z10, .ref z11, .ref z12, .ref z13, .ref z14, .ref z15, .ref z16, .int (cyc + 1), .int li, .long me, .long mi, .int (nI sn), .ref z17])), (z1, .inl (G.2 2, 16, .inl (pj m0 (upto (gMo cs ts) mm k)))), (z2, .inl (G.2 2, 16, .inl (pj m1 (upto (gMo cs ts) mm k)))), (z3, .inl (G.2 2, 16, .inl (pj m2 (upto (gMo cs ts) mm k)))), (z4, .inl (G.2 2, 16, .inl (pj m3 (upto (gMo cs ts) mm k)))), (z5, .inl (G.2 2, 16, .inl (upd (pj m4 (upto (gMo cs ts) mm k)) k (mhH ((pj m0 (upto (gMo cs ts) mm k)) k) ((pj m1 (upto (gMo cs ts) mm k)) k) ((pj m4 (upto (gMo cs ts) mm k)) k) cs)))), (z6, .inl (G.2 3, 16, .inl (upd (pj m5 (upto (gMo cs ts) mm k)) k 1))), (z8, .inl (G.2 3, 20, .inl (pj q1 cc))), (z9, .inl (G.2 3, 20, .inl (pj q2 cc))), (z10, .inl (G.2 3, 20, .inl (pj q3 cc))), (z11, .inl (G.2 3, 20, .inl (pj q4 cc))), (z12, .inl (G.2 2, 20, .inl (pj q5 cc))), (z13, .inl (G.2 2, 20, .inl (pj q6 cc))), (z14, .inl (G.2 3, 20, .inl (pj q7 cc))), (z15, .inl (G.2 2, 20, .inl (pj q8 cc))), (z16, .inl (G.2 2, 20, .inl (pj q9 cc)))] H := hP
            have hD : va_D A [(z0, .inr (6, [.int 0, .int (nI nM), .ref z1, .ref z2, .ref z3, .ref z4, .ref z5, .ref z6, .int (nI nC), .ref z7, .ref z8, .ref z9, .ref z10, .ref z11, .ref z12, .ref z13, .ref z14, .ref z15, .ref z16, .int (cyc + 1), .int li, .long me, .long mi, .int (nI sn), .ref z17])), (z1, .inl (G.2 2, 16, .inl (pj m0 (upto (gMo cs ts) mm k)))), (z2, .inl (G.2 2, 16, .inl (pj m1 (upto (gMo cs ts) mm k)))), (z3, .inl (G.2 2, 16, .inl (pj m2 (upto (gMo cs ts) mm k)))), (z4, .inl (G.2 2, 16, .inl (pj m3 (upto (gMo cs ts) mm k)))), (z5, .inl (G.2 2, 16, .inl (upd (pj m4 (upto (gMo cs ts) mm k)) k (mhH ((pj m0 (upto (gMo cs ts) mm k)) k) ((pj m1 (upto (gMo cs ts) mm k)) k) ((pj m4 (upto (gMo cs ts) mm k)) k) cs)))), (z6, .inl (G.2 3, 16, .inl (upd (pj m5 (upto (gMo cs ts) mm k)) k 1))), (z8, .inl (G.2 3, 20, .inl (pj q1 cc))), (z9, .inl (G.2 3, 20, .inl (pj q2 cc))), (z10, .inl (G.2 3, 20, .inl (pj q3 cc))), (z11, .inl (G.2 3, 20, .inl (pj q4 cc))), (z12, .inl (G.2 2, 20, .inl (pj q5 cc))), (z13, .inl (G.2 2, 20, .inl (pj q6 cc))), (z14, .inl (G.2 3, 20, .inl (pj q7 cc))), (z15, .inl (G.2 2, 20, .inl (pj q8 cc))), (z16, .inl (G.2 2, 20, .inl (pj q9 cc)))] := hD
            refine lv_if_eq (tgt := 121) hx hb d_MOD_cycle_107 (by decide) (fun c_107 => ?_) (fun c_107 => ?_)
            · simp only [pj_k, upto_self] at c_107
              refine lv_iinc (v := nI (k + 1)) (lv' := [(4, .int (nI (k + 1))), (5, .int 0), (0, .ref z0), (1, .int cs), (2, .int ts), (3, .int ac1)]) hx hb d_MOD_cycle_121 hl (k := 5) rfl (nI_succ _).symm (by decide) rfl (fun ls hl => ?_)
              refine lv_goto (tgt := 47) hx hb d_MOD_cycle_124 (by decide) ?_
              have e_fK : (pj m0 (upto (gMo cs ts) mm k)) = pj m0 (upto (gMo cs ts) mm (k + 1)) := pj_up (by first | (simp only [gMo, gMc, mhC, pj_k, upto_self, pk_us, bitF, m0, m1, m2, m3, m4, m5, q0, q1, q2, q3, q4, q5, q6, q7, q8, q9, c_14, c_26, c_53, c_63, c_86, c_107, if_true, if_false, reduceIte]; done) | (simp [gMo, gMc, mhC, pj_k, upto_self, pk_us, bitF, m0, m1, m2, m3, m4, m5, q0, q1, q2, q3, q4, q5, q6, q7, q8, q9, c_14, c_26, c_53, c_63, c_86, c_107]; done) | (simp_all [gMo, gMc, mhC, pj_k, upto_self, pk_us, bitF, m0, m1, m2, m3, m4, m5, q0, q1, q2, q3, q4, q5, q6, q7, q8, q9]; done))
              have e_fC : (pj m1 (upto (gMo cs ts) mm k)) = pj m1 (upto (gMo cs ts) mm (k + 1)) := pj_up (by first | (simp only [gMo, gMc, mhC, pj_k, upto_self, pk_us, bitF, m0, m1, m2, m3, m4, m5, q0, q1, q2, q3, q4, q5, q6, q7, q8, q9, c_14, c_26, c_53, c_63, c_86, c_107, if_true, if_false, reduceIte]; done) | (simp [gMo, gMc, mhC, pj_k, upto_self, pk_us, bitF, m0, m1, m2, m3, m4, m5, q0, q1, q2, q3, q4, q5, q6, q7, q8, q9, c_14, c_26, c_53, c_63, c_86, c_107]; done) | (simp_all [gMo, gMc, mhC, pj_k, upto_self, pk_us, bitF, m0, m1, m2, m3, m4, m5, q0, q1, q2, q3, q4, q5, q6, q7, q8, q9]; done))
              have e_fR : pj m2 (upto (gMo cs ts) mm k) = pj m2 (upto (gMo cs ts) mm (k + 1)) := pj_up (by first | (simp only [gMo, gMc, mhC, pj_k, upto_self, pk_us, bitF, m0, m1, m2, m3, m4, m5, q0, q1, q2, q3, q4, q5, q6, q7, q8, q9, c_14, c_26, c_53, c_63, c_86, c_107, if_true, if_false, reduceIte]; done) | (simp [gMo, gMc, mhC, pj_k, upto_self, pk_us, bitF, m0, m1, m2, m3, m4, m5, q0, q1, q2, q3, q4, q5, q6, q7, q8, q9, c_14, c_26, c_53, c_63, c_86, c_107]; done) | (simp_all [gMo, gMc, mhC, pj_k, upto_self, pk_us, bitF, m0, m1, m2, m3, m4, m5, q0, q1, q2, q3, q4, q5, q6, q7, q8, q9]; done))
              have e_fH : pj m3 (upto (gMo cs ts) mm k) = pj m3 (upto (gMo cs ts) mm (k + 1)) := pj_up (by first | (simp only [gMo, gMc, mhC, pj_k, upto_self, pk_us, bitF, m0, m1, m2, m3, m4, m5, q0, q1, q2, q3, q4, q5, q6, q7, q8, q9, c_14, c_26, c_53, c_63, c_86, c_107, if_true, if_false, reduceIte]; done) | (simp [gMo, gMc, mhC, pj_k, upto_self, pk_us, bitF, m0, m1, m2, m3, m4, m5, q0, q1, q2, q3, q4, q5, q6, q7, q8, q9, c_14, c_26, c_53, c_63, c_86, c_107]; done) | (simp_all [gMo, gMc, mhC, pj_k, upto_self, pk_us, bitF, m0, m1, m2, m3, m4, m5, q0, q1, q2, q3, q4, q5, q6, q7, q8, q9]; done))
              have e_fE : upd (pj m4 (upto (gMo cs ts) mm k)) k (mhH ((pj m0 (upto (gMo cs ts) mm k)) k) ((pj m1 (upto (gMo cs ts) mm k)) k) ((pj m4 (upto (gMo cs ts) mm k)) k) cs) = pj m4 (upto (gMo cs ts) mm (k + 1)) := pj_upd (by first | (simp only [gMo, gMc, mhC, pj_k, upto_self, pk_us, bitF, m0, m1, m2, m3, m4, m5, q0, q1, q2, q3, q4, q5, q6, q7, q8, q9, c_14, c_26, c_53, c_63, c_86, c_107, if_true, if_false, reduceIte]; done) | (simp [gMo, gMc, mhC, pj_k, upto_self, pk_us, bitF, m0, m1, m2, m3, m4, m5, q0, q1, q2, q3, q4, q5, q6, q7, q8, q9, c_14, c_26, c_53, c_63, c_86, c_107]; done) | (simp_all [gMo, gMc, mhC, pj_k, upto_self, pk_us, bitF, m0, m1, m2, m3, m4, m5, q0, q1, q2, q3, q4, q5, q6, q7, q8, q9]; done))
              have e_fY : upd (pj m5 (upto (gMo cs ts) mm k)) k 1 = pj m5 (upto (gMo cs ts) mm (k + 1)) := pj_upd (by first | (simp only [gMo, gMc, mhC, pj_k, upto_self, pk_us, bitF, m0, m1, m2, m3, m4, m5, q0, q1, q2, q3, q4, q5, q6, q7, q8, q9, c_14, c_26, c_53, c_63, c_86, c_107, if_true, if_false, reduceIte]; done) | (simp [gMo, gMc, mhC, pj_k, upto_self, pk_us, bitF, m0, m1, m2, m3, m4, m5, q0, q1, q2, q3, q4, q5, q6, q7, q8, q9, c_14, c_26, c_53, c_63, c_86, c_107]; done) | (simp_all [gMo, gMc, mhC, pj_k, upto_self, pk_us, bitF, m0, m1, m2, m3, m4, m5, q0, q1, q2, q3, q4, q5, q6, q7, q8, q9]; done))
              rw [e_fE, e_fY, e_fC, e_fH, e_fK, e_fR] at hP hD
              exact ih ((k + 1), ac1) _ _ _ ⟨hk, by simp [mcntM, mhC, hac, c_14, c_26, c_53, c_63, c_86, c_107], hP, hD, hS, lv_sub hl [2, 3, 4, 5, 0] rfl⟩ (by show nM - (k + 1) < nM - k; omega)
            · simp only [pj_k, upto_self] at c_107
              refine lv_aload_n hx hb d_MOD_cycle_110 rfl (lv_at hl 1 rfl) ?_
              refine lv_iload hx hb d_MOD_cycle_111 (lv_at hl 5 rfl) ?_
              refine lv_iload hx hb d_MOD_cycle_113 (lv_at hl 0 rfl) ?_
              have hPc := hP.sub (ws' := [(z0, .inr (6, [.int 0, .int (nI nM), .ref z1, .ref z2, .ref z3, .ref z4, .ref z5, .ref z6, .int (nI nC), .ref z7, .ref z8, .ref z9, .ref z10, .ref z11, .ref z12, .ref z13, .ref z14, .ref z15, .ref z16, .int (cyc + 1), .int li, .long me, .long mi, .int (nI sn), .ref z17])), (z3, .inl (G.2 2, 16, .inl (pj m2 (upto (gMo cs ts) mm k)))), (z4, .inl (G.2 2, 16, .inl (pj m3 (upto (gMo cs ts) mm k))))]) [0, 3, 4] rfl
              have hDc := hD.sub (ws' := [(z0, .inr (6, [.int 0, .int (nI nM), .ref z1, .ref z2, .ref z3, .ref z4, .ref z5, .ref z6, .int (nI nC), .ref z7, .ref z8, .ref z9, .ref z10, .ref z11, .ref z12, .ref z13, .ref z14, .ref z15, .ref z16, .int (cyc + 1), .int li, .long me, .long mi, .int (nI sn), .ref z17])), (z3, .inl (G.2 2, 16, .inl (pj m2 (upto (gMo cs ts) mm k)))), (z4, .inl (G.2 2, 16, .inl (pj m3 (upto (gMo cs ts) mm k))))]) [0, 3, 4] (by decide) rfl
              refine bx_callKv [0, 3, 4] (va_runV (As := [.int (nI k), .int 0]) (rest := []) ⟨hx, hb, hml, hown, hts⟩ (c_mcount l G H.size z0 z1 z2 z3 z4 z5 z6 z7 z8 z9 z10 z11 z12 z13 z14 z15 z16 z17 0 (cyc + 1) li nM nC sn me mi (pj m2 (upto (gMo cs ts) mm k)) (pj m3 (upto (gMo cs ts) mm k)) k 0 (by omega)) ⟨(callB_of 2 hts (gi_all wd_689) rfl rfl rfl (hT _ wd_51) (hT _ wd_686) (by decide +kernel) ⟨Nat.le_of_ble_eq_true rfl, Nat.le_of_ble_eq_true rfl⟩), (hT _ wd_688), (hT _ wd_34)⟩ (pvW hPc hGK hDc (va_recv hK hPc (ci := 6) (q0 := 0) rfl rfl)) rfl rfl hl.1 rfl (lv_room (Nat.le_of_ble_eq_true rfl)) d_MOD_cycle_115 ⟨Nat.le_of_ble_eq_true rfl, Nat.le_of_ble_eq_true rfl⟩) hP hD hS hA rfl rfl rfl (fun H locs hP hD hS => ?_)
              have hP : va_P G.1 vwCl [(z0, .inr (6, [.int 0, .int (nI nM), .ref z1, .ref z2, .ref z3, .ref z4, .ref z5, .ref z6, .int (nI nC), .ref z7, .ref z8, .ref z9, .ref z10, .ref z11, .ref z12, .ref z13, .ref z14, .ref z15, .ref z16, .int (cyc + 1), .int li, .long me, .long mi, .int (nI sn), .ref z17])), (z1, .inl (G.2 2, 16, .inl (pj m0 (upto (gMo cs ts) mm k)))), (z2, .inl (G.2 2, 16, .inl (pj m1 (upto (gMo cs ts) mm k)))), (z3, .inl (G.2 2, 16, .inl (upd (pj m2 (upto (gMo cs ts) mm k)) k (mcR ((pj m2 (upto (gMo cs ts) mm k)) k) ((pj m3 (upto (gMo cs ts) mm k)) k) 0)))), (z4, .inl (G.2 2, 16, .inl (upd (pj m3 (upto (gMo cs ts) mm k)) k (mcC ((pj m3 (upto (gMo cs ts) mm k)) k))))), (z5, .inl (G.2 2, 16, .inl (upd (pj m4 (upto (gMo cs ts) mm k)) k (mhH ((pj m0 (upto (gMo cs ts) mm k)) k) ((pj m1 (upto (gMo cs ts) mm k)) k) ((pj m4 (upto (gMo cs ts) mm k)) k) cs)))), (z6, .inl (G.2 3, 16, .inl (upd (pj m5 (upto (gMo cs ts) mm k)) k 1))), (z8, .inl (G.2 3, 20, .inl (pj q1 cc))), (z9, .inl (G.2 3, 20, .inl (pj q2 cc))), (z10, .inl (G.2 3, 20, .inl (pj q3 cc))), (z11, .inl (G.2 3, 20, .inl (pj q4 cc))), (z12, .inl (G.2 2, 20, .inl (pj q5 cc))), (z13, .inl (G.2 2, 20, .inl (pj q6 cc))), (z14, .inl (G.2 3, 20, .inl (pj q7 cc))), (z15, .inl (G.2 2, 20, .inl (pj q8 cc))), (z16, .inl (G.2 2, 20, .inl (pj q9 cc)))] H := hP
              have hD : va_D A [(z0, .inr (6, [.int 0, .int (nI nM), .ref z1, .ref z2, .ref z3, .ref z4, .ref z5, .ref z6, .int (nI nC), .ref z7, .ref z8, .ref z9, .ref z10, .ref z11, .ref z12, .ref z13, .ref z14, .ref z15, .ref z16, .int (cyc + 1), .int li, .long me, .long mi, .int (nI sn), .ref z17])), (z1, .inl (G.2 2, 16, .inl (pj m0 (upto (gMo cs ts) mm k)))), (z2, .inl (G.2 2, 16, .inl (pj m1 (upto (gMo cs ts) mm k)))), (z3, .inl (G.2 2, 16, .inl (upd (pj m2 (upto (gMo cs ts) mm k)) k (mcR ((pj m2 (upto (gMo cs ts) mm k)) k) ((pj m3 (upto (gMo cs ts) mm k)) k) 0)))), (z4, .inl (G.2 2, 16, .inl (upd (pj m3 (upto (gMo cs ts) mm k)) k (mcC ((pj m3 (upto (gMo cs ts) mm k)) k))))), (z5, .inl (G.2 2, 16, .inl (upd (pj m4 (upto (gMo cs ts) mm k)) k (mhH ((pj m0 (upto (gMo cs ts) mm k)) k) ((pj m1 (upto (gMo cs ts) mm k)) k) ((pj m4 (upto (gMo cs ts) mm k)) k) cs)))), (z6, .inl (G.2 3, 16, .inl (upd (pj m5 (upto (gMo cs ts) mm k)) k 1))), (z8, .inl (G.2 3, 20, .inl (pj q1 cc))), (z9, .inl (G.2 3, 20, .inl (pj q2 cc))), (z10, .inl (G.2 3, 20, .inl (pj q3 cc))), (z11, .inl (G.2 3, 20, .inl (pj q4 cc))), (z12, .inl (G.2 2, 20, .inl (pj q5 cc))), (z13, .inl (G.2 2, 20, .inl (pj q6 cc))), (z14, .inl (G.2 3, 20, .inl (pj q7 cc))), (z15, .inl (G.2 2, 20, .inl (pj q8 cc))), (z16, .inl (G.2 2, 20, .inl (pj q9 cc)))] := hD
              refine lv_iinc (v := ac1 + 1) (lv' := [(3, .int (ac1 + 1)), (5, .int 0), (0, .ref z0), (1, .int cs), (2, .int ts), (4, .int (nI k))]) hx hb d_MOD_cycle_118 hl (k := 4) rfl rfl (by decide) rfl (fun ls hl => ?_)
              refine lv_iinc (v := nI (k + 1)) (lv' := [(4, .int (nI (k + 1))), (3, .int (ac1 + 1)), (5, .int 0), (0, .ref z0), (1, .int cs), (2, .int ts)]) hx hb d_MOD_cycle_121 hl (k := 5) rfl (nI_succ _).symm (by decide) rfl (fun ls hl => ?_)
              refine lv_goto (tgt := 47) hx hb d_MOD_cycle_124 (by decide) ?_
              have e_fK : (pj m0 (upto (gMo cs ts) mm k)) = pj m0 (upto (gMo cs ts) mm (k + 1)) := pj_up (by first | (simp only [gMo, gMc, mhC, pj_k, upto_self, pk_us, bitF, m0, m1, m2, m3, m4, m5, q0, q1, q2, q3, q4, q5, q6, q7, q8, q9, c_14, c_26, c_53, c_63, c_86, c_107, if_true, if_false, reduceIte]; done) | (simp [gMo, gMc, mhC, pj_k, upto_self, pk_us, bitF, m0, m1, m2, m3, m4, m5, q0, q1, q2, q3, q4, q5, q6, q7, q8, q9, c_14, c_26, c_53, c_63, c_86, c_107]; done) | (simp_all [gMo, gMc, mhC, pj_k, upto_self, pk_us, bitF, m0, m1, m2, m3, m4, m5, q0, q1, q2, q3, q4, q5, q6, q7, q8, q9]; done))
              have e_fC : (pj m1 (upto (gMo cs ts) mm k)) = pj m1 (upto (gMo cs ts) mm (k + 1)) := pj_up (by first | (simp only [gMo, gMc, mhC, pj_k, upto_self, pk_us, bitF, m0, m1, m2, m3, m4, m5, q0, q1, q2, q3, q4, q5, q6, q7, q8, q9, c_14, c_26, c_53, c_63, c_86, c_107, if_true, if_false, reduceIte]; done) | (simp [gMo, gMc, mhC, pj_k, upto_self, pk_us, bitF, m0, m1, m2, m3, m4, m5, q0, q1, q2, q3, q4, q5, q6, q7, q8, q9, c_14, c_26, c_53, c_63, c_86, c_107]; done) | (simp_all [gMo, gMc, mhC, pj_k, upto_self, pk_us, bitF, m0, m1, m2, m3, m4, m5, q0, q1, q2, q3, q4, q5, q6, q7, q8, q9]; done))
              have e_fR : upd (pj m2 (upto (gMo cs ts) mm k)) k (mcR ((pj m2 (upto (gMo cs ts) mm k)) k) ((pj m3 (upto (gMo cs ts) mm k)) k) 0) = pj m2 (upto (gMo cs ts) mm (k + 1)) := pj_upd (by first | (simp only [gMo, gMc, mhC, pj_k, upto_self, pk_us, bitF, m0, m1, m2, m3, m4, m5, q0, q1, q2, q3, q4, q5, q6, q7, q8, q9, c_14, c_26, c_53, c_63, c_86, c_107, if_true, if_false, reduceIte]; done) | (simp [gMo, gMc, mhC, pj_k, upto_self, pk_us, bitF, m0, m1, m2, m3, m4, m5, q0, q1, q2, q3, q4, q5, q6, q7, q8, q9, c_14, c_26, c_53, c_63, c_86, c_107]; done) | (simp_all [gMo, gMc, mhC, pj_k, upto_self, pk_us, bitF, m0, m1, m2, m3, m4, m5, q0, q1, q2, q3, q4, q5, q6, q7, q8, q9]; done))
              have e_fH : upd (pj m3 (upto (gMo cs ts) mm k)) k (mcC ((pj m3 (upto (gMo cs ts) mm k)) k)) = pj m3 (upto (gMo cs ts) mm (k + 1)) := pj_upd (by first | (simp only [gMo, gMc, mhC, pj_k, upto_self, pk_us, bitF, m0, m1, m2, m3, m4, m5, q0, q1, q2, q3, q4, q5, q6, q7, q8, q9, c_14, c_26, c_53, c_63, c_86, c_107, if_true, if_false, reduceIte]; done) | (simp [gMo, gMc, mhC, pj_k, upto_self, pk_us, bitF, m0, m1, m2, m3, m4, m5, q0, q1, q2, q3, q4, q5, q6, q7, q8, q9, c_14, c_26, c_53, c_63, c_86, c_107]; done) | (simp_all [gMo, gMc, mhC, pj_k, upto_self, pk_us, bitF, m0, m1, m2, m3, m4, m5, q0, q1, q2, q3, q4, q5, q6, q7, q8, q9]; done))
              have e_fE : upd (pj m4 (upto (gMo cs ts) mm k)) k (mhH ((pj m0 (upto (gMo cs ts) mm k)) k) ((pj m1 (upto (gMo cs ts) mm k)) k) ((pj m4 (upto (gMo cs ts) mm k)) k) cs) = pj m4 (upto (gMo cs ts) mm (k + 1)) := pj_upd (by first | (simp only [gMo, gMc, mhC, pj_k, upto_self, pk_us, bitF, m0, m1, m2, m3, m4, m5, q0, q1, q2, q3, q4, q5, q6, q7, q8, q9, c_14, c_26, c_53, c_63, c_86, c_107, if_true, if_false, reduceIte]; done) | (simp [gMo, gMc, mhC, pj_k, upto_self, pk_us, bitF, m0, m1, m2, m3, m4, m5, q0, q1, q2, q3, q4, q5, q6, q7, q8, q9, c_14, c_26, c_53, c_63, c_86, c_107]; done) | (simp_all [gMo, gMc, mhC, pj_k, upto_self, pk_us, bitF, m0, m1, m2, m3, m4, m5, q0, q1, q2, q3, q4, q5, q6, q7, q8, q9]; done))
              have e_fY : upd (pj m5 (upto (gMo cs ts) mm k)) k 1 = pj m5 (upto (gMo cs ts) mm (k + 1)) := pj_upd (by first | (simp only [gMo, gMc, mhC, pj_k, upto_self, pk_us, bitF, m0, m1, m2, m3, m4, m5, q0, q1, q2, q3, q4, q5, q6, q7, q8, q9, c_14, c_26, c_53, c_63, c_86, c_107, if_true, if_false, reduceIte]; done) | (simp [gMo, gMc, mhC, pj_k, upto_self, pk_us, bitF, m0, m1, m2, m3, m4, m5, q0, q1, q2, q3, q4, q5, q6, q7, q8, q9, c_14, c_26, c_53, c_63, c_86, c_107]; done) | (simp_all [gMo, gMc, mhC, pj_k, upto_self, pk_us, bitF, m0, m1, m2, m3, m4, m5, q0, q1, q2, q3, q4, q5, q6, q7, q8, q9]; done))
              rw [e_fE, e_fH, e_fR, e_fY, e_fC, e_fK] at hP hD
              exact ih ((k + 1), ac1 + 1) _ _ _ ⟨hk, by simp [mcntM, mhC, hac, c_14, c_26, c_53, c_63, c_86, c_107], hP, hD, hS, lv_sub hl [3, 4, 5, 1, 0] rfl⟩ (by show nM - (k + 1) < nM - k; omega)
          · refine lv_iload hx hb d_MOD_cycle_89 (lv_at hl 0 rfl) ?_
            refine lv_if_eq (tgt := 98) hx hb d_MOD_cycle_91 (by decide) (fun c_91 => ?_) (fun c_91 => ?_)
            · refine lv_iconst (v := 0) hx hb d_MOD_cycle_98 (by decide) ?_
              refine va_zast hx hb hK hP hD hS 6 3 rfl rfl (vp_in_nI (by omega) (by omega)) d_MOD_cycle_99 (fun H locs hP hD hS => ?_)
              rw [nI_clamp (by omega), vn0] at hP hD
              have hP : va_P G.1 vwCl [(z0, .inr (6, [.int 0, .int (nI nM), .ref z1, .ref z2, .ref z3, .ref z4, .ref z5, .ref z6, .int (nI nC), .ref z7, .ref z8, .ref z9, .ref z10, .ref z11, .ref z12, .ref z13, .ref z14, .ref z15, .ref z16, .int (cyc + 1), .int li, .long me, .long mi, .int (nI sn), .ref z17])), (z1, .inl (G.2 2, 16, .inl (pj m0 (upto (gMo cs ts) mm k)))), (z2, .inl (G.2 2, 16, .inl (pj m1 (upto (gMo cs ts) mm k)))), (z3, .inl (G.2 2, 16, .inl (pj m2 (upto (gMo cs ts) mm k)))), (z4, .inl (G.2 2, 16, .inl (pj m3 (upto (gMo cs ts) mm k)))), (z5, .inl (G.2 2, 16, .inl (pj m4 (upto (gMo cs ts) mm k)))), (z6, .inl (G.2 3, 16, .inl (upd (pj m5 (upto (gMo cs ts) mm k)) k 0))), (z8, .inl (G.2 3, 20, .inl (pj q1 cc))), (z9, .inl (G.2 3, 20, .inl (pj q2 cc))), (z10, .inl (G.2 3, 20, .inl (pj q3 cc))), (z11, .inl (G.2 3, 20, .inl (pj q4 cc))), (z12, .inl (G.2 2, 20, .inl (pj q5 cc))), (z13, .inl (G.2 2, 20, .inl (pj q6 cc))), (z14, .inl (G.2 3, 20, .inl (pj q7 cc))), (z15, .inl (G.2 2, 20, .inl (pj q8 cc))), (z16, .inl (G.2 2, 20, .inl (pj q9 cc)))] H := hP
              have hD : va_D A [(z0, .inr (6, [.int 0, .int (nI nM), .ref z1, .ref z2, .ref z3, .ref z4, .ref z5, .ref z6, .int (nI nC), .ref z7, .ref z8, .ref z9, .ref z10, .ref z11, .ref z12, .ref z13, .ref z14, .ref z15, .ref z16, .int (cyc + 1), .int li, .long me, .long mi, .int (nI sn), .ref z17])), (z1, .inl (G.2 2, 16, .inl (pj m0 (upto (gMo cs ts) mm k)))), (z2, .inl (G.2 2, 16, .inl (pj m1 (upto (gMo cs ts) mm k)))), (z3, .inl (G.2 2, 16, .inl (pj m2 (upto (gMo cs ts) mm k)))), (z4, .inl (G.2 2, 16, .inl (pj m3 (upto (gMo cs ts) mm k)))), (z5, .inl (G.2 2, 16, .inl (pj m4 (upto (gMo cs ts) mm k)))), (z6, .inl (G.2 3, 16, .inl (upd (pj m5 (upto (gMo cs ts) mm k)) k 0))), (z8, .inl (G.2 3, 20, .inl (pj q1 cc))), (z9, .inl (G.2 3, 20, .inl (pj q2 cc))), (z10, .inl (G.2 3, 20, .inl (pj q3 cc))), (z11, .inl (G.2 3, 20, .inl (pj q4 cc))), (z12, .inl (G.2 2, 20, .inl (pj q5 cc))), (z13, .inl (G.2 2, 20, .inl (pj q6 cc))), (z14, .inl (G.2 3, 20, .inl (pj q7 cc))), (z15, .inl (G.2 2, 20, .inl (pj q8 cc))), (z16, .inl (G.2 2, 20, .inl (pj q9 cc)))] := hD
              refine lv_aload_n hx hb d_MOD_cycle_100 rfl (lv_at hl 1 rfl) ?_
              refine lv_iload hx hb d_MOD_cycle_101 (lv_at hl 5 rfl) ?_
              refine lv_iload_n hx hb d_MOD_cycle_103 rfl (lv_at hl 2 rfl) ?_
              have hPc := hP.sub (ws' := [(z0, .inr (6, [.int 0, .int (nI nM), .ref z1, .ref z2, .ref z3, .ref z4, .ref z5, .ref z6, .int (nI nC), .ref z7, .ref z8, .ref z9, .ref z10, .ref z11, .ref z12, .ref z13, .ref z14, .ref z15, .ref z16, .int (cyc + 1), .int li, .long me, .long mi, .int (nI sn), .ref z17])), (z1, .inl (G.2 2, 16, .inl (pj m0 (upto (gMo cs ts) mm k)))), (z2, .inl (G.2 2, 16, .inl (pj m1 (upto (gMo cs ts) mm k)))), (z5, .inl (G.2 2, 16, .inl (pj m4 (upto (gMo cs ts) mm k))))]) [0, 1, 2, 5] rfl
              have hDc := hD.sub (ws' := [(z0, .inr (6, [.int 0, .int (nI nM), .ref z1, .ref z2, .ref z3, .ref z4, .ref z5, .ref z6, .int (nI nC), .ref z7, .ref z8, .ref z9, .ref z10, .ref z11, .ref z12, .ref z13, .ref z14, .ref z15, .ref z16, .int (cyc + 1), .int li, .long me, .long mi, .int (nI sn), .ref z17])), (z1, .inl (G.2 2, 16, .inl (pj m0 (upto (gMo cs ts) mm k)))), (z2, .inl (G.2 2, 16, .inl (pj m1 (upto (gMo cs ts) mm k)))), (z5, .inl (G.2 2, 16, .inl (pj m4 (upto (gMo cs ts) mm k))))]) [0, 1, 2, 5] (by decide) rfl
              refine bx_callKr [0, 1, 2, 5] (va_runV (As := [.int (nI k), .int cs]) (rest := []) ⟨hx, hb, hml, hown, hts⟩ (c_mhasChance l G H.size z0 z1 z2 z3 z4 z5 z6 z7 z8 z9 z10 z11 z12 z13 z14 z15 z16 z17 0 (cyc + 1) li nM nC sn me mi (pj m0 (upto (gMo cs ts) mm k)) (pj m1 (upto (gMo cs ts) mm k)) (pj m4 (upto (gMo cs ts) mm k)) k cs (by omega)) ⟨(callB_of 2 hts (gi_all wd_682) rfl rfl rfl (hT _ wd_51) (hT _ wd_679) (by decide +kernel) ⟨Nat.le_of_ble_eq_true rfl, Nat.le_of_ble_eq_true rfl⟩), (hT _ wd_681), (hT _ wd_33)⟩ (pvW hPc hGK hDc (va_recv hK hPc (ci := 6) (q0 := 0) rfl rfl)) rfl rfl hl.1 rfl (lv_room (Nat.le_of_ble_eq_true rfl)) d_MOD_cycle_104 ⟨Nat.le_of_ble_eq_true rfl, Nat.le_of_ble_eq_true rfl⟩) hP hD hS hA rfl rfl rfl (fun H locs hP hD hS => ?_)
              have hP : va_P G.1 vwCl [(z0, .inr (6, [.int 0, .int (nI nM), .ref z1, .ref z2, .ref z3, .ref z4, .ref z5, .ref z6, .int (nI nC), .ref z7, .ref z8, .ref z9, .ref z10, .ref z11, .ref z12, .ref z13, .ref z14, .ref z15, .ref z16, .int (cyc + 1), .int li, .long me, .long mi, .int (nI sn), .ref z17])), (z1, .inl (G.2 2, 16, .inl (pj m0 (upto (gMo cs ts) mm k)))), (z2, .inl (G.2 2, 16, .inl (pj m1 (upto (gMo cs ts) mm k)))), (z3, .inl (G.2 2, 16, .inl (pj m2 (upto (gMo cs ts) mm k)))), (z4, .inl (G.2 2, 16, .inl (pj m3 (upto (gMo cs ts) mm k)))), (z5, .inl (G.2 2, 16, .inl (upd (pj m4 (upto (gMo cs ts) mm k)) k (mhH ((pj m0 (upto (gMo cs ts) mm k)) k) ((pj m1 (upto (gMo cs ts) mm k)) k) ((pj m4 (upto (gMo cs ts) mm k)) k) cs)))), (z6, .inl (G.2 3, 16, .inl (upd (pj m5 (upto (gMo cs ts) mm k)) k 0))), (z8, .inl (G.2 3, 20, .inl (pj q1 cc))), (z9, .inl (G.2 3, 20, .inl (pj q2 cc))), (z10, .inl (G.2 3, 20, .inl (pj q3 cc))), (z11, .inl (G.2 3, 20, .inl (pj q4 cc))), (z12, .inl (G.2 2, 20, .inl (pj q5 cc))), (z13, .inl (G.2 2, 20, .inl (pj q6 cc))), (z14, .inl (G.2 3, 20, .inl (pj q7 cc))), (z15, .inl (G.2 2, 20, .inl (pj q8 cc))), (z16, .inl (G.2 2, 20, .inl (pj q9 cc)))] H := hP
              have hD : va_D A [(z0, .inr (6, [.int 0, .int (nI nM), .ref z1, .ref z2, .ref z3, .ref z4, .ref z5, .ref z6, .int (nI nC), .ref z7, .ref z8, .ref z9, .ref z10, .ref z11, .ref z12, .ref z13, .ref z14, .ref z15, .ref z16, .int (cyc + 1), .int li, .long me, .long mi, .int (nI sn), .ref z17])), (z1, .inl (G.2 2, 16, .inl (pj m0 (upto (gMo cs ts) mm k)))), (z2, .inl (G.2 2, 16, .inl (pj m1 (upto (gMo cs ts) mm k)))), (z3, .inl (G.2 2, 16, .inl (pj m2 (upto (gMo cs ts) mm k)))), (z4, .inl (G.2 2, 16, .inl (pj m3 (upto (gMo cs ts) mm k)))), (z5, .inl (G.2 2, 16, .inl (upd (pj m4 (upto (gMo cs ts) mm k)) k (mhH ((pj m0 (upto (gMo cs ts) mm k)) k) ((pj m1 (upto (gMo cs ts) mm k)) k) ((pj m4 (upto (gMo cs ts) mm k)) k) cs)))), (z6, .inl (G.2 3, 16, .inl (upd (pj m5 (upto (gMo cs ts) mm k)) k 0))), (z8, .inl (G.2 3, 20, .inl (pj q1 cc))), (z9, .inl (G.2 3, 20, .inl (pj q2 cc))), (z10, .inl (G.2 3, 20, .inl (pj q3 cc))), (z11, .inl (G.2 3, 20, .inl (pj q4 cc))), (z12, .inl (G.2 2, 20, .inl (pj q5 cc))), (z13, .inl (G.2 2, 20, .inl (pj q6 cc))), (z14, .inl (G.2 3, 20, .inl (pj q7 cc))), (z15, .inl (G.2 2, 20, .inl (pj q8 cc))), (z16, .inl (G.2 2, 20, .inl (pj q9 cc)))] := hD
              refine lv_if_eq (tgt := 121) hx hb d_MOD_cycle_107 (by decide) (fun c_107 => ?_) (fun c_107 => ?_)
              · simp only [pj_k, upto_self] at c_107
                refine lv_iinc (v := nI (k + 1)) (lv' := [(4, .int (nI (k + 1))), (5, .int 0), (0, .ref z0), (1, .int cs), (2, .int ts), (3, .int ac1)]) hx hb d_MOD_cycle_121 hl (k := 5) rfl (nI_succ _).symm (by decide) rfl (fun ls hl => ?_)
                refine lv_goto (tgt := 47) hx hb d_MOD_cycle_124 (by decide) ?_
                have e_fK : (pj m0 (upto (gMo cs ts) mm k)) = pj m0 (upto (gMo cs ts) mm (k + 1)) := pj_up (by first | (simp only [gMo, gMc, mhC, pj_k, upto_self, pk_us, bitF, m0, m1, m2, m3, m4, m5, q0, q1, q2, q3, q4, q5, q6, q7, q8, q9, c_14, c_26, c_53, c_63, c_86, c_107, if_true, if_false, reduceIte]; done) | (simp [gMo, gMc, mhC, pj_k, upto_self, pk_us, bitF, m0, m1, m2, m3, m4, m5, q0, q1, q2, q3, q4, q5, q6, q7, q8, q9, c_14, c_26, c_53, c_63, c_86, c_107]; done) | (simp_all [gMo, gMc, mhC, pj_k, upto_self, pk_us, bitF, m0, m1, m2, m3, m4, m5, q0, q1, q2, q3, q4, q5, q6, q7, q8, q9]; done))
                have e_fC : (pj m1 (upto (gMo cs ts) mm k)) = pj m1 (upto (gMo cs ts) mm (k + 1)) := pj_up (by first | (simp only [gMo, gMc, mhC, pj_k, upto_self, pk_us, bitF, m0, m1, m2, m3, m4, m5, q0, q1, q2, q3, q4, q5, q6, q7, q8, q9, c_14, c_26, c_53, c_63, c_86, c_107, if_true, if_false, reduceIte]; done) | (simp [gMo, gMc, mhC, pj_k, upto_self, pk_us, bitF, m0, m1, m2, m3, m4, m5, q0, q1, q2, q3, q4, q5, q6, q7, q8, q9, c_14, c_26, c_53, c_63, c_86, c_107]; done) | (simp_all [gMo, gMc, mhC, pj_k, upto_self, pk_us, bitF, m0, m1, m2, m3, m4, m5, q0, q1, q2, q3, q4, q5, q6, q7, q8, q9]; done))
                have e_fR : pj m2 (upto (gMo cs ts) mm k) = pj m2 (upto (gMo cs ts) mm (k + 1)) := pj_up (by first | (simp only [gMo, gMc, mhC, pj_k, upto_self, pk_us, bitF, m0, m1, m2, m3, m4, m5, q0, q1, q2, q3, q4, q5, q6, q7, q8, q9, c_14, c_26, c_53, c_63, c_86, c_107, if_true, if_false, reduceIte]; done) | (simp [gMo, gMc, mhC, pj_k, upto_self, pk_us, bitF, m0, m1, m2, m3, m4, m5, q0, q1, q2, q3, q4, q5, q6, q7, q8, q9, c_14, c_26, c_53, c_63, c_86, c_107]; done) | (simp_all [gMo, gMc, mhC, pj_k, upto_self, pk_us, bitF, m0, m1, m2, m3, m4, m5, q0, q1, q2, q3, q4, q5, q6, q7, q8, q9]; done))
                have e_fH : pj m3 (upto (gMo cs ts) mm k) = pj m3 (upto (gMo cs ts) mm (k + 1)) := pj_up (by first | (simp only [gMo, gMc, mhC, pj_k, upto_self, pk_us, bitF, m0, m1, m2, m3, m4, m5, q0, q1, q2, q3, q4, q5, q6, q7, q8, q9, c_14, c_26, c_53, c_63, c_86, c_107, if_true, if_false, reduceIte]; done) | (simp [gMo, gMc, mhC, pj_k, upto_self, pk_us, bitF, m0, m1, m2, m3, m4, m5, q0, q1, q2, q3, q4, q5, q6, q7, q8, q9, c_14, c_26, c_53, c_63, c_86, c_107]; done) | (simp_all [gMo, gMc, mhC, pj_k, upto_self, pk_us, bitF, m0, m1, m2, m3, m4, m5, q0, q1, q2, q3, q4, q5, q6, q7, q8, q9]; done))
                have e_fE : upd (pj m4 (upto (gMo cs ts) mm k)) k (mhH ((pj m0 (upto (gMo cs ts) mm k)) k) ((pj m1 (upto (gMo cs ts) mm k)) k) ((pj m4 (upto (gMo cs ts) mm k)) k) cs) = pj m4 (upto (gMo cs ts) mm (k + 1)) := pj_upd (by first | (simp only [gMo, gMc, mhC, pj_k, upto_self, pk_us, bitF, m0, m1, m2, m3, m4, m5, q0, q1, q2, q3, q4, q5, q6, q7, q8, q9, c_14, c_26, c_53, c_63, c_86, c_107, if_true, if_false, reduceIte]; done) | (simp [gMo, gMc, mhC, pj_k, upto_self, pk_us, bitF, m0, m1, m2, m3, m4, m5, q0, q1, q2, q3, q4, q5, q6, q7, q8, q9, c_14, c_26, c_53, c_63, c_86, c_107]; done) | (simp_all [gMo, gMc, mhC, pj_k, upto_self, pk_us, bitF, m0, m1, m2, m3, m4, m5, q0, q1, q2, q3, q4, q5, q6, q7, q8, q9]; done))
                have e_fY : upd (pj m5 (upto (gMo cs ts) mm k)) k 0 = pj m5 (upto (gMo cs ts) mm (k + 1)) := pj_upd (by first | (simp only [gMo, gMc, mhC, pj_k, upto_self, pk_us, bitF, m0, m1, m2, m3, m4, m5, q0, q1, q2, q3, q4, q5, q6, q7, q8, q9, c_14, c_26, c_53, c_63, c_86, c_107, if_true, if_false, reduceIte]; done) | (simp [gMo, gMc, mhC, pj_k, upto_self, pk_us, bitF, m0, m1, m2, m3, m4, m5, q0, q1, q2, q3, q4, q5, q6, q7, q8, q9, c_14, c_26, c_53, c_63, c_86, c_107]; done) | (simp_all [gMo, gMc, mhC, pj_k, upto_self, pk_us, bitF, m0, m1, m2, m3, m4, m5, q0, q1, q2, q3, q4, q5, q6, q7, q8, q9]; done))
                rw [e_fE, e_fY, e_fC, e_fH, e_fK, e_fR] at hP hD
                exact ih ((k + 1), ac1) _ _ _ ⟨hk, by simp [mcntM, mhC, hac, c_14, c_26, c_53, c_63, c_86, c_107], hP, hD, hS, lv_sub hl [2, 3, 4, 5, 0] rfl⟩ (by show nM - (k + 1) < nM - k; omega)
              · simp only [pj_k, upto_self] at c_107
                refine lv_aload_n hx hb d_MOD_cycle_110 rfl (lv_at hl 1 rfl) ?_
                refine lv_iload hx hb d_MOD_cycle_111 (lv_at hl 5 rfl) ?_
                refine lv_iload hx hb d_MOD_cycle_113 (lv_at hl 0 rfl) ?_
                have hPc := hP.sub (ws' := [(z0, .inr (6, [.int 0, .int (nI nM), .ref z1, .ref z2, .ref z3, .ref z4, .ref z5, .ref z6, .int (nI nC), .ref z7, .ref z8, .ref z9, .ref z10, .ref z11, .ref z12, .ref z13, .ref z14, .ref z15, .ref z16, .int (cyc + 1), .int li, .long me, .long mi, .int (nI sn), .ref z17])), (z3, .inl (G.2 2, 16, .inl (pj m2 (upto (gMo cs ts) mm k)))), (z4, .inl (G.2 2, 16, .inl (pj m3 (upto (gMo cs ts) mm k))))]) [0, 3, 4] rfl
                have hDc := hD.sub (ws' := [(z0, .inr (6, [.int 0, .int (nI nM), .ref z1, .ref z2, .ref z3, .ref z4, .ref z5, .ref z6, .int (nI nC), .ref z7, .ref z8, .ref z9, .ref z10, .ref z11, .ref z12, .ref z13, .ref z14, .ref z15, .ref z16, .int (cyc + 1), .int li, .long me, .long mi, .int (nI sn), .ref z17])), (z3, .inl (G.2 2, 16, .inl (pj m2 (upto (gMo cs ts) mm k)))), (z4, .inl (G.2 2, 16, .inl (pj m3 (upto (gMo cs ts) mm k))))]) [0, 3, 4] (by decide) rfl
                refine bx_callKv [0, 3, 4] (va_runV (As := [.int (nI k), .int 0]) (rest := []) ⟨hx, hb, hml, hown, hts⟩ (c_mcount l G H.size z0 z1 z2 z3 z4 z5 z6 z7 z8 z9 z10 z11 z12 z13 z14 z15 z16 z17 0 (cyc + 1) li nM nC sn me mi (pj m2 (upto (gMo cs ts) mm k)) (pj m3 (upto (gMo cs ts) mm k)) k 0 (by omega)) ⟨(callB_of 2 hts (gi_all wd_689) rfl rfl rfl (hT _ wd_51) (hT _ wd_686) (by decide +kernel) ⟨Nat.le_of_ble_eq_true rfl, Nat.le_of_ble_eq_true rfl⟩), (hT _ wd_688), (hT _ wd_34)⟩ (pvW hPc hGK hDc (va_recv hK hPc (ci := 6) (q0 := 0) rfl rfl)) rfl rfl hl.1 rfl (lv_room (Nat.le_of_ble_eq_true rfl)) d_MOD_cycle_115 ⟨Nat.le_of_ble_eq_true rfl, Nat.le_of_ble_eq_true rfl⟩) hP hD hS hA rfl rfl rfl (fun H locs hP hD hS => ?_)
                have hP : va_P G.1 vwCl [(z0, .inr (6, [.int 0, .int (nI nM), .ref z1, .ref z2, .ref z3, .ref z4, .ref z5, .ref z6, .int (nI nC), .ref z7, .ref z8, .ref z9, .ref z10, .ref z11, .ref z12, .ref z13, .ref z14, .ref z15, .ref z16, .int (cyc + 1), .int li, .long me, .long mi, .int (nI sn), .ref z17])), (z1, .inl (G.2 2, 16, .inl (pj m0 (upto (gMo cs ts) mm k)))), (z2, .inl (G.2 2, 16, .inl (pj m1 (upto (gMo cs ts) mm k)))), (z3, .inl (G.2 2, 16, .inl (upd (pj m2 (upto (gMo cs ts) mm k)) k (mcR ((pj m2 (upto (gMo cs ts) mm k)) k) ((pj m3 (upto (gMo cs ts) mm k)) k) 0)))), (z4, .inl (G.2 2, 16, .inl (upd (pj m3 (upto (gMo cs ts) mm k)) k (mcC ((pj m3 (upto (gMo cs ts) mm k)) k))))), (z5, .inl (G.2 2, 16, .inl (upd (pj m4 (upto (gMo cs ts) mm k)) k (mhH ((pj m0 (upto (gMo cs ts) mm k)) k) ((pj m1 (upto (gMo cs ts) mm k)) k) ((pj m4 (upto (gMo cs ts) mm k)) k) cs)))), (z6, .inl (G.2 3, 16, .inl (upd (pj m5 (upto (gMo cs ts) mm k)) k 0))), (z8, .inl (G.2 3, 20, .inl (pj q1 cc))), (z9, .inl (G.2 3, 20, .inl (pj q2 cc))), (z10, .inl (G.2 3, 20, .inl (pj q3 cc))), (z11, .inl (G.2 3, 20, .inl (pj q4 cc))), (z12, .inl (G.2 2, 20, .inl (pj q5 cc))), (z13, .inl (G.2 2, 20, .inl (pj q6 cc))), (z14, .inl (G.2 3, 20, .inl (pj q7 cc))), (z15, .inl (G.2 2, 20, .inl (pj q8 cc))), (z16, .inl (G.2 2, 20, .inl (pj q9 cc)))] H := hP
                have hD : va_D A [(z0, .inr (6, [.int 0, .int (nI nM), .ref z1, .ref z2, .ref z3, .ref z4, .ref z5, .ref z6, .int (nI nC), .ref z7, .ref z8, .ref z9, .ref z10, .ref z11, .ref z12, .ref z13, .ref z14, .ref z15, .ref z16, .int (cyc + 1), .int li, .long me, .long mi, .int (nI sn), .ref z17])), (z1, .inl (G.2 2, 16, .inl (pj m0 (upto (gMo cs ts) mm k)))), (z2, .inl (G.2 2, 16, .inl (pj m1 (upto (gMo cs ts) mm k)))), (z3, .inl (G.2 2, 16, .inl (upd (pj m2 (upto (gMo cs ts) mm k)) k (mcR ((pj m2 (upto (gMo cs ts) mm k)) k) ((pj m3 (upto (gMo cs ts) mm k)) k) 0)))), (z4, .inl (G.2 2, 16, .inl (upd (pj m3 (upto (gMo cs ts) mm k)) k (mcC ((pj m3 (upto (gMo cs ts) mm k)) k))))), (z5, .inl (G.2 2, 16, .inl (upd (pj m4 (upto (gMo cs ts) mm k)) k (mhH ((pj m0 (upto (gMo cs ts) mm k)) k) ((pj m1 (upto (gMo cs ts) mm k)) k) ((pj m4 (upto (gMo cs ts) mm k)) k) cs)))), (z6, .inl (G.2 3, 16, .inl (upd (pj m5 (upto (gMo cs ts) mm k)) k 0))), (z8, .inl (G.2 3, 20, .inl (pj q1 cc))), (z9, .inl (G.2 3, 20, .inl (pj q2 cc))), (z10, .inl (G.2 3, 20, .inl (pj q3 cc))), (z11, .inl (G.2 3, 20, .inl (pj q4 cc))), (z12, .inl (G.2 2, 20, .inl (pj q5 cc))), (z13, .inl (G.2 2, 20, .inl (pj q6 cc))), (z14, .inl (G.2 3, 20, .inl (pj q7 cc))), (z15, .inl (G.2 2, 20, .inl (pj q8 cc))), (z16, .inl (G.2 2, 20, .inl (pj q9 cc)))] := hD
                refine lv_iinc (v := ac1 + 1) (lv' := [(3, .int (ac1 + 1)), (5, .int 0), (0, .ref z0), (1, .int cs), (2, .int ts), (4, .int (nI k))]) hx hb d_MOD_cycle_118 hl (k := 4) rfl rfl (by decide) rfl (fun ls hl => ?_)
                refine lv_iinc (v := nI (k + 1)) (lv' := [(4, .int (nI (k + 1))), (3, .int (ac1 + 1)), (5, .int 0), (0, .ref z0), (1, .int cs), (2, .int ts)]) hx hb d_MOD_cycle_121 hl (k := 5) rfl (nI_succ _).symm (by decide) rfl (fun ls hl => ?_)
                refine lv_goto (tgt := 47) hx hb d_MOD_cycle_124 (by decide) ?_
                have e_fK : (pj m0 (upto (gMo cs ts) mm k)) = pj m0 (upto (gMo cs ts) mm (k + 1)) := pj_up (by first | (simp only [gMo, gMc, mhC, pj_k, upto_self, pk_us, bitF, m0, m1, m2, m3, m4, m5, q0, q1, q2, q3, q4, q5, q6, q7, q8, q9, c_14, c_26, c_53, c_63, c_86, c_107, if_true, if_false, reduceIte]; done) | (simp [gMo, gMc, mhC, pj_k, upto_self, pk_us, bitF, m0, m1, m2, m3, m4, m5, q0, q1, q2, q3, q4, q5, q6, q7, q8, q9, c_14, c_26, c_53, c_63, c_86, c_107]; done) | (simp_all [gMo, gMc, mhC, pj_k, upto_self, pk_us, bitF, m0, m1, m2, m3, m4, m5, q0, q1, q2, q3, q4, q5, q6, q7, q8, q9]; done))
                have e_fC : (pj m1 (upto (gMo cs ts) mm k)) = pj m1 (upto (gMo cs ts) mm (k + 1)) := pj_up (by first | (simp only [gMo, gMc, mhC, pj_k, upto_self, pk_us, bitF, m0, m1, m2, m3, m4, m5, q0, q1, q2, q3, q4, q5, q6, q7, q8, q9, c_14, c_26, c_53, c_63, c_86, c_107, if_true, if_false, reduceIte]; done) | (simp [gMo, gMc, mhC, pj_k, upto_self, pk_us, bitF, m0, m1, m2, m3, m4, m5, q0, q1, q2, q3, q4, q5, q6, q7, q8, q9, c_14, c_26, c_53, c_63, c_86, c_107]; done) | (simp_all [gMo, gMc, mhC, pj_k, upto_self, pk_us, bitF, m0, m1, m2, m3, m4, m5, q0, q1, q2, q3, q4, q5, q6, q7, q8, q9]; done))
                have e_fR : upd (pj m2 (upto (gMo cs ts) mm k)) k (mcR ((pj m2 (upto (gMo cs ts) mm k)) k) ((pj m3 (upto (gMo cs ts) mm k)) k) 0) = pj m2 (upto (gMo cs ts) mm (k + 1)) := pj_upd (by first | (simp only [gMo, gMc, mhC, pj_k, upto_self, pk_us, bitF, m0, m1, m2, m3, m4, m5, q0, q1, q2, q3, q4, q5, q6, q7, q8, q9, c_14, c_26, c_53, c_63, c_86, c_107, if_true, if_false, reduceIte]; done) | (simp [gMo, gMc, mhC, pj_k, upto_self, pk_us, bitF, m0, m1, m2, m3, m4, m5, q0, q1, q2, q3, q4, q5, q6, q7, q8, q9, c_14, c_26, c_53, c_63, c_86, c_107]; done) | (simp_all [gMo, gMc, mhC, pj_k, upto_self, pk_us, bitF, m0, m1, m2, m3, m4, m5, q0, q1, q2, q3, q4, q5, q6, q7, q8, q9]; done))
                have e_fH : upd (pj m3 (upto (gMo cs ts) mm k)) k (mcC ((pj m3 (upto (gMo cs ts) mm k)) k)) = pj m3 (upto (gMo cs ts) mm (k + 1)) := pj_upd (by first | (simp only [gMo, gMc, mhC, pj_k, upto_self, pk_us, bitF, m0, m1, m2, m3, m4, m5, q0, q1, q2, q3, q4, q5, q6, q7, q8, q9, c_14, c_26, c_53, c_63, c_86, c_107, if_true, if_false, reduceIte]; done) | (simp [gMo, gMc, mhC, pj_k, upto_self, pk_us, bitF, m0, m1, m2, m3, m4, m5, q0, q1, q2, q3, q4, q5, q6, q7, q8, q9, c_14, c_26, c_53, c_63, c_86, c_107]; done) | (simp_all [gMo, gMc, mhC, pj_k, upto_self, pk_us, bitF, m0, m1, m2, m3, m4, m5, q0, q1, q2, q3, q4, q5, q6, q7, q8, q9]; done))
                have e_fE : upd (pj m4 (upto (gMo cs ts) mm k)) k (mhH ((pj m0 (upto (gMo cs ts) mm k)) k) ((pj m1 (upto (gMo cs ts) mm k)) k) ((pj m4 (upto (gMo cs ts) mm k)) k) cs) = pj m4 (upto (gMo cs ts) mm (k + 1)) := pj_upd (by first | (simp only [gMo, gMc, mhC, pj_k, upto_self, pk_us, bitF, m0, m1, m2, m3, m4, m5, q0, q1, q2, q3, q4, q5, q6, q7, q8, q9, c_14, c_26, c_53, c_63, c_86, c_107, if_true, if_false, reduceIte]; done) | (simp [gMo, gMc, mhC, pj_k, upto_self, pk_us, bitF, m0, m1, m2, m3, m4, m5, q0, q1, q2, q3, q4, q5, q6, q7, q8, q9, c_14, c_26, c_53, c_63, c_86, c_107]; done) | (simp_all [gMo, gMc, mhC, pj_k, upto_self, pk_us, bitF, m0, m1, m2, m3, m4, m5, q0, q1, q2, q3, q4, q5, q6, q7, q8, q9]; done))
                have e_fY : upd (pj m5 (upto (gMo cs ts) mm k)) k 0 = pj m5 (upto (gMo cs ts) mm (k + 1)) := pj_upd (by first | (simp only [gMo, gMc, mhC, pj_k, upto_self, pk_us, bitF, m0, m1, m2, m3, m4, m5, q0, q1, q2, q3, q4, q5, q6, q7, q8, q9, c_14, c_26, c_53, c_63, c_86, c_107, if_true, if_false, reduceIte]; done) | (simp [gMo, gMc, mhC, pj_k, upto_self, pk_us, bitF, m0, m1, m2, m3, m4, m5, q0, q1, q2, q3, q4, q5, q6, q7, q8, q9, c_14, c_26, c_53, c_63, c_86, c_107]; done) | (simp_all [gMo, gMc, mhC, pj_k, upto_self, pk_us, bitF, m0, m1, m2, m3, m4, m5, q0, q1, q2, q3, q4, q5, q6, q7, q8, q9]; done))
                rw [e_fE, e_fH, e_fR, e_fY, e_fC, e_fK] at hP hD
                exact ih ((k + 1), ac1 + 1) _ _ _ ⟨hk, by simp [mcntM, mhC, hac, c_14, c_26, c_53, c_63, c_86, c_107], hP, hD, hS, lv_sub hl [3, 4, 5, 1, 0] rfl⟩ (by show nM - (k + 1) < nM - k; omega)
            · exact absurd c_91 (by decide)
        · refine lv_iconst (v := 1) hx hb d_MOD_cycle_66 (by decide) ?_
          refine lv_goto (tgt := 71) hx hb d_MOD_cycle_67 (by decide) ?_
          refine lv_istore (lv' := [(5, .int 1), (0, .ref z0), (1, .int cs), (2, .int ts), (3, .int ac1), (4, .int (nI k))]) hx hb d_MOD_cycle_71 hl (by decide) rfl (fun ls hl => ?_)
          refine lv_aload_n hx hb d_MOD_cycle_73 rfl (lv_at hl 1 rfl) ?_
          refine va_get (D := G.1) (ci := 6) (v := .ref z6) (C := R_MOD) (T := T_MOD) (N := 25) hx hb hT in_MOD hown hK hP 0 rfl rfl 7 (by decide) (hT _ wd_589) (fun _ h9 => h9) rfl d_MOD_cycle_74 ?_
          refine lv_iload hx hb d_MOD_cycle_77 (lv_at hl 5 rfl) ?_
          refine lv_aload_n hx hb d_MOD_cycle_79 rfl (lv_at hl 1 rfl) ?_
          refine va_get (D := G.1) (ci := 6) (v := .ref z6) (C := R_MOD) (T := T_MOD) (N := 25) hx hb hT in_MOD hown hK hP 0 rfl rfl 7 (by decide) (hT _ wd_589) (fun _ h9 => h9) rfl d_MOD_cycle_80 ?_
          refine lv_iload hx hb d_MOD_cycle_83 (lv_at hl 5 rfl) ?_
          refine va_zald hx hb hK hP 6 3 rfl rfl (vp_in_nI (by omega) (by omega)) d_MOD_cycle_85 ?_
          refine W.eq (g2 := F0 m 86 ls (.int (m5 (mm k)) :: [.int (nI k), .ref z6])) (by rw [nI_clamp (by omega), pj_k, upto_self]) ?_
          refine lv_if_ne (tgt := 94) hx hb d_MOD_cycle_86 (by decide) (fun c_86 => ?_) (fun c_86 => ?_)
          · refine lv_iconst (v := 1) hx hb d_MOD_cycle_94 (by decide) ?_
            refine lv_goto (tgt := 99) hx hb d_MOD_cycle_95 (by decide) ?_
            refine va_zast hx hb hK hP hD hS 6 3 rfl rfl (vp_in_nI (by omega) (by omega)) d_MOD_cycle_99 (fun H locs hP hD hS => ?_)
            rw [nI_clamp (by omega), vn1] at hP hD
            have hP : va_P G.1 vwCl [(z0, .inr (6, [.int 0, .int (nI nM), .ref z1, .ref z2, .ref z3, .ref z4, .ref z5, .ref z6, .int (nI nC), .ref z7, .ref z8, .ref z9, .ref z10, .ref z11, .ref z12, .ref z13, .ref z14, .ref z15, .ref z16, .int (cyc + 1), .int li, .long me, .long mi, .int (nI sn), .ref z17])), (z1, .inl (G.2 2, 16, .inl (pj m0 (upto (gMo cs ts) mm k)))), (z2, .inl (G.2 2, 16, .inl (pj m1 (upto (gMo cs ts) mm k)))), (z3, .inl (G.2 2, 16, .inl (pj m2 (upto (gMo cs ts) mm k)))), (z4, .inl (G.2 2, 16, .inl (pj m3 (upto (gMo cs ts) mm k)))), (z5, .inl (G.2 2, 16, .inl (pj m4 (upto (gMo cs ts) mm k)))), (z6, .inl (G.2 3, 16, .inl (upd (pj m5 (upto (gMo cs ts) mm k)) k 1))), (z8, .inl (G.2 3, 20, .inl (pj q1 cc))), (z9, .inl (G.2 3, 20, .inl (pj q2 cc))), (z10, .inl (G.2 3, 20, .inl (pj q3 cc))), (z11, .inl (G.2 3, 20, .inl (pj q4 cc))), (z12, .inl (G.2 2, 20, .inl (pj q5 cc))), (z13, .inl (G.2 2, 20, .inl (pj q6 cc))), (z14, .inl (G.2 3, 20, .inl (pj q7 cc))), (z15, .inl (G.2 2, 20, .inl (pj q8 cc))), (z16, .inl (G.2 2, 20, .inl (pj q9 cc)))] H := hP
            have hD : va_D A [(z0, .inr (6, [.int 0, .int (nI nM), .ref z1, .ref z2, .ref z3, .ref z4, .ref z5, .ref z6, .int (nI nC), .ref z7, .ref z8, .ref z9, .ref z10, .ref z11, .ref z12, .ref z13, .ref z14, .ref z15, .ref z16, .int (cyc + 1), .int li, .long me, .long mi, .int (nI sn), .ref z17])), (z1, .inl (G.2 2, 16, .inl (pj m0 (upto (gMo cs ts) mm k)))), (z2, .inl (G.2 2, 16, .inl (pj m1 (upto (gMo cs ts) mm k)))), (z3, .inl (G.2 2, 16, .inl (pj m2 (upto (gMo cs ts) mm k)))), (z4, .inl (G.2 2, 16, .inl (pj m3 (upto (gMo cs ts) mm k)))), (z5, .inl (G.2 2, 16, .inl (pj m4 (upto (gMo cs ts) mm k)))), (z6, .inl (G.2 3, 16, .inl (upd (pj m5 (upto (gMo cs ts) mm k)) k 1))), (z8, .inl (G.2 3, 20, .inl (pj q1 cc))), (z9, .inl (G.2 3, 20, .inl (pj q2 cc))), (z10, .inl (G.2 3, 20, .inl (pj q3 cc))), (z11, .inl (G.2 3, 20, .inl (pj q4 cc))), (z12, .inl (G.2 2, 20, .inl (pj q5 cc))), (z13, .inl (G.2 2, 20, .inl (pj q6 cc))), (z14, .inl (G.2 3, 20, .inl (pj q7 cc))), (z15, .inl (G.2 2, 20, .inl (pj q8 cc))), (z16, .inl (G.2 2, 20, .inl (pj q9 cc)))] := hD
            refine lv_aload_n hx hb d_MOD_cycle_100 rfl (lv_at hl 1 rfl) ?_
            refine lv_iload hx hb d_MOD_cycle_101 (lv_at hl 5 rfl) ?_
            refine lv_iload_n hx hb d_MOD_cycle_103 rfl (lv_at hl 2 rfl) ?_
            have hPc := hP.sub (ws' := [(z0, .inr (6, [.int 0, .int (nI nM), .ref z1, .ref z2, .ref z3, .ref z4, .ref z5, .ref z6, .int (nI nC), .ref z7, .ref z8, .ref z9, .ref z10, .ref z11, .ref z12, .ref z13, .ref z14, .ref z15, .ref z16, .int (cyc + 1), .int li, .long me, .long mi, .int (nI sn), .ref z17])), (z1, .inl (G.2 2, 16, .inl (pj m0 (upto (gMo cs ts) mm k)))), (z2, .inl (G.2 2, 16, .inl (pj m1 (upto (gMo cs ts) mm k)))), (z5, .inl (G.2 2, 16, .inl (pj m4 (upto (gMo cs ts) mm k))))]) [0, 1, 2, 5] rfl
            have hDc := hD.sub (ws' := [(z0, .inr (6, [.int 0, .int (nI nM), .ref z1, .ref z2, .ref z3, .ref z4, .ref z5, .ref z6, .int (nI nC), .ref z7, .ref z8, .ref z9, .ref z10, .ref z11, .ref z12, .ref z13, .ref z14, .ref z15, .ref z16, .int (cyc + 1), .int li, .long me, .long mi, .int (nI sn), .ref z17])), (z1, .inl (G.2 2, 16, .inl (pj m0 (upto (gMo cs ts) mm k)))), (z2, .inl (G.2 2, 16, .inl (pj m1 (upto (gMo cs ts) mm k)))), (z5, .inl (G.2 2, 16, .inl (pj m4 (upto (gMo cs ts) mm k))))]) [0, 1, 2, 5] (by decide) rfl
            refine bx_callKr [0, 1, 2, 5] (va_runV (As := [.int (nI k), .int cs]) (rest := []) ⟨hx, hb, hml, hown, hts⟩ (c_mhasChance l G H.size z0 z1 z2 z3 z4 z5 z6 z7 z8 z9 z10 z11 z12 z13 z14 z15 z16 z17 0 (cyc + 1) li nM nC sn me mi (pj m0 (upto (gMo cs ts) mm k)) (pj m1 (upto (gMo cs ts) mm k)) (pj m4 (upto (gMo cs ts) mm k)) k cs (by omega)) ⟨(callB_of 2 hts (gi_all wd_682) rfl rfl rfl (hT _ wd_51) (hT _ wd_679) (by decide +kernel) ⟨Nat.le_of_ble_eq_true rfl, Nat.le_of_ble_eq_true rfl⟩), (hT _ wd_681), (hT _ wd_33)⟩ (pvW hPc hGK hDc (va_recv hK hPc (ci := 6) (q0 := 0) rfl rfl)) rfl rfl hl.1 rfl (lv_room (Nat.le_of_ble_eq_true rfl)) d_MOD_cycle_104 ⟨Nat.le_of_ble_eq_true rfl, Nat.le_of_ble_eq_true rfl⟩) hP hD hS hA rfl rfl rfl (fun H locs hP hD hS => ?_)
            have hP : va_P G.1 vwCl [(z0, .inr (6, [.int 0, .int (nI nM), .ref z1, .ref z2, .ref z3, .ref z4, .ref z5, .ref z6, .int (nI nC), .ref z7, .ref z8, .ref z9, .ref z10, .ref z11, .ref z12, .ref z13, .ref z14, .ref z15, .ref z16, .int (cyc + 1), .int li, .long me, .long mi, .int (nI sn), .ref z17])), (z1, .inl (G.2 2, 16, .inl (pj m0 (upto (gMo cs ts) mm k)))), (z2, .inl (G.2 2, 16, .inl (pj m1 (upto (gMo cs ts) mm k)))), (z3, .inl (G.2 2, 16, .inl (pj m2 (upto (gMo cs ts) mm k)))), (z4, .inl (G.2 2, 16, .inl (pj m3 (upto (gMo cs ts) mm k)))), (z5, .inl (G.2 2, 16, .inl (upd (pj m4 (upto (gMo cs ts) mm k)) k (mhH ((pj m0 (upto (gMo cs ts) mm k)) k) ((pj m1 (upto (gMo cs ts) mm k)) k) ((pj m4 (upto (gMo cs ts) mm k)) k) cs)))), (z6, .inl (G.2 3, 16, .inl (upd (pj m5 (upto (gMo cs ts) mm k)) k 1))), (z8, .inl (G.2 3, 20, .inl (pj q1 cc))), (z9, .inl (G.2 3, 20, .inl (pj q2 cc))), (z10, .inl (G.2 3, 20, .inl (pj q3 cc))), (z11, .inl (G.2 3, 20, .inl (pj q4 cc))), (z12, .inl (G.2 2, 20, .inl (pj q5 cc))), (z13, .inl (G.2 2, 20, .inl (pj q6 cc))), (z14, .inl (G.2 3, 20, .inl (pj q7 cc))), (z15, .inl (G.2 2, 20, .inl (pj q8 cc))), (z16, .inl (G.2 2, 20, .inl (pj q9 cc)))] H := hP
            have hD : va_D A [(z0, .inr (6, [.int 0, .int (nI nM), .ref z1, .ref z2, .ref z3, .ref z4, .ref z5, .ref z6, .int (nI nC), .ref z7, .ref z8, .ref z9, .ref z10, .ref z11, .ref z12, .ref z13, .ref z14, .ref z15, .ref z16, .int (cyc + 1), .int li, .long me, .long mi, .int (nI sn), .ref z17])), (z1, .inl (G.2 2, 16, .inl (pj m0 (upto (gMo cs ts) mm k)))), (z2, .inl (G.2 2, 16, .inl (pj m1 (upto (gMo cs ts) mm k)))), (z3, .inl (G.2 2, 16, .inl (pj m2 (upto (gMo cs ts) mm k)))), (z4, .inl (G.2 2, 16, .inl (pj m3 (upto (gMo cs ts) mm k)))), (z5, .inl (G.2 2, 16, .inl (upd (pj m4 (upto (gMo cs ts) mm k)) k (mhH ((pj m0 (upto (gMo cs ts) mm k)) k) ((pj m1 (upto (gMo cs ts) mm k)) k) ((pj m4 (upto (gMo cs ts) mm k)) k) cs)))), (z6, .inl (G.2 3, 16, .inl (upd (pj m5 (upto (gMo cs ts) mm k)) k 1))), (z8, .inl (G.2 3, 20, .inl (pj q1 cc))), (z9, .inl (G.2 3, 20, .inl (pj q2 cc))), (z10, .inl (G.2 3, 20, .inl (pj q3 cc))), (z11, .inl (G.2 3, 20, .inl (pj q4 cc))), (z12, .inl (G.2 2, 20, .inl (pj q5 cc))), (z13, .inl (G.2 2, 20, .inl (pj q6 cc))), (z14, .inl (G.2 3, 20, .inl (pj q7 cc))), (z15, .inl (G.2 2, 20, .inl (pj q8 cc))), (z16, .inl (G.2 2, 20, .inl (pj q9 cc)))] := hD
            refine lv_if_eq (tgt := 121) hx hb d_MOD_cycle_107 (by decide) (fun c_107 => ?_) (fun c_107 => ?_)
            · simp only [pj_k, upto_self] at c_107
              refine lv_iinc (v := nI (k + 1)) (lv' := [(4, .int (nI (k + 1))), (5, .int 1), (0, .ref z0), (1, .int cs), (2, .int ts), (3, .int ac1)]) hx hb d_MOD_cycle_121 hl (k := 5) rfl (nI_succ _).symm (by decide) rfl (fun ls hl => ?_)
              refine lv_goto (tgt := 47) hx hb d_MOD_cycle_124 (by decide) ?_
              have e_fK : (pj m0 (upto (gMo cs ts) mm k)) = pj m0 (upto (gMo cs ts) mm (k + 1)) := pj_up (by first | (simp only [gMo, gMc, mhC, pj_k, upto_self, pk_us, bitF, m0, m1, m2, m3, m4, m5, q0, q1, q2, q3, q4, q5, q6, q7, q8, q9, c_14, c_26, c_53, c_63, c_86, c_107, if_true, if_false, reduceIte]; done) | (simp [gMo, gMc, mhC, pj_k, upto_self, pk_us, bitF, m0, m1, m2, m3, m4, m5, q0, q1, q2, q3, q4, q5, q6, q7, q8, q9, c_14, c_26, c_53, c_63, c_86, c_107]; done) | (simp_all [gMo, gMc, mhC, pj_k, upto_self, pk_us, bitF, m0, m1, m2, m3, m4, m5, q0, q1, q2, q3, q4, q5, q6, q7, q8, q9]; done))
              have e_fC : (pj m1 (upto (gMo cs ts) mm k)) = pj m1 (upto (gMo cs ts) mm (k + 1)) := pj_up (by first | (simp only [gMo, gMc, mhC, pj_k, upto_self, pk_us, bitF, m0, m1, m2, m3, m4, m5, q0, q1, q2, q3, q4, q5, q6, q7, q8, q9, c_14, c_26, c_53, c_63, c_86, c_107, if_true, if_false, reduceIte]; done) | (simp [gMo, gMc, mhC, pj_k, upto_self, pk_us, bitF, m0, m1, m2, m3, m4, m5, q0, q1, q2, q3, q4, q5, q6, q7, q8, q9, c_14, c_26, c_53, c_63, c_86, c_107]; done) | (simp_all [gMo, gMc, mhC, pj_k, upto_self, pk_us, bitF, m0, m1, m2, m3, m4, m5, q0, q1, q2, q3, q4, q5, q6, q7, q8, q9]; done))
              have e_fR : pj m2 (upto (gMo cs ts) mm k) = pj m2 (upto (gMo cs ts) mm (k + 1)) := pj_up (by first | (simp only [gMo, gMc, mhC, pj_k, upto_self, pk_us, bitF, m0, m1, m2, m3, m4, m5, q0, q1, q2, q3, q4, q5, q6, q7, q8, q9, c_14, c_26, c_53, c_63, c_86, c_107, if_true, if_false, reduceIte]; done) | (simp [gMo, gMc, mhC, pj_k, upto_self, pk_us, bitF, m0, m1, m2, m3, m4, m5, q0, q1, q2, q3, q4, q5, q6, q7, q8, q9, c_14, c_26, c_53, c_63, c_86, c_107]; done) | (simp_all [gMo, gMc, mhC, pj_k, upto_self, pk_us, bitF, m0, m1, m2, m3, m4, m5, q0, q1, q2, q3, q4, q5, q6, q7, q8, q9]; done))
              have e_fH : pj m3 (upto (gMo cs ts) mm k) = pj m3 (upto (gMo cs ts) mm (k + 1)) := pj_up (by first | (simp only [gMo, gMc, mhC, pj_k, upto_self, pk_us, bitF, m0, m1, m2, m3, m4, m5, q0, q1, q2, q3, q4, q5, q6, q7, q8, q9, c_14, c_26, c_53, c_63, c_86, c_107, if_true, if_false, reduceIte]; done) | (simp [gMo, gMc, mhC, pj_k, upto_self, pk_us, bitF, m0, m1, m2, m3, m4, m5, q0, q1, q2, q3, q4, q5, q6, q7, q8, q9, c_14, c_26, c_53, c_63, c_86, c_107]; done) | (simp_all [gMo, gMc, mhC, pj_k, upto_self, pk_us, bitF, m0, m1, m2, m3, m4, m5, q0, q1, q2, q3, q4, q5, q6, q7, q8, q9]; done))
              have e_fE : upd (pj m4 (upto (gMo cs ts) mm k)) k (mhH ((pj m0 (upto (gMo cs ts) mm k)) k) ((pj m1 (upto (gMo cs ts) mm k)) k) ((pj m4 (upto (gMo cs ts) mm k)) k) cs) = pj m4 (upto (gMo cs ts) mm (k + 1)) := pj_upd (by first | (simp only [gMo, gMc, mhC, pj_k, upto_self, pk_us, bitF, m0, m1, m2, m3, m4, m5, q0, q1, q2, q3, q4, q5, q6, q7, q8, q9, c_14, c_26, c_53, c_63, c_86, c_107, if_true, if_false, reduceIte]; done) | (simp [gMo, gMc, mhC, pj_k, upto_self, pk_us, bitF, m0, m1, m2, m3, m4, m5, q0, q1, q2, q3, q4, q5, q6, q7, q8, q9, c_14, c_26, c_53, c_63, c_86, c_107]; done) | (simp_all [gMo, gMc, mhC, pj_k, upto_self, pk_us, bitF, m0, m1, m2, m3, m4, m5, q0, q1, q2, q3, q4, q5, q6, q7, q8, q9]; done))
              have e_fY : upd (pj m5 (upto (gMo cs ts) mm k)) k 1 = pj m5 (upto (gMo cs ts) mm (k + 1)) := pj_upd (by first | (simp only [gMo, gMc, mhC, pj_k, upto_self, pk_us, bitF, m0, m1, m2, m3, m4, m5, q0, q1, q2, q3, q4, q5, q6, q7, q8, q9, c_14, c_26, c_53, c_63, c_86, c_107, if_true, if_false, reduceIte]; done) | (simp [gMo, gMc, mhC, pj_k, upto_self, pk_us, bitF, m0, m1, m2, m3, m4, m5, q0, q1, q2, q3, q4, q5, q6, q7, q8, q9, c_14, c_26, c_53, c_63, c_86, c_107]; done) | (simp_all [gMo, gMc, mhC, pj_k, upto_self, pk_us, bitF, m0, m1, m2, m3, m4, m5, q0, q1, q2, q3, q4, q5, q6, q7, q8, q9]; done))
              rw [e_fE, e_fY, e_fC, e_fH, e_fK, e_fR] at hP hD
              exact ih ((k + 1), ac1) _ _ _ ⟨hk, by simp [mcntM, mhC, hac, c_14, c_26, c_53, c_63, c_86, c_107], hP, hD, hS, lv_sub hl [2, 3, 4, 5, 0] rfl⟩ (by show nM - (k + 1) < nM - k; omega)
            · simp only [pj_k, upto_self] at c_107
              refine lv_aload_n hx hb d_MOD_cycle_110 rfl (lv_at hl 1 rfl) ?_
              refine lv_iload hx hb d_MOD_cycle_111 (lv_at hl 5 rfl) ?_
              refine lv_iload hx hb d_MOD_cycle_113 (lv_at hl 0 rfl) ?_
              have hPc := hP.sub (ws' := [(z0, .inr (6, [.int 0, .int (nI nM), .ref z1, .ref z2, .ref z3, .ref z4, .ref z5, .ref z6, .int (nI nC), .ref z7, .ref z8, .ref z9, .ref z10, .ref z11, .ref z12, .ref z13, .ref z14, .ref z15, .ref z16, .int (cyc + 1), .int li, .long me, .long mi, .int (nI sn), .ref z17])), (z3, .inl (G.2 2, 16, .inl (pj m2 (upto (gMo cs ts) mm k)))), (z4, .inl (G.2 2, 16, .inl (pj m3 (upto (gMo cs ts) mm k))))]) [0, 3, 4] rfl
              have hDc := hD.sub (ws' := [(z0, .inr (6, [.int 0, .int (nI nM), .ref z1, .ref z2, .ref z3, .ref z4, .ref z5, .ref z6, .int (nI nC), .ref z7, .ref z8, .ref z9, .ref z10, .ref z11, .ref z12, .ref z13, .ref z14, .ref z15, .ref z16, .int (cyc + 1), .int li, .long me, .long mi, .int (nI sn), .ref z17])), (z3, .inl (G.2 2, 16, .inl (pj m2 (upto (gMo cs ts) mm k)))), (z4, .inl (G.2 2, 16, .inl (pj m3 (upto (gMo cs ts) mm k))))]) [0, 3, 4] (by decide) rfl
              refine bx_callKv [0, 3, 4] (va_runV (As := [.int (nI k), .int 1]) (rest := []) ⟨hx, hb, hml, hown, hts⟩ (c_mcount l G H.size z0 z1 z2 z3 z4 z5 z6 z7 z8 z9 z10 z11 z12 z13 z14 z15 z16 z17 0 (cyc + 1) li nM nC sn me mi (pj m2 (upto (gMo cs ts) mm k)) (pj m3 (upto (gMo cs ts) mm k)) k 1 (by omega)) ⟨(callB_of 2 hts (gi_all wd_689) rfl rfl rfl (hT _ wd_51) (hT _ wd_686) (by decide +kernel) ⟨Nat.le_of_ble_eq_true rfl, Nat.le_of_ble_eq_true rfl⟩), (hT _ wd_688), (hT _ wd_34)⟩ (pvW hPc hGK hDc (va_recv hK hPc (ci := 6) (q0 := 0) rfl rfl)) rfl rfl hl.1 rfl (lv_room (Nat.le_of_ble_eq_true rfl)) d_MOD_cycle_115 ⟨Nat.le_of_ble_eq_true rfl, Nat.le_of_ble_eq_true rfl⟩) hP hD hS hA rfl rfl rfl (fun H locs hP hD hS => ?_)
              have hP : va_P G.1 vwCl [(z0, .inr (6, [.int 0, .int (nI nM), .ref z1, .ref z2, .ref z3, .ref z4, .ref z5, .ref z6, .int (nI nC), .ref z7, .ref z8, .ref z9, .ref z10, .ref z11, .ref z12, .ref z13, .ref z14, .ref z15, .ref z16, .int (cyc + 1), .int li, .long me, .long mi, .int (nI sn), .ref z17])), (z1, .inl (G.2 2, 16, .inl (pj m0 (upto (gMo cs ts) mm k)))), (z2, .inl (G.2 2, 16, .inl (pj m1 (upto (gMo cs ts) mm k)))), (z3, .inl (G.2 2, 16, .inl (upd (pj m2 (upto (gMo cs ts) mm k)) k (mcR ((pj m2 (upto (gMo cs ts) mm k)) k) ((pj m3 (upto (gMo cs ts) mm k)) k) 1)))), (z4, .inl (G.2 2, 16, .inl (upd (pj m3 (upto (gMo cs ts) mm k)) k (mcC ((pj m3 (upto (gMo cs ts) mm k)) k))))), (z5, .inl (G.2 2, 16, .inl (upd (pj m4 (upto (gMo cs ts) mm k)) k (mhH ((pj m0 (upto (gMo cs ts) mm k)) k) ((pj m1 (upto (gMo cs ts) mm k)) k) ((pj m4 (upto (gMo cs ts) mm k)) k) cs)))), (z6, .inl (G.2 3, 16, .inl (upd (pj m5 (upto (gMo cs ts) mm k)) k 1))), (z8, .inl (G.2 3, 20, .inl (pj q1 cc))), (z9, .inl (G.2 3, 20, .inl (pj q2 cc))), (z10, .inl (G.2 3, 20, .inl (pj q3 cc))), (z11, .inl (G.2 3, 20, .inl (pj q4 cc))), (z12, .inl (G.2 2, 20, .inl (pj q5 cc))), (z13, .inl (G.2 2, 20, .inl (pj q6 cc))), (z14, .inl (G.2 3, 20, .inl (pj q7 cc))), (z15, .inl (G.2 2, 20, .inl (pj q8 cc))), (z16, .inl (G.2 2, 20, .inl (pj q9 cc)))] H := hP
              have hD : va_D A [(z0, .inr (6, [.int 0, .int (nI nM), .ref z1, .ref z2, .ref z3, .ref z4, .ref z5, .ref z6, .int (nI nC), .ref z7, .ref z8, .ref z9, .ref z10, .ref z11, .ref z12, .ref z13, .ref z14, .ref z15, .ref z16, .int (cyc + 1), .int li, .long me, .long mi, .int (nI sn), .ref z17])), (z1, .inl (G.2 2, 16, .inl (pj m0 (upto (gMo cs ts) mm k)))), (z2, .inl (G.2 2, 16, .inl (pj m1 (upto (gMo cs ts) mm k)))), (z3, .inl (G.2 2, 16, .inl (upd (pj m2 (upto (gMo cs ts) mm k)) k (mcR ((pj m2 (upto (gMo cs ts) mm k)) k) ((pj m3 (upto (gMo cs ts) mm k)) k) 1)))), (z4, .inl (G.2 2, 16, .inl (upd (pj m3 (upto (gMo cs ts) mm k)) k (mcC ((pj m3 (upto (gMo cs ts) mm k)) k))))), (z5, .inl (G.2 2, 16, .inl (upd (pj m4 (upto (gMo cs ts) mm k)) k (mhH ((pj m0 (upto (gMo cs ts) mm k)) k) ((pj m1 (upto (gMo cs ts) mm k)) k) ((pj m4 (upto (gMo cs ts) mm k)) k) cs)))), (z6, .inl (G.2 3, 16, .inl (upd (pj m5 (upto (gMo cs ts) mm k)) k 1))), (z8, .inl (G.2 3, 20, .inl (pj q1 cc))), (z9, .inl (G.2 3, 20, .inl (pj q2 cc))), (z10, .inl (G.2 3, 20, .inl (pj q3 cc))), (z11, .inl (G.2 3, 20, .inl (pj q4 cc))), (z12, .inl (G.2 2, 20, .inl (pj q5 cc))), (z13, .inl (G.2 2, 20, .inl (pj q6 cc))), (z14, .inl (G.2 3, 20, .inl (pj q7 cc))), (z15, .inl (G.2 2, 20, .inl (pj q8 cc))), (z16, .inl (G.2 2, 20, .inl (pj q9 cc)))] := hD
              refine lv_iinc (v := ac1 + 1) (lv' := [(3, .int (ac1 + 1)), (5, .int 1), (0, .ref z0), (1, .int cs), (2, .int ts), (4, .int (nI k))]) hx hb d_MOD_cycle_118 hl (k := 4) rfl rfl (by decide) rfl (fun ls hl => ?_)
              refine lv_iinc (v := nI (k + 1)) (lv' := [(4, .int (nI (k + 1))), (3, .int (ac1 + 1)), (5, .int 1), (0, .ref z0), (1, .int cs), (2, .int ts)]) hx hb d_MOD_cycle_121 hl (k := 5) rfl (nI_succ _).symm (by decide) rfl (fun ls hl => ?_)
              refine lv_goto (tgt := 47) hx hb d_MOD_cycle_124 (by decide) ?_
              have e_fK : (pj m0 (upto (gMo cs ts) mm k)) = pj m0 (upto (gMo cs ts) mm (k + 1)) := pj_up (by first | (simp only [gMo, gMc, mhC, pj_k, upto_self, pk_us, bitF, m0, m1, m2, m3, m4, m5, q0, q1, q2, q3, q4, q5, q6, q7, q8, q9, c_14, c_26, c_53, c_63, c_86, c_107, if_true, if_false, reduceIte]; done) | (simp [gMo, gMc, mhC, pj_k, upto_self, pk_us, bitF, m0, m1, m2, m3, m4, m5, q0, q1, q2, q3, q4, q5, q6, q7, q8, q9, c_14, c_26, c_53, c_63, c_86, c_107]; done) | (simp_all [gMo, gMc, mhC, pj_k, upto_self, pk_us, bitF, m0, m1, m2, m3, m4, m5, q0, q1, q2, q3, q4, q5, q6, q7, q8, q9]; done))
              have e_fC : (pj m1 (upto (gMo cs ts) mm k)) = pj m1 (upto (gMo cs ts) mm (k + 1)) := pj_up (by first | (simp only [gMo, gMc, mhC, pj_k, upto_self, pk_us, bitF, m0, m1, m2, m3, m4, m5, q0, q1, q2, q3, q4, q5, q6, q7, q8, q9, c_14, c_26, c_53, c_63, c_86, c_107, if_true, if_false, reduceIte]; done) | (simp [gMo, gMc, mhC, pj_k, upto_self, pk_us, bitF, m0, m1, m2, m3, m4, m5, q0, q1, q2, q3, q4, q5, q6, q7, q8, q9, c_14, c_26, c_53, c_63, c_86, c_107]; done) | (simp_all [gMo, gMc, mhC, pj_k, upto_self, pk_us, bitF, m0, m1, m2, m3, m4, m5, q0, q1, q2, q3, q4, q5, q6, q7, q8, q9]; done))
              have e_fR : upd (pj m2 (upto (gMo cs ts) mm k)) k (mcR ((pj m2 (upto (gMo cs ts) mm k)) k) ((pj m3 (upto (gMo cs ts) mm k)) k) 1) = pj m2 (upto (gMo cs ts) mm (k + 1)) := pj_upd (by first | (simp only [gMo, gMc, mhC, pj_k, upto_self, pk_us, bitF, m0, m1, m2, m3, m4, m5, q0, q1, q2, q3, q4, q5, q6, q7, q8, q9, c_14, c_26, c_53, c_63, c_86, c_107, if_true, if_false, reduceIte]; done) | (simp [gMo, gMc, mhC, pj_k, upto_self, pk_us, bitF, m0, m1, m2, m3, m4, m5, q0, q1, q2, q3, q4, q5, q6, q7, q8, q9, c_14, c_26, c_53, c_63, c_86, c_107]; done) | (simp_all [gMo, gMc, mhC, pj_k, upto_self, pk_us, bitF, m0, m1, m2, m3, m4, m5, q0, q1, q2, q3, q4, q5, q6, q7, q8, q9]; done))
              have e_fH : upd (pj m3 (upto (gMo cs ts) mm k)) k (mcC ((pj m3 (upto (gMo cs ts) mm k)) k)) = pj m3 (upto (gMo cs ts) mm (k + 1)) := pj_upd (by first | (simp only [gMo, gMc, mhC, pj_k, upto_self, pk_us, bitF, m0, m1, m2, m3, m4, m5, q0, q1, q2, q3, q4, q5, q6, q7, q8, q9, c_14, c_26, c_53, c_63, c_86, c_107, if_true, if_false, reduceIte]; done) | (simp [gMo, gMc, mhC, pj_k, upto_self, pk_us, bitF, m0, m1, m2, m3, m4, m5, q0, q1, q2, q3, q4, q5, q6, q7, q8, q9, c_14, c_26, c_53, c_63, c_86, c_107]; done) | (simp_all [gMo, gMc, mhC, pj_k, upto_self, pk_us, bitF, m0, m1, m2, m3, m4, m5, q0, q1, q2, q3, q4, q5, q6, q7, q8, q9]; done))
              have e_fE : upd (pj m4 (upto (gMo cs ts) mm k)) k (mhH ((pj m0 (upto (gMo cs ts) mm k)) k) ((pj m1 (upto (gMo cs ts) mm k)) k) ((pj m4 (upto (gMo cs ts) mm k)) k) cs) = pj m4 (upto (gMo cs ts) mm (k + 1)) := pj_upd (by first | (simp only [gMo, gMc, mhC, pj_k, upto_self, pk_us, bitF, m0, m1, m2, m3, m4, m5, q0, q1, q2, q3, q4, q5, q6, q7, q8, q9, c_14, c_26, c_53, c_63, c_86, c_107, if_true, if_false, reduceIte]; done) | (simp [gMo, gMc, mhC, pj_k, upto_self, pk_us, bitF, m0, m1, m2, m3, m4, m5, q0, q1, q2, q3, q4, q5, q6, q7, q8, q9, c_14, c_26, c_53, c_63, c_86, c_107]; done) | (simp_all [gMo, gMc, mhC, pj_k, upto_self, pk_us, bitF, m0, m1, m2, m3, m4, m5, q0, q1, q2, q3, q4, q5, q6, q7, q8, q9]; done))
              have e_fY : upd (pj m5 (upto (gMo cs ts) mm k)) k 1 = pj m5 (upto (gMo cs ts) mm (k + 1)) := pj_upd (by first | (simp only [gMo, gMc, mhC, pj_k, upto_self, pk_us, bitF, m0, m1, m2, m3, m4, m5, q0, q1, q2, q3, q4, q5, q6, q7, q8, q9, c_14, c_26, c_53, c_63, c_86, c_107, if_true, if_false, reduceIte]; done) | (simp [gMo, gMc, mhC, pj_k, upto_self, pk_us, bitF, m0, m1, m2, m3, m4, m5, q0, q1, q2, q3, q4, q5, q6, q7, q8, q9, c_14, c_26, c_53, c_63, c_86, c_107]; done) | (simp_all [gMo, gMc, mhC, pj_k, upto_self, pk_us, bitF, m0, m1, m2, m3, m4, m5, q0, q1, q2, q3, q4, q5, q6, q7, q8, q9]; done))
              rw [e_fE, e_fH, e_fR, e_fY, e_fC, e_fK] at hP hD
              exact ih ((k + 1), ac1 + 1) _ _ _ ⟨hk, by simp [mcntM, mhC, hac, c_14, c_26, c_53, c_63, c_86, c_107], hP, hD, hS, lv_sub hl [3, 4, 5, 1, 0] rfl⟩ (by show nM - (k + 1) < nM - k; omega)
          · refine lv_iload hx hb d_MOD_cycle_89 (lv_at hl 0 rfl) ?_
            refine lv_if_eq (tgt := 98) hx hb d_MOD_cycle_91 (by decide) (fun c_91 => ?_) (fun c_91 => ?_)
            · exact absurd c_91 (by decide)
            · refine lv_iconst (v := 1) hx hb d_MOD_cycle_94 (by decide) ?_
              refine lv_goto (tgt := 99) hx hb d_MOD_cycle_95 (by decide) ?_
              refine va_zast hx hb hK hP hD hS 6 3 rfl rfl (vp_in_nI (by omega) (by omega)) d_MOD_cycle_99 (fun H locs hP hD hS => ?_)
              rw [nI_clamp (by omega), vn1] at hP hD
              have hP : va_P G.1 vwCl [(z0, .inr (6, [.int 0, .int (nI nM), .ref z1, .ref z2, .ref z3, .ref z4, .ref z5, .ref z6, .int (nI nC), .ref z7, .ref z8, .ref z9, .ref z10, .ref z11, .ref z12, .ref z13, .ref z14, .ref z15, .ref z16, .int (cyc + 1), .int li, .long me, .long mi, .int (nI sn), .ref z17])), (z1, .inl (G.2 2, 16, .inl (pj m0 (upto (gMo cs ts) mm k)))), (z2, .inl (G.2 2, 16, .inl (pj m1 (upto (gMo cs ts) mm k)))), (z3, .inl (G.2 2, 16, .inl (pj m2 (upto (gMo cs ts) mm k)))), (z4, .inl (G.2 2, 16, .inl (pj m3 (upto (gMo cs ts) mm k)))), (z5, .inl (G.2 2, 16, .inl (pj m4 (upto (gMo cs ts) mm k)))), (z6, .inl (G.2 3, 16, .inl (upd (pj m5 (upto (gMo cs ts) mm k)) k 1))), (z8, .inl (G.2 3, 20, .inl (pj q1 cc))), (z9, .inl (G.2 3, 20, .inl (pj q2 cc))), (z10, .inl (G.2 3, 20, .inl (pj q3 cc))), (z11, .inl (G.2 3, 20, .inl (pj q4 cc))), (z12, .inl (G.2 2, 20, .inl (pj q5 cc))), (z13, .inl (G.2 2, 20, .inl (pj q6 cc))), (z14, .inl (G.2 3, 20, .inl (pj q7 cc))), (z15, .inl (G.2 2, 20, .inl (pj q8 cc))), (z16, .inl (G.2 2, 20, .inl (pj q9 cc)))] H := hP
              have hD : va_D A [(z0, .inr (6, [.int 0, .int (nI nM), .ref z1, .ref z2, .ref z3, .ref z4, .ref z5, .ref z6, .int (nI nC), .ref z7, .ref z8, .ref z9, .ref z10, .ref z11, .ref z12, .ref z13, .ref z14, .ref z15, .ref z16, .int (cyc + 1), .int li, .long me, .long mi, .int (nI sn), .ref z17])), (z1, .inl (G.2 2, 16, .inl (pj m0 (upto (gMo cs ts) mm k)))), (z2, .inl (G.2 2, 16, .inl (pj m1 (upto (gMo cs ts) mm k)))), (z3, .inl (G.2 2, 16, .inl (pj m2 (upto (gMo cs ts) mm k)))), (z4, .inl (G.2 2, 16, .inl (pj m3 (upto (gMo cs ts) mm k)))), (z5, .inl (G.2 2, 16, .inl (pj m4 (upto (gMo cs ts) mm k)))), (z6, .inl (G.2 3, 16, .inl (upd (pj m5 (upto (gMo cs ts) mm k)) k 1))), (z8, .inl (G.2 3, 20, .inl (pj q1 cc))), (z9, .inl (G.2 3, 20, .inl (pj q2 cc))), (z10, .inl (G.2 3, 20, .inl (pj q3 cc))), (z11, .inl (G.2 3, 20, .inl (pj q4 cc))), (z12, .inl (G.2 2, 20, .inl (pj q5 cc))), (z13, .inl (G.2 2, 20, .inl (pj q6 cc))), (z14, .inl (G.2 3, 20, .inl (pj q7 cc))), (z15, .inl (G.2 2, 20, .inl (pj q8 cc))), (z16, .inl (G.2 2, 20, .inl (pj q9 cc)))] := hD
              refine lv_aload_n hx hb d_MOD_cycle_100 rfl (lv_at hl 1 rfl) ?_
              refine lv_iload hx hb d_MOD_cycle_101 (lv_at hl 5 rfl) ?_
              refine lv_iload_n hx hb d_MOD_cycle_103 rfl (lv_at hl 2 rfl) ?_
              have hPc := hP.sub (ws' := [(z0, .inr (6, [.int 0, .int (nI nM), .ref z1, .ref z2, .ref z3, .ref z4, .ref z5, .ref z6, .int (nI nC), .ref z7, .ref z8, .ref z9, .ref z10, .ref z11, .ref z12, .ref z13, .ref z14, .ref z15, .ref z16, .int (cyc + 1), .int li, .long me, .long mi, .int (nI sn), .ref z17])), (z1, .inl (G.2 2, 16, .inl (pj m0 (upto (gMo cs ts) mm k)))), (z2, .inl (G.2 2, 16, .inl (pj m1 (upto (gMo cs ts) mm k)))), (z5, .inl (G.2 2, 16, .inl (pj m4 (upto (gMo cs ts) mm k))))]) [0, 1, 2, 5] rfl
              have hDc := hD.sub (ws' := [(z0, .inr (6, [.int 0, .int (nI nM), .ref z1, .ref z2, .ref z3, .ref z4, .ref z5, .ref z6, .int (nI nC), .ref z7, .ref z8, .ref z9, .ref z10, .ref z11, .ref z12, .ref z13, .ref z14, .ref z15, .ref z16, .int (cyc + 1), .int li, .long me, .long mi, .int (nI sn), .ref z17])), (z1, .inl (G.2 2, 16, .inl (pj m0 (upto (gMo cs ts) mm k)))), (z2, .inl (G.2 2, 16, .inl (pj m1 (upto (gMo cs ts) mm k)))), (z5, .inl (G.2 2, 16, .inl (pj m4 (upto (gMo cs ts) mm k))))]) [0, 1, 2, 5] (by decide) rfl
              refine bx_callKr [0, 1, 2, 5] (va_runV (As := [.int (nI k), .int cs]) (rest := []) ⟨hx, hb, hml, hown, hts⟩ (c_mhasChance l G H.size z0 z1 z2 z3 z4 z5 z6 z7 z8 z9 z10 z11 z12 z13 z14 z15 z16 z17 0 (cyc + 1) li nM nC sn me mi (pj m0 (upto (gMo cs ts) mm k)) (pj m1 (upto (gMo cs ts) mm k)) (pj m4 (upto (gMo cs ts) mm k)) k cs (by omega)) ⟨(callB_of 2 hts (gi_all wd_682) rfl rfl rfl (hT _ wd_51) (hT _ wd_679) (by decide +kernel) ⟨Nat.le_of_ble_eq_true rfl, Nat.le_of_ble_eq_true rfl⟩), (hT _ wd_681), (hT _ wd_33)⟩ (pvW hPc hGK hDc (va_recv hK hPc (ci := 6) (q0 := 0) rfl rfl)) rfl rfl hl.1 rfl (lv_room (Nat.le_of_ble_eq_true rfl)) d_MOD_cycle_104 ⟨Nat.le_of_ble_eq_true rfl, Nat.le_of_ble_eq_true rfl⟩) hP hD hS hA rfl rfl rfl (fun H locs hP hD hS => ?_)
              have hP : va_P G.1 vwCl [(z0, .inr (6, [.int 0, .int (nI nM), .ref z1, .ref z2, .ref z3, .ref z4, .ref z5, .ref z6, .int (nI nC), .ref z7, .ref z8, .ref z9, .ref z10, .ref z11, .ref z12, .ref z13, .ref z14, .ref z15, .ref z16, .int (cyc + 1), .int li, .long me, .long mi, .int (nI sn), .ref z17])), (z1, .inl (G.2 2, 16, .inl (pj m0 (upto (gMo cs ts) mm k)))), (z2, .inl (G.2 2, 16, .inl (pj m1 (upto (gMo cs ts) mm k)))), (z3, .inl (G.2 2, 16, .inl (pj m2 (upto (gMo cs ts) mm k)))), (z4, .inl (G.2 2, 16, .inl (pj m3 (upto (gMo cs ts) mm k)))), (z5, .inl (G.2 2, 16, .inl (upd (pj m4 (upto (gMo cs ts) mm k)) k (mhH ((pj m0 (upto (gMo cs ts) mm k)) k) ((pj m1 (upto (gMo cs ts) mm k)) k) ((pj m4 (upto (gMo cs ts) mm k)) k) cs)))), (z6, .inl (G.2 3, 16, .inl (upd (pj m5 (upto (gMo cs ts) mm k)) k 1))), (z8, .inl (G.2 3, 20, .inl (pj q1 cc))), (z9, .inl (G.2 3, 20, .inl (pj q2 cc))), (z10, .inl (G.2 3, 20, .inl (pj q3 cc))), (z11, .inl (G.2 3, 20, .inl (pj q4 cc))), (z12, .inl (G.2 2, 20, .inl (pj q5 cc))), (z13, .inl (G.2 2, 20, .inl (pj q6 cc))), (z14, .inl (G.2 3, 20, .inl (pj q7 cc))), (z15, .inl (G.2 2, 20, .inl (pj q8 cc))), (z16, .inl (G.2 2, 20, .inl (pj q9 cc)))] H := hP
              have hD : va_D A [(z0, .inr (6, [.int 0, .int (nI nM), .ref z1, .ref z2, .ref z3, .ref z4, .ref z5, .ref z6, .int (nI nC), .ref z7, .ref z8, .ref z9, .ref z10, .ref z11, .ref z12, .ref z13, .ref z14, .ref z15, .ref z16, .int (cyc + 1), .int li, .long me, .long mi, .int (nI sn), .ref z17])), (z1, .inl (G.2 2, 16, .inl (pj m0 (upto (gMo cs ts) mm k)))), (z2, .inl (G.2 2, 16, .inl (pj m1 (upto (gMo cs ts) mm k)))), (z3, .inl (G.2 2, 16, .inl (pj m2 (upto (gMo cs ts) mm k)))), (z4, .inl (G.2 2, 16, .inl (pj m3 (upto (gMo cs ts) mm k)))), (z5, .inl (G.2 2, 16, .inl (upd (pj m4 (upto (gMo cs ts) mm k)) k (mhH ((pj m0 (upto (gMo cs ts) mm k)) k) ((pj m1 (upto (gMo cs ts) mm k)) k) ((pj m4 (upto (gMo cs ts) mm k)) k) cs)))), (z6, .inl (G.2 3, 16, .inl (upd (pj m5 (upto (gMo cs ts) mm k)) k 1))), (z8, .inl (G.2 3, 20, .inl (pj q1 cc))), (z9, .inl (G.2 3, 20, .inl (pj q2 cc))), (z10, .inl (G.2 3, 20, .inl (pj q3 cc))), (z11, .inl (G.2 3, 20, .inl (pj q4 cc))), (z12, .inl (G.2 2, 20, .inl (pj q5 cc))), (z13, .inl (G.2 2, 20, .inl (pj q6 cc))), (z14, .inl (G.2 3, 20, .inl (pj q7 cc))), (z15, .inl (G.2 2, 20, .inl (pj q8 cc))), (z16, .inl (G.2 2, 20, .inl (pj q9 cc)))] := hD
              refine lv_if_eq (tgt := 121) hx hb d_MOD_cycle_107 (by decide) (fun c_107 => ?_) (fun c_107 => ?_)
              · simp only [pj_k, upto_self] at c_107
                refine lv_iinc (v := nI (k + 1)) (lv' := [(4, .int (nI (k + 1))), (5, .int 1), (0, .ref z0), (1, .int cs), (2, .int ts), (3, .int ac1)]) hx hb d_MOD_cycle_121 hl (k := 5) rfl (nI_succ _).symm (by decide) rfl (fun ls hl => ?_)
                refine lv_goto (tgt := 47) hx hb d_MOD_cycle_124 (by decide) ?_
                have e_fK : (pj m0 (upto (gMo cs ts) mm k)) = pj m0 (upto (gMo cs ts) mm (k + 1)) := pj_up (by first | (simp only [gMo, gMc, mhC, pj_k, upto_self, pk_us, bitF, m0, m1, m2, m3, m4, m5, q0, q1, q2, q3, q4, q5, q6, q7, q8, q9, c_14, c_26, c_53, c_63, c_86, c_107, if_true, if_false, reduceIte]; done) | (simp [gMo, gMc, mhC, pj_k, upto_self, pk_us, bitF, m0, m1, m2, m3, m4, m5, q0, q1, q2, q3, q4, q5, q6, q7, q8, q9, c_14, c_26, c_53, c_63, c_86, c_107]; done) | (simp_all [gMo, gMc, mhC, pj_k, upto_self, pk_us, bitF, m0, m1, m2, m3, m4, m5, q0, q1, q2, q3, q4, q5, q6, q7, q8, q9]; done))
                have e_fC : (pj m1 (upto (gMo cs ts) mm k)) = pj m1 (upto (gMo cs ts) mm (k + 1)) := pj_up (by first | (simp only [gMo, gMc, mhC, pj_k, upto_self, pk_us, bitF, m0, m1, m2, m3, m4, m5, q0, q1, q2, q3, q4, q5, q6, q7, q8, q9, c_14, c_26, c_53, c_63, c_86, c_107, if_true, if_false, reduceIte]; done) | (simp [gMo, gMc, mhC, pj_k, upto_self, pk_us, bitF, m0, m1, m2, m3, m4, m5, q0, q1, q2, q3, q4, q5, q6, q7, q8, q9, c_14, c_26, c_53, c_63, c_86, c_107]; done) | (simp_all [gMo, gMc, mhC, pj_k, upto_self, pk_us, bitF, m0, m1, m2, m3, m4, m5, q0, q1, q2, q3, q4, q5, q6, q7, q8, q9]; done))
                have e_fR : pj m2 (upto (gMo cs ts) mm k) = pj m2 (upto (gMo cs ts) mm (k + 1)) := pj_up (by first | (simp only [gMo, gMc, mhC, pj_k, upto_self, pk_us, bitF, m0, m1, m2, m3, m4, m5, q0, q1, q2, q3, q4, q5, q6, q7, q8, q9, c_14, c_26, c_53, c_63, c_86, c_107, if_true, if_false, reduceIte]; done) | (simp [gMo, gMc, mhC, pj_k, upto_self, pk_us, bitF, m0, m1, m2, m3, m4, m5, q0, q1, q2, q3, q4, q5, q6, q7, q8, q9, c_14, c_26, c_53, c_63, c_86, c_107]; done) | (simp_all [gMo, gMc, mhC, pj_k, upto_self, pk_us, bitF, m0, m1, m2, m3, m4, m5, q0, q1, q2, q3, q4, q5, q6, q7, q8, q9]; done))
                have e_fH : pj m3 (upto (gMo cs ts) mm k) = pj m3 (upto (gMo cs ts) mm (k + 1)) := pj_up (by first | (simp only [gMo, gMc, mhC, pj_k, upto_self, pk_us, bitF, m0, m1, m2, m3, m4, m5, q0, q1, q2, q3, q4, q5, q6, q7, q8, q9, c_14, c_26, c_53, c_63, c_86, c_107, if_true, if_false, reduceIte]; done) | (simp [gMo, gMc, mhC, pj_k, upto_self, pk_us, bitF, m0, m1, m2, m3, m4, m5, q0, q1, q2, q3, q4, q5, q6, q7, q8, q9, c_14, c_26, c_53, c_63, c_86, c_107]; done) | (simp_all [gMo, gMc, mhC, pj_k, upto_self, pk_us, bitF, m0, m1, m2, m3, m4, m5, q0, q1, q2, q3, q4, q5, q6, q7, q8, q9]; done))
                have e_fE : upd (pj m4 (upto (gMo cs ts) mm k)) k (mhH ((pj m0 (upto (gMo cs ts) mm k)) k) ((pj m1 (upto (gMo cs ts) mm k)) k) ((pj m4 (upto (gMo cs ts) mm k)) k) cs) = pj m4 (upto (gMo cs ts) mm (k + 1)) := pj_upd (by first | (simp only [gMo, gMc, mhC, pj_k, upto_self, pk_us, bitF, m0, m1, m2, m3, m4, m5, q0, q1, q2, q3, q4, q5, q6, q7, q8, q9, c_14, c_26, c_53, c_63, c_86, c_107, if_true, if_false, reduceIte]; done) | (simp [gMo, gMc, mhC, pj_k, upto_self, pk_us, bitF, m0, m1, m2, m3, m4, m5, q0, q1, q2, q3, q4, q5, q6, q7, q8, q9, c_14, c_26, c_53, c_63, c_86, c_107]; done) | (simp_all [gMo, gMc, mhC, pj_k, upto_self, pk_us, bitF, m0, m1, m2, m3, m4, m5, q0, q1, q2, q3, q4, q5, q6, q7, q8, q9]; done))
                have e_fY : upd (pj m5 (upto (gMo cs ts) mm k)) k 1 = pj m5 (upto (gMo cs ts) mm (k + 1)) := pj_upd (by first | (simp only [gMo, gMc, mhC, pj_k, upto_self, pk_us, bitF, m0, m1, m2, m3, m4, m5, q0, q1, q2, q3, q4, q5, q6, q7, q8, q9, c_14, c_26, c_53, c_63, c_86, c_107, if_true, if_false, reduceIte]; done) | (simp [gMo, gMc, mhC, pj_k, upto_self, pk_us, bitF, m0, m1, m2, m3, m4, m5, q0, q1, q2, q3, q4, q5, q6, q7, q8, q9, c_14, c_26, c_53, c_63, c_86, c_107]; done) | (simp_all [gMo, gMc, mhC, pj_k, upto_self, pk_us, bitF, m0, m1, m2, m3, m4, m5, q0, q1, q2, q3, q4, q5, q6, q7, q8, q9]; done))
                rw [e_fE, e_fY, e_fC, e_fH, e_fK, e_fR] at hP hD
                exact ih ((k + 1), ac1) _ _ _ ⟨hk, by simp [mcntM, mhC, hac, c_14, c_26, c_53, c_63, c_86, c_107], hP, hD, hS, lv_sub hl [2, 3, 4, 5, 0] rfl⟩ (by show nM - (k + 1) < nM - k; omega)
              · simp only [pj_k, upto_self] at c_107
                refine lv_aload_n hx hb d_MOD_cycle_110 rfl (lv_at hl 1 rfl) ?_
                refine lv_iload hx hb d_MOD_cycle_111 (lv_at hl 5 rfl) ?_
                refine lv_iload hx hb d_MOD_cycle_113 (lv_at hl 0 rfl) ?_
                have hPc := hP.sub (ws' := [(z0, .inr (6, [.int 0, .int (nI nM), .ref z1, .ref z2, .ref z3, .ref z4, .ref z5, .ref z6, .int (nI nC), .ref z7, .ref z8, .ref z9, .ref z10, .ref z11, .ref z12, .ref z13, .ref z14, .ref z15, .ref z16, .int (cyc + 1), .int li, .long me, .long mi, .int (nI sn), .ref z17])), (z3, .inl (G.2 2, 16, .inl (pj m2 (upto (gMo cs ts) mm k)))), (z4, .inl (G.2 2, 16, .inl (pj m3 (upto (gMo cs ts) mm k))))]) [0, 3, 4] rfl
                have hDc := hD.sub (ws' := [(z0, .inr (6, [.int 0, .int (nI nM), .ref z1, .ref z2, .ref z3, .ref z4, .ref z5, .ref z6, .int (nI nC), .ref z7, .ref z8, .ref z9, .ref z10, .ref z11, .ref z12, .ref z13, .ref z14, .ref z15, .ref z16, .int (cyc + 1), .int li, .long me, .long mi, .int (nI sn), .ref z17])), (z3, .inl (G.2 2, 16, .inl (pj m2 (upto (gMo cs ts) mm k)))), (z4, .inl (G.2 2, 16, .inl (pj m3 (upto (gMo cs ts) mm k))))]) [0, 3, 4] (by decide) rfl
                refine bx_callKv [0, 3, 4] (va_runV (As := [.int (nI k), .int 1]) (rest := []) ⟨hx, hb, hml, hown, hts⟩ (c_mcount l G H.size z0 z1 z2 z3 z4 z5 z6 z7 z8 z9 z10 z11 z12 z13 z14 z15 z16 z17 0 (cyc + 1) li nM nC sn me mi (pj m2 (upto (gMo cs ts) mm k)) (pj m3 (upto (gMo cs ts) mm k)) k 1 (by omega)) ⟨(callB_of 2 hts (gi_all wd_689) rfl rfl rfl (hT _ wd_51) (hT _ wd_686) (by decide +kernel) ⟨Nat.le_of_ble_eq_true rfl, Nat.le_of_ble_eq_true rfl⟩), (hT _ wd_688), (hT _ wd_34)⟩ (pvW hPc hGK hDc (va_recv hK hPc (ci := 6) (q0 := 0) rfl rfl)) rfl rfl hl.1 rfl (lv_room (Nat.le_of_ble_eq_true rfl)) d_MOD_cycle_115 ⟨Nat.le_of_ble_eq_true rfl, Nat.le_of_ble_eq_true rfl⟩) hP hD hS hA rfl rfl rfl (fun H locs hP hD hS => ?_)
                have hP : va_P G.1 vwCl [(z0, .inr (6, [.int 0, .int (nI nM), .ref z1, .ref z2, .ref z3, .ref z4, .ref z5, .ref z6, .int (nI nC), .ref z7, .ref z8, .ref z9, .ref z10, .ref z11, .ref z12, .ref z13, .ref z14, .ref z15, .ref z16, .int (cyc + 1), .int li, .long me, .long mi, .int (nI sn), .ref z17])), (z1, .inl (G.2 2, 16, .inl (pj m0 (upto (gMo cs ts) mm k)))), (z2, .inl (G.2 2, 16, .inl (pj m1 (upto (gMo cs ts) mm k)))), (z3, .inl (G.2 2, 16, .inl (upd (pj m2 (upto (gMo cs ts) mm k)) k (mcR ((pj m2 (upto (gMo cs ts) mm k)) k) ((pj m3 (upto (gMo cs ts) mm k)) k) 1)))), (z4, .inl (G.2 2, 16, .inl (upd (pj m3 (upto (gMo cs ts) mm k)) k (mcC ((pj m3 (upto (gMo cs ts) mm k)) k))))), (z5, .inl (G.2 2, 16, .inl (upd (pj m4 (upto (gMo cs ts) mm k)) k (mhH ((pj m0 (upto (gMo cs ts) mm k)) k) ((pj m1 (upto (gMo cs ts) mm k)) k) ((pj m4 (upto (gMo cs ts) mm k)) k) cs)))), (z6, .inl (G.2 3, 16, .inl (upd (pj m5 (upto (gMo cs ts) mm k)) k 1))), (z8, .inl (G.2 3, 20, .inl (pj q1 cc))), (z9, .inl (G.2 3, 20, .inl (pj q2 cc))), (z10, .inl (G.2 3, 20, .inl (pj q3 cc))), (z11, .inl (G.2 3, 20, .inl (pj q4 cc))), (z12, .inl (G.2 2, 20, .inl (pj q5 cc))), (z13, .inl (G.2 2, 20, .inl (pj q6 cc))), (z14, .inl (G.2 3, 20, .inl (pj q7 cc))), (z15, .inl (G.2 2, 20, .inl (pj q8 cc))), (z16, .inl (G.2 2, 20, .inl (pj q9 cc)))] H := hP
                have hD : va_D A [(z0, .inr (6, [.int 0, .int (nI nM), .ref z1, .ref z2, .ref z3, .ref z4, .ref z5, .ref z6, .int (nI nC), .ref z7, .ref z8, .ref z9, .ref z10, .ref z11, .ref z12, .ref z13, .ref z14, .ref z15, .ref z16, .int (cyc + 1), .int li, .long me, .long mi, .int (nI sn), .ref z17])), (z1, .inl (G.2 2, 16, .inl (pj m0 (upto (gMo cs ts) mm k)))), (z2, .inl (G.2 2, 16, .inl (pj m1 (upto (gMo cs ts) mm k)))), (z3, .inl (G.2 2, 16, .inl (upd (pj m2 (upto (gMo cs ts) mm k)) k (mcR ((pj m2 (upto (gMo cs ts) mm k)) k) ((pj m3 (upto (gMo cs ts) mm k)) k) 1)))), (z4, .inl (G.2 2, 16, .inl (upd (pj m3 (upto (gMo cs ts) mm k)) k (mcC ((pj m3 (upto (gMo cs ts) mm k)) k))))), (z5, .inl (G.2 2, 16, .inl (upd (pj m4 (upto (gMo cs ts) mm k)) k (mhH ((pj m0 (upto (gMo cs ts) mm k)) k) ((pj m1 (upto (gMo cs ts) mm k)) k) ((pj m4 (upto (gMo cs ts) mm k)) k) cs)))), (z6, .inl (G.2 3, 16, .inl (upd (pj m5 (upto (gMo cs ts) mm k)) k 1))), (z8, .inl (G.2 3, 20, .inl (pj q1 cc))), (z9, .inl (G.2 3, 20, .inl (pj q2 cc))), (z10, .inl (G.2 3, 20, .inl (pj q3 cc))), (z11, .inl (G.2 3, 20, .inl (pj q4 cc))), (z12, .inl (G.2 2, 20, .inl (pj q5 cc))), (z13, .inl (G.2 2, 20, .inl (pj q6 cc))), (z14, .inl (G.2 3, 20, .inl (pj q7 cc))), (z15, .inl (G.2 2, 20, .inl (pj q8 cc))), (z16, .inl (G.2 2, 20, .inl (pj q9 cc)))] := hD
                refine lv_iinc (v := ac1 + 1) (lv' := [(3, .int (ac1 + 1)), (5, .int 1), (0, .ref z0), (1, .int cs), (2, .int ts), (4, .int (nI k))]) hx hb d_MOD_cycle_118 hl (k := 4) rfl rfl (by decide) rfl (fun ls hl => ?_)
                refine lv_iinc (v := nI (k + 1)) (lv' := [(4, .int (nI (k + 1))), (3, .int (ac1 + 1)), (5, .int 1), (0, .ref z0), (1, .int cs), (2, .int ts)]) hx hb d_MOD_cycle_121 hl (k := 5) rfl (nI_succ _).symm (by decide) rfl (fun ls hl => ?_)
                refine lv_goto (tgt := 47) hx hb d_MOD_cycle_124 (by decide) ?_
                have e_fK : (pj m0 (upto (gMo cs ts) mm k)) = pj m0 (upto (gMo cs ts) mm (k + 1)) := pj_up (by first | (simp only [gMo, gMc, mhC, pj_k, upto_self, pk_us, bitF, m0, m1, m2, m3, m4, m5, q0, q1, q2, q3, q4, q5, q6, q7, q8, q9, c_14, c_26, c_53, c_63, c_86, c_107, if_true, if_false, reduceIte]; done) | (simp [gMo, gMc, mhC, pj_k, upto_self, pk_us, bitF, m0, m1, m2, m3, m4, m5, q0, q1, q2, q3, q4, q5, q6, q7, q8, q9, c_14, c_26, c_53, c_63, c_86, c_107]; done) | (simp_all [gMo, gMc, mhC, pj_k, upto_self, pk_us, bitF, m0, m1, m2, m3, m4, m5, q0, q1, q2, q3, q4, q5, q6, q7, q8, q9]; done))
                have e_fC : (pj m1 (upto (gMo cs ts) mm k)) = pj m1 (upto (gMo cs ts) mm (k + 1)) := pj_up (by first | (simp only [gMo, gMc, mhC, pj_k, upto_self, pk_us, bitF, m0, m1, m2, m3, m4, m5, q0, q1, q2, q3, q4, q5, q6, q7, q8, q9, c_14, c_26, c_53, c_63, c_86, c_107, if_true, if_false, reduceIte]; done) | (simp [gMo, gMc, mhC, pj_k, upto_self, pk_us, bitF, m0, m1, m2, m3, m4, m5, q0, q1, q2, q3, q4, q5, q6, q7, q8, q9, c_14, c_26, c_53, c_63, c_86, c_107]; done) | (simp_all [gMo, gMc, mhC, pj_k, upto_self, pk_us, bitF, m0, m1, m2, m3, m4, m5, q0, q1, q2, q3, q4, q5, q6, q7, q8, q9]; done))
                have e_fR : upd (pj m2 (upto (gMo cs ts) mm k)) k (mcR ((pj m2 (upto (gMo cs ts) mm k)) k) ((pj m3 (upto (gMo cs ts) mm k)) k) 1) = pj m2 (upto (gMo cs ts) mm (k + 1)) := pj_upd (by first | (simp only [gMo, gMc, mhC, pj_k, upto_self, pk_us, bitF, m0, m1, m2, m3, m4, m5, q0, q1, q2, q3, q4, q5, q6, q7, q8, q9, c_14, c_26, c_53, c_63, c_86, c_107, if_true, if_false, reduceIte]; done) | (simp [gMo, gMc, mhC, pj_k, upto_self, pk_us, bitF, m0, m1, m2, m3, m4, m5, q0, q1, q2, q3, q4, q5, q6, q7, q8, q9, c_14, c_26, c_53, c_63, c_86, c_107]; done) | (simp_all [gMo, gMc, mhC, pj_k, upto_self, pk_us, bitF, m0, m1, m2, m3, m4, m5, q0, q1, q2, q3, q4, q5, q6, q7, q8, q9]; done))
                have e_fH : upd (pj m3 (upto (gMo cs ts) mm k)) k (mcC ((pj m3 (upto (gMo cs ts) mm k)) k)) = pj m3 (upto (gMo cs ts) mm (k + 1)) := pj_upd (by first | (simp only [gMo, gMc, mhC, pj_k, upto_self, pk_us, bitF, m0, m1, m2, m3, m4, m5, q0, q1, q2, q3, q4, q5, q6, q7, q8, q9, c_14, c_26, c_53, c_63, c_86, c_107, if_true, if_false, reduceIte]; done) | (simp [gMo, gMc, mhC, pj_k, upto_self, pk_us, bitF, m0, m1, m2, m3, m4, m5, q0, q1, q2, q3, q4, q5, q6, q7, q8, q9, c_14, c_26, c_53, c_63, c_86, c_107]; done) | (simp_all [gMo, gMc, mhC, pj_k, upto_self, pk_us, bitF, m0, m1, m2, m3, m4, m5, q0, q1, q2, q3, q4, q5, q6, q7, q8, q9]; done))
                have e_fE : upd (pj m4 (upto (gMo cs ts) mm k)) k (mhH ((pj m0 (upto (gMo cs ts) mm k)) k) ((pj m1 (upto (gMo cs ts) mm k)) k) ((pj m4 (upto (gMo cs ts) mm k)) k) cs) = pj m4 (upto (gMo cs ts) mm (k + 1)) := pj_upd (by first | (simp only [gMo, gMc, mhC, pj_k, upto_self, pk_us, bitF, m0, m1, m2, m3, m4, m5, q0, q1, q2, q3, q4, q5, q6, q7, q8, q9, c_14, c_26, c_53, c_63, c_86, c_107, if_true, if_false, reduceIte]; done) | (simp [gMo, gMc, mhC, pj_k, upto_self, pk_us, bitF, m0, m1, m2, m3, m4, m5, q0, q1, q2, q3, q4, q5, q6, q7, q8, q9, c_14, c_26, c_53, c_63, c_86, c_107]; done) | (simp_all [gMo, gMc, mhC, pj_k, upto_self, pk_us, bitF, m0, m1, m2, m3, m4, m5, q0, q1, q2, q3, q4, q5, q6, q7, q8, q9]; done))
                have e_fY : upd (pj m5 (upto (gMo cs ts) mm k)) k 1 = pj m5 (upto (gMo cs ts) mm (k + 1)) := pj_upd (by first | (simp only [gMo, gMc, mhC, pj_k, upto_self, pk_us, bitF, m0, m1, m2, m3, m4, m5, q0, q1, q2, q3, q4, q5, q6, q7, q8, q9, c_14, c_26, c_53, c_63, c_86, c_107, if_true, if_false, reduceIte]; done) | (simp [gMo, gMc, mhC, pj_k, upto_self, pk_us, bitF, m0, m1, m2, m3, m4, m5, q0, q1, q2, q3, q4, q5, q6, q7, q8, q9, c_14, c_26, c_53, c_63, c_86, c_107]; done) | (simp_all [gMo, gMc, mhC, pj_k, upto_self, pk_us, bitF, m0, m1, m2, m3, m4, m5, q0, q1, q2, q3, q4, q5, q6, q7, q8, q9]; done))
                rw [e_fE, e_fH, e_fR, e_fY, e_fC, e_fK] at hP hD
                exact ih ((k + 1), ac1 + 1) _ _ _ ⟨hk, by simp [mcntM, mhC, hac, c_14, c_26, c_53, c_63, c_86, c_107], hP, hD, hS, lv_sub hl [3, 4, 5, 1, 0] rfl⟩ (by show nM - (k + 1) < nM - k; omega)
    · refine lv_bipush (v := (-2)) hx hb d_MOD_cycle_29 (by decide) ?_
      have hw9 : ([(z0, .inr (6, [.int 0, .int (nI nM), .ref z1, .ref z2, .ref z3, .ref z4, .ref z5, .ref z6, .int (nI nC), .ref z7, .ref z8, .ref z9, .ref z10, .ref z11, .ref z12, .ref z13, .ref z14, .ref z15, .ref z16, .int (mcN cs ts cyc), .int (mcL cs ts cyc nC cc li), .long (mcX cs ts cyc nC cc li me), .long (mcX cs ts cyc nC cc li mi), .int (nI sn), .ref z17])), (z1, .inl (G.2 2, 16, .inl (pj m0 (mcM cs ts nM mm)))), (z2, .inl (G.2 2, 16, .inl (pj m1 (mcM cs ts nM mm)))), (z3, .inl (G.2 2, 16, .inl (pj m2 (mcM cs ts nM mm)))), (z4, .inl (G.2 2, 16, .inl (pj m3 (mcM cs ts nM mm)))), (z5, .inl (G.2 2, 16, .inl (pj m4 (mcM cs ts nM mm)))), (z6, .inl (G.2 3, 16, .inl (pj m5 (mcM cs ts nM mm)))), (z8, .inl (G.2 3, 20, .inl (pj q1 (mcD cs ts cyc nC cc)))), (z9, .inl (G.2 3, 20, .inl (pj q2 (mcD cs ts cyc nC cc)))), (z10, .inl (G.2 3, 20, .inl (pj q3 (mcD cs ts cyc nC cc)))), (z11, .inl (G.2 3, 20, .inl (pj q4 (mcD cs ts cyc nC cc)))), (z12, .inl (G.2 2, 20, .inl (pj q5 (mcD cs ts cyc nC cc)))), (z13, .inl (G.2 2, 20, .inl (pj q6 (mcD cs ts cyc nC cc)))), (z14, .inl (G.2 3, 20, .inl (pj q7 (mcD cs ts cyc nC cc)))), (z15, .inl (G.2 2, 20, .inl (pj q8 (mcD cs ts cyc nC cc)))), (z16, .inl (G.2 2, 20, .inl (pj q9 (mcD cs ts cyc nC cc))))] : va_W) = [(z0, .inr (6, [.int 0, .int (nI nM), .ref z1, .ref z2, .ref z3, .ref z4, .ref z5, .ref z6, .int (nI nC), .ref z7, .ref z8, .ref z9, .ref z10, .ref z11, .ref z12, .ref z13, .ref z14, .ref z15, .ref z16, .int cyc, .int li, .long me, .long mi, .int (nI sn), .ref z17])), (z1, .inl (G.2 2, 16, .inl (pj m0 mm))), (z2, .inl (G.2 2, 16, .inl (pj m1 mm))), (z3, .inl (G.2 2, 16, .inl (pj m2 mm))), (z4, .inl (G.2 2, 16, .inl (pj m3 mm))), (z5, .inl (G.2 2, 16, .inl (pj m4 mm))), (z6, .inl (G.2 3, 16, .inl (pj m5 mm))), (z8, .inl (G.2 3, 20, .inl (pj q1 cc))), (z9, .inl (G.2 3, 20, .inl (pj q2 cc))), (z10, .inl (G.2 3, 20, .inl (pj q3 cc))), (z11, .inl (G.2 3, 20, .inl (pj q4 cc))), (z12, .inl (G.2 2, 20, .inl (pj q5 cc))), (z13, .inl (G.2 2, 20, .inl (pj q6 cc))), (z14, .inl (G.2 3, 20, .inl (pj q7 cc))), (z15, .inl (G.2 2, 20, .inl (pj q8 cc))), (z16, .inl (G.2 2, 20, .inl (pj q9 cc)))] := by first | (simp [mcV, mcN, mcL, mcX, mcM, mcD, mcS, mcB, foZ, c_14, c_26]; done) | (simp_all [mcV, mcN, mcL, mcX, mcM, mcD, mcS, mcB, foZ]; done)
      rw [← hw9] at hP hD
      have hq9 : (.int (mcV cs ts nM mm)) = (.int (-2) : Value) := by first | (simp [mcV, mcN, mcL, mcX, mcM, mcD, mcS, mcB, foZ, c_14, c_26]; done) | (simp_all [mcV, mcN, mcL, mcX, mcM, mcD, mcS, mcB, foZ]; done)
      exact W.iret (v := (-2)) hx hb hr (fun t ht hW => ⟨⟨by rw [hq9], by rw [ht]; exact hP, by rw [hAe]; exact hD⟩, by rw [hAe]; exact hS.F ht⟩) hS.2.2 d_MOD_cycle_31
end
