section
-- ===== PART A: goes FIRST, ahead of the names: the tables' words, and 'selects' of the private methods out of them =====
/-- a private method of a class that the tables say can be made, by its rows of tables_1 -/
def lw_okq (q : MethodName × Nat) : Prop := (q.1.cls ≠ "java/lang/invoke/MethodHandle" ∧ q.1.cls ≠ "java/lang/invoke/VarHandle") ∧ Cond.instantiable q.1.cls q.2 ∈ tables_1 ∧ Cond.privateMethod q.1 ∈ tables_1 ∧ Cond.instanceMethod q.1 ∈ tables_1
theorem lw_p0 : lw_okq (⟨"java/util/ArrayList", "add", "(Ljava/lang/Object;[Ljava/lang/Object;I)V"⟩, 3) := ⟨⟨by decide +kernel, by decide +kernel⟩, List.mem_of_getElem? (i := 30) (by decide +kernel), List.mem_of_getElem? (i := 151) (by decide +kernel), List.mem_of_getElem? (i := 152) (by decide +kernel)⟩
theorem lw_p1 : lw_okq (⟨"java/util/ArrayList", "grow", "()[Ljava/lang/Object;"⟩, 3) := ⟨⟨by decide +kernel, by decide +kernel⟩, List.mem_of_getElem? (i := 30) (by decide +kernel), List.mem_of_getElem? (i := 155) (by decide +kernel), List.mem_of_getElem? (i := 156) (by decide +kernel)⟩
theorem lw_p2 : lw_okq (⟨"java/util/ArrayList", "grow", "(I)[Ljava/lang/Object;"⟩, 3) := ⟨⟨by decide +kernel, by decide +kernel⟩, List.mem_of_getElem? (i := 30) (by decide +kernel), List.mem_of_getElem? (i := 159) (by decide +kernel), List.mem_of_getElem? (i := 160) (by decide +kernel)⟩
theorem lw_p3 : lw_okq (⟨"EmissionRows", "passMonitors", "(II)I"⟩, 5) := ⟨⟨by decide +kernel, by decide +kernel⟩, List.mem_of_getElem? (i := 22) (by decide +kernel), List.mem_of_getElem? (i := 208) (by decide +kernel), List.mem_of_getElem? (i := 209) (by decide +kernel)⟩
theorem lw_p4 : lw_okq (⟨"EmissionRows$Monitor", "endCycle", "(IZ)Z"⟩, 6) := ⟨⟨by decide +kernel, by decide +kernel⟩, List.mem_of_getElem? (i := 118) (by decide +kernel), List.mem_of_getElem? (i := 229) (by decide +kernel), List.mem_of_getElem? (i := 230) (by decide +kernel)⟩
theorem lw_p5 : lw_okq (⟨"EmissionRows$Monitor", "hasChance", "(I)Z"⟩, 6) := ⟨⟨by decide +kernel, by decide +kernel⟩, List.mem_of_getElem? (i := 118) (by decide +kernel), List.mem_of_getElem? (i := 233) (by decide +kernel), List.mem_of_getElem? (i := 234) (by decide +kernel)⟩
theorem lw_p6 : lw_okq (⟨"EmissionRows$Monitor", "countChance", "(Z)V"⟩, 6) := ⟨⟨by decide +kernel, by decide +kernel⟩, List.mem_of_getElem? (i := 118) (by decide +kernel), List.mem_of_getElem? (i := 238) (by decide +kernel), List.mem_of_getElem? (i := 239) (by decide +kernel)⟩
theorem lw_p7 : lw_okq (⟨"EmissionRows", "passCodes", "(I)V"⟩, 5) := ⟨⟨by decide +kernel, by decide +kernel⟩, List.mem_of_getElem? (i := 22) (by decide +kernel), List.mem_of_getElem? (i := 242) (by decide +kernel), List.mem_of_getElem? (i := 243) (by decide +kernel)⟩
theorem lw_p8 : lw_okq (⟨"EmissionRows$Code", "endCycleOn", "(II)V"⟩, 9) := ⟨⟨by decide +kernel, by decide +kernel⟩, List.mem_of_getElem? (i := 249) (by decide +kernel), List.mem_of_getElem? (i := 247) (by decide +kernel), List.mem_of_getElem? (i := 248) (by decide +kernel)⟩
theorem lw_p9 : lw_okq (⟨"EmissionRows$Code", "endCycleOff", "(I)V"⟩, 9) := ⟨⟨by decide +kernel, by decide +kernel⟩, List.mem_of_getElem? (i := 249) (by decide +kernel), List.mem_of_getElem? (i := 252) (by decide +kernel), List.mem_of_getElem? (i := 253) (by decide +kernel)⟩
theorem lw_p10 : lw_okq (⟨"EmissionRows$Code", "forgetFault", "()V"⟩, 9) := ⟨⟨by decide +kernel, by decide +kernel⟩, List.mem_of_getElem? (i := 249) (by decide +kernel), List.mem_of_getElem? (i := 257) (by decide +kernel), List.mem_of_getElem? (i := 258) (by decide +kernel)⟩
theorem lw_p11 : lw_okq (⟨"EmissionRows", "howManyConfirmed", "()I"⟩, 5) := ⟨⟨by decide +kernel, by decide +kernel⟩, List.mem_of_getElem? (i := 22) (by decide +kernel), List.mem_of_getElem? (i := 261) (by decide +kernel), List.mem_of_getElem? (i := 262) (by decide +kernel)⟩
theorem lw_p12 : lw_okq (⟨"EmissionRows$Lamp", "follow", "(Z)V"⟩, 3) := ⟨⟨by decide +kernel, by decide +kernel⟩, List.mem_of_getElem? (i := 56) (by decide +kernel), List.mem_of_getElem? (i := 265) (by decide +kernel), List.mem_of_getElem? (i := 266) (by decide +kernel)⟩
theorem lw_p13 : lw_okq (⟨"EmissionRows$Lamp", "reset", "()V"⟩, 3) := ⟨⟨by decide +kernel, by decide +kernel⟩, List.mem_of_getElem? (i := 56) (by decide +kernel), List.mem_of_getElem? (i := 269) (by decide +kernel), List.mem_of_getElem? (i := 270) (by decide +kernel)⟩
theorem lw_p14 : lw_okq (⟨"EmissionRows", "isMonitor", "(I)Z"⟩, 5) := ⟨⟨by decide +kernel, by decide +kernel⟩, List.mem_of_getElem? (i := 22) (by decide +kernel), List.mem_of_getElem? (i := 277) (by decide +kernel), List.mem_of_getElem? (i := 278) (by decide +kernel)⟩
theorem lw_p15 : lw_okq (⟨"EmissionRows", "readinessOf", "(I)I"⟩, 5) := ⟨⟨by decide +kernel, by decide +kernel⟩, List.mem_of_getElem? (i := 22) (by decide +kernel), List.mem_of_getElem? (i := 285) (by decide +kernel), List.mem_of_getElem? (i := 286) (by decide +kernel)⟩
def lw_privs_1 : List (MethodName × Nat) := [(⟨"java/util/ArrayList", "add", "(Ljava/lang/Object;[Ljava/lang/Object;I)V"⟩, 3), (⟨"java/util/ArrayList", "grow", "()[Ljava/lang/Object;"⟩, 3), (⟨"java/util/ArrayList", "grow", "(I)[Ljava/lang/Object;"⟩, 3), (⟨"EmissionRows", "passMonitors", "(II)I"⟩, 5), (⟨"EmissionRows$Monitor", "endCycle", "(IZ)Z"⟩, 6), (⟨"EmissionRows$Monitor", "hasChance", "(I)Z"⟩, 6), (⟨"EmissionRows$Monitor", "countChance", "(Z)V"⟩, 6), (⟨"EmissionRows", "passCodes", "(I)V"⟩, 5), (⟨"EmissionRows$Code", "endCycleOn", "(II)V"⟩, 9), (⟨"EmissionRows$Code", "endCycleOff", "(I)V"⟩, 9), (⟨"EmissionRows$Code", "forgetFault", "()V"⟩, 9), (⟨"EmissionRows", "howManyConfirmed", "()I"⟩, 5), (⟨"EmissionRows$Lamp", "follow", "(Z)V"⟩, 3), (⟨"EmissionRows$Lamp", "reset", "()V"⟩, 3), (⟨"EmissionRows", "isMonitor", "(I)Z"⟩, 5), (⟨"EmissionRows", "readinessOf", "(I)I"⟩, 5)]
theorem lw_r1 : ∀ q ∈ lw_privs_1, lw_okq q := List.forall_mem_cons.mpr ⟨lw_p0, List.forall_mem_cons.mpr ⟨lw_p1, List.forall_mem_cons.mpr ⟨lw_p2, List.forall_mem_cons.mpr ⟨lw_p3, List.forall_mem_cons.mpr ⟨lw_p4, List.forall_mem_cons.mpr ⟨lw_p5, List.forall_mem_cons.mpr ⟨lw_p6, List.forall_mem_cons.mpr ⟨lw_p7, List.forall_mem_cons.mpr ⟨lw_p8, List.forall_mem_cons.mpr ⟨lw_p9, List.forall_mem_cons.mpr ⟨lw_p10, List.forall_mem_cons.mpr ⟨lw_p11, List.forall_mem_cons.mpr ⟨lw_p12, List.forall_mem_cons.mpr ⟨lw_p13, List.forall_mem_cons.mpr ⟨lw_p14, List.forall_mem_cons.mpr ⟨lw_p15, fun _ h => absurd h List.not_mem_nil⟩⟩⟩⟩⟩⟩⟩⟩⟩⟩⟩⟩⟩⟩⟩⟩
theorem lw_p16 : lw_okq (⟨"EmissionRows", "knownCode", "(I)LEmissionRows$Code;"⟩, 5) := ⟨⟨by decide +kernel, by decide +kernel⟩, List.mem_of_getElem? (i := 22) (by decide +kernel), List.mem_of_getElem? (i := 293) (by decide +kernel), List.mem_of_getElem? (i := 294) (by decide +kernel)⟩
theorem lw_p17 : lw_okq (⟨"EmissionRows$Lamp", "goOn", "(JJ)Z"⟩, 3) := ⟨⟨by decide +kernel, by decide +kernel⟩, List.mem_of_getElem? (i := 56) (by decide +kernel), List.mem_of_getElem? (i := 350) (by decide +kernel), List.mem_of_getElem? (i := 351) (by decide +kernel)⟩
theorem lw_p18 : lw_okq (⟨"EmissionRows", "firstFrozen", "()LEmissionRows$Code;"⟩, 5) := ⟨⟨by decide +kernel, by decide +kernel⟩, List.mem_of_getElem? (i := 22) (by decide +kernel), List.mem_of_getElem? (i := 365) (by decide +kernel), List.mem_of_getElem? (i := 366) (by decide +kernel)⟩
theorem lw_p19 : lw_okq (⟨"EmissionRows$Code", "hasFrozenRow", "()Z"⟩, 9) := ⟨⟨by decide +kernel, by decide +kernel⟩, List.mem_of_getElem? (i := 249) (by decide +kernel), List.mem_of_getElem? (i := 369) (by decide +kernel), List.mem_of_getElem? (i := 370) (by decide +kernel)⟩
theorem lw_p20 : lw_okq (⟨"EmissionRows$Octets", "drop", "()V"⟩, 2) := ⟨⟨by decide +kernel, by decide +kernel⟩, List.mem_of_getElem? (i := 75) (by decide +kernel), List.mem_of_getElem? (i := 377) (by decide +kernel), List.mem_of_getElem? (i := 378) (by decide +kernel)⟩
theorem lw_p21 : lw_okq (⟨"EmissionRows", "tellNow", "(I)V"⟩, 5) := ⟨⟨by decide +kernel, by decide +kernel⟩, List.mem_of_getElem? (i := 22) (by decide +kernel), List.mem_of_getElem? (i := 381) (by decide +kernel), List.mem_of_getElem? (i := 382) (by decide +kernel)⟩
theorem lw_p22 : lw_okq (⟨"EmissionRows$Octets", "begin", "(I)V"⟩, 2) := ⟨⟨by decide +kernel, by decide +kernel⟩, List.mem_of_getElem? (i := 75) (by decide +kernel), List.mem_of_getElem? (i := 385) (by decide +kernel), List.mem_of_getElem? (i := 386) (by decide +kernel)⟩
theorem lw_p23 : lw_okq (⟨"EmissionRows$Octets", "add", "(I)V"⟩, 2) := ⟨⟨by decide +kernel, by decide +kernel⟩, List.mem_of_getElem? (i := 75) (by decide +kernel), List.mem_of_getElem? (i := 389) (by decide +kernel), List.mem_of_getElem? (i := 390) (by decide +kernel)⟩
theorem lw_p24 : lw_okq (⟨"EmissionRows", "kindsNotReady", "()I"⟩, 5) := ⟨⟨by decide +kernel, by decide +kernel⟩, List.mem_of_getElem? (i := 22) (by decide +kernel), List.mem_of_getElem? (i := 394) (by decide +kernel), List.mem_of_getElem? (i := 395) (by decide +kernel)⟩
theorem lw_p25 : lw_okq (⟨"EmissionRows$Octets", "addTwo", "(I)V"⟩, 2) := ⟨⟨by decide +kernel, by decide +kernel⟩, List.mem_of_getElem? (i := 75) (by decide +kernel), List.mem_of_getElem? (i := 399) (by decide +kernel), List.mem_of_getElem? (i := 400) (by decide +kernel)⟩
theorem lw_p26 : lw_okq (⟨"EmissionRows", "tellFrozen", "(I)V"⟩, 5) := ⟨⟨by decide +kernel, by decide +kernel⟩, List.mem_of_getElem? (i := 22) (by decide +kernel), List.mem_of_getElem? (i := 403) (by decide +kernel), List.mem_of_getElem? (i := 404) (by decide +kernel)⟩
theorem lw_p27 : lw_okq (⟨"EmissionRows", "tellCounts", "(I)V"⟩, 5) := ⟨⟨by decide +kernel, by decide +kernel⟩, List.mem_of_getElem? (i := 22) (by decide +kernel), List.mem_of_getElem? (i := 407) (by decide +kernel), List.mem_of_getElem? (i := 408) (by decide +kernel)⟩
theorem lw_p28 : lw_okq (⟨"EmissionRows", "tellCodes", "(I)V"⟩, 5) := ⟨⟨by decide +kernel, by decide +kernel⟩, List.mem_of_getElem? (i := 22) (by decide +kernel), List.mem_of_getElem? (i := 411) (by decide +kernel), List.mem_of_getElem? (i := 412) (by decide +kernel)⟩
theorem lw_p29 : lw_okq (⟨"EmissionRows$Code", "isToldIn", "(I)Z"⟩, 9) := ⟨⟨by decide +kernel, by decide +kernel⟩, List.mem_of_getElem? (i := 249) (by decide +kernel), List.mem_of_getElem? (i := 415) (by decide +kernel), List.mem_of_getElem? (i := 416) (by decide +kernel)⟩
theorem lw_p30 : lw_okq (⟨"EmissionRows$Octets", "total", "()I"⟩, 2) := ⟨⟨by decide +kernel, by decide +kernel⟩, List.mem_of_getElem? (i := 75) (by decide +kernel), List.mem_of_getElem? (i := 423) (by decide +kernel), List.mem_of_getElem? (i := 424) (by decide +kernel)⟩
theorem lw_p31 : lw_okq (⟨"java/lang/Throwable", "fillInStackTrace", "(I)Ljava/lang/Throwable;"⟩, 6) := ⟨⟨by decide +kernel, by decide +kernel⟩, List.mem_of_getElem? (i := 473) (by decide +kernel), List.mem_of_getElem? (i := 471) (by decide +kernel), List.mem_of_getElem? (i := 472) (by decide +kernel)⟩
def lw_privs_2 : List (MethodName × Nat) := [(⟨"EmissionRows", "knownCode", "(I)LEmissionRows$Code;"⟩, 5), (⟨"EmissionRows$Lamp", "goOn", "(JJ)Z"⟩, 3), (⟨"EmissionRows", "firstFrozen", "()LEmissionRows$Code;"⟩, 5), (⟨"EmissionRows$Code", "hasFrozenRow", "()Z"⟩, 9), (⟨"EmissionRows$Octets", "drop", "()V"⟩, 2), (⟨"EmissionRows", "tellNow", "(I)V"⟩, 5), (⟨"EmissionRows$Octets", "begin", "(I)V"⟩, 2), (⟨"EmissionRows$Octets", "add", "(I)V"⟩, 2), (⟨"EmissionRows", "kindsNotReady", "()I"⟩, 5), (⟨"EmissionRows$Octets", "addTwo", "(I)V"⟩, 2), (⟨"EmissionRows", "tellFrozen", "(I)V"⟩, 5), (⟨"EmissionRows", "tellCounts", "(I)V"⟩, 5), (⟨"EmissionRows", "tellCodes", "(I)V"⟩, 5), (⟨"EmissionRows$Code", "isToldIn", "(I)Z"⟩, 9), (⟨"EmissionRows$Octets", "total", "()I"⟩, 2), (⟨"java/lang/Throwable", "fillInStackTrace", "(I)Ljava/lang/Throwable;"⟩, 6)]
theorem lw_r2 : ∀ q ∈ lw_privs_2, lw_okq q := List.forall_mem_cons.mpr ⟨lw_p16, List.forall_mem_cons.mpr ⟨lw_p17, List.forall_mem_cons.mpr ⟨lw_p18, List.forall_mem_cons.mpr ⟨lw_p19, List.forall_mem_cons.mpr ⟨lw_p20, List.forall_mem_cons.mpr ⟨lw_p21, List.forall_mem_cons.mpr ⟨lw_p22, List.forall_mem_cons.mpr ⟨lw_p23, List.forall_mem_cons.mpr ⟨lw_p24, List.forall_mem_cons.mpr ⟨lw_p25, List.forall_mem_cons.mpr ⟨lw_p26, List.forall_mem_cons.mpr ⟨lw_p27, List.forall_mem_cons.mpr ⟨lw_p28, List.forall_mem_cons.mpr ⟨lw_p29, List.forall_mem_cons.mpr ⟨lw_p30, List.forall_mem_cons.mpr ⟨lw_p31, fun _ h => absurd h List.not_mem_nil⟩⟩⟩⟩⟩⟩⟩⟩⟩⟩⟩⟩⟩⟩⟩⟩
theorem lw_p32 : lw_okq (⟨"EmissionRows$Octets", "has", "(I)Z"⟩, 2) := ⟨⟨by decide +kernel, by decide +kernel⟩, List.mem_of_getElem? (i := 75) (by decide +kernel), List.mem_of_getElem? (i := 513) (by decide +kernel), List.mem_of_getElem? (i := 514) (by decide +kernel)⟩
theorem lw_p33 : lw_okq (⟨"EmissionRowsModel", "hasChance", "(II)Z"⟩, 25) := ⟨⟨by decide +kernel, by decide +kernel⟩, List.mem_of_getElem? (i := 533) (by decide +kernel), List.mem_of_getElem? (i := 636) (by decide +kernel), List.mem_of_getElem? (i := 637) (by decide +kernel)⟩
theorem lw_p34 : lw_okq (⟨"EmissionRowsModel", "count", "(IZ)V"⟩, 25) := ⟨⟨by decide +kernel, by decide +kernel⟩, List.mem_of_getElem? (i := 533) (by decide +kernel), List.mem_of_getElem? (i := 643) (by decide +kernel), List.mem_of_getElem? (i := 644) (by decide +kernel)⟩
theorem lw_p35 : lw_okq (⟨"EmissionRowsModel", "endOn", "(II)V"⟩, 25) := ⟨⟨by decide +kernel, by decide +kernel⟩, List.mem_of_getElem? (i := 533) (by decide +kernel), List.mem_of_getElem? (i := 647) (by decide +kernel), List.mem_of_getElem? (i := 648) (by decide +kernel)⟩
theorem lw_p36 : lw_okq (⟨"EmissionRowsModel", "endOff", "(II)V"⟩, 25) := ⟨⟨by decide +kernel, by decide +kernel⟩, List.mem_of_getElem? (i := 533) (by decide +kernel), List.mem_of_getElem? (i := 651) (by decide +kernel), List.mem_of_getElem? (i := 652) (by decide +kernel)⟩
theorem lw_p37 : lw_okq (⟨"EmissionRowsModel", "confirmedCodes", "()I"⟩, 25) := ⟨⟨by decide +kernel, by decide +kernel⟩, List.mem_of_getElem? (i := 533) (by decide +kernel), List.mem_of_getElem? (i := 655) (by decide +kernel), List.mem_of_getElem? (i := 656) (by decide +kernel)⟩
theorem lw_p38 : lw_okq (⟨"EmissionRowsModel", "firstFrozen", "()I"⟩, 25) := ⟨⟨by decide +kernel, by decide +kernel⟩, List.mem_of_getElem? (i := 533) (by decide +kernel), List.mem_of_getElem? (i := 697) (by decide +kernel), List.mem_of_getElem? (i := 698) (by decide +kernel)⟩
theorem lw_p39 : lw_okq (⟨"EmissionRowsModel", "tellState", "()V"⟩, 25) := ⟨⟨by decide +kernel, by decide +kernel⟩, List.mem_of_getElem? (i := 533) (by decide +kernel), List.mem_of_getElem? (i := 705) (by decide +kernel), List.mem_of_getElem? (i := 706) (by decide +kernel)⟩
theorem lw_p40 : lw_okq (⟨"EmissionRowsModel", "put", "(I)V"⟩, 25) := ⟨⟨by decide +kernel, by decide +kernel⟩, List.mem_of_getElem? (i := 533) (by decide +kernel), List.mem_of_getElem? (i := 709) (by decide +kernel), List.mem_of_getElem? (i := 710) (by decide +kernel)⟩
theorem lw_p41 : lw_okq (⟨"EmissionRowsModel", "putTwo", "(I)V"⟩, 25) := ⟨⟨by decide +kernel, by decide +kernel⟩, List.mem_of_getElem? (i := 533) (by decide +kernel), List.mem_of_getElem? (i := 714) (by decide +kernel), List.mem_of_getElem? (i := 715) (by decide +kernel)⟩
theorem lw_p42 : lw_okq (⟨"EmissionRowsModel", "tellFrozen", "(I)V"⟩, 25) := ⟨⟨by decide +kernel, by decide +kernel⟩, List.mem_of_getElem? (i := 533) (by decide +kernel), List.mem_of_getElem? (i := 718) (by decide +kernel), List.mem_of_getElem? (i := 719) (by decide +kernel)⟩
theorem lw_p43 : lw_okq (⟨"EmissionRowsModel", "tellCodes", "(I)V"⟩, 25) := ⟨⟨by decide +kernel, by decide +kernel⟩, List.mem_of_getElem? (i := 533) (by decide +kernel), List.mem_of_getElem? (i := 722) (by decide +kernel), List.mem_of_getElem? (i := 723) (by decide +kernel)⟩
def lw_privs_3 : List (MethodName × Nat) := [(⟨"EmissionRows$Octets", "has", "(I)Z"⟩, 2), (⟨"EmissionRowsModel", "hasChance", "(II)Z"⟩, 25), (⟨"EmissionRowsModel", "count", "(IZ)V"⟩, 25), (⟨"EmissionRowsModel", "endOn", "(II)V"⟩, 25), (⟨"EmissionRowsModel", "endOff", "(II)V"⟩, 25), (⟨"EmissionRowsModel", "confirmedCodes", "()I"⟩, 25), (⟨"EmissionRowsModel", "firstFrozen", "()I"⟩, 25), (⟨"EmissionRowsModel", "tellState", "()V"⟩, 25), (⟨"EmissionRowsModel", "put", "(I)V"⟩, 25), (⟨"EmissionRowsModel", "putTwo", "(I)V"⟩, 25), (⟨"EmissionRowsModel", "tellFrozen", "(I)V"⟩, 25), (⟨"EmissionRowsModel", "tellCodes", "(I)V"⟩, 25)]
theorem lw_r3 : ∀ q ∈ lw_privs_3, lw_okq q := List.forall_mem_cons.mpr ⟨lw_p32, List.forall_mem_cons.mpr ⟨lw_p33, List.forall_mem_cons.mpr ⟨lw_p34, List.forall_mem_cons.mpr ⟨lw_p35, List.forall_mem_cons.mpr ⟨lw_p36, List.forall_mem_cons.mpr ⟨lw_p37, List.forall_mem_cons.mpr ⟨lw_p38, List.forall_mem_cons.mpr ⟨lw_p39, List.forall_mem_cons.mpr ⟨lw_p40, List.forall_mem_cons.mpr ⟨lw_p41, List.forall_mem_cons.mpr ⟨lw_p42, List.forall_mem_cons.mpr ⟨lw_p43, fun _ h => absurd h List.not_mem_nil⟩⟩⟩⟩⟩⟩⟩⟩⟩⟩⟩⟩
def lw_privs : List (MethodName × Nat) := lw_privs_1 ++ (lw_privs_2 ++ (lw_privs_3))
def lw_tbl : List Cond := k2_sels lw_privs ++ tables_1
theorem lw_privs_ok : ∀ q ∈ lw_privs, lw_okq q := by
  show ∀ q ∈ lw_privs_1 ++ (lw_privs_2 ++ (lw_privs_3)), lw_okq q
  exact List.forall_mem_append.mpr ⟨lw_r1, List.forall_mem_append.mpr ⟨lw_r2, lw_r3⟩⟩
end
section
def R_ER : String := "EmissionRows"
def R_MON : String := "EmissionRows$Monitor"
def R_COD : String := "EmissionRows$Code"
def R_LAMP : String := "EmissionRows$Lamp"
def R_OCT : String := "EmissionRows$Octets"
def R_MOD : String := "EmissionRowsModel"
def R_LAW : String := "EmissionRowsLaw"
def R_AL : String := "java/util/ArrayList"
def R_ABL : String := "java/util/AbstractList"
def R_ABC : String := "java/util/AbstractCollection"
def R_OBJS : String := "java/util/Objects"
def R_PRE : String := "jdk/internal/util/Preconditions"
def R_ASUP : String := "jdk/internal/util/ArraysSupport"
def R_ARRS : String := "java/util/Arrays"
def R_MATH : String := "java/lang/Math"
def R_SYS : String := "java/lang/System"
def R_OBJ : String := "java/lang/Object"
def R_THR : String := "java/lang/Throwable"
def R_EXC : String := "java/lang/Exception"
def R_RTE : String := "java/lang/RuntimeException"
def R_ARE : String := "java/lang/ArithmeticException"
def R_IOB : String := "java/lang/IndexOutOfBoundsException"
def R_STR : String := "java/lang/String"
def T_ER : u_T := fun k => match k with
  | 0 => ("EmissionRows", "monitors", "Ljava/util/ArrayList;", true)
  | 1 => ("EmissionRows", "codes", "Ljava/util/ArrayList;", true)
  | 2 => ("EmissionRows", "warning", "LEmissionRows$Lamp;", true)
  | 3 => ("EmissionRows", "told", "LEmissionRows$Octets;", true)
  | _ => ("EmissionRows", "cycles", "I", false)
def t_ER : Nat → FieldType := fun k => match k with
  | 0 => .object "java/util/ArrayList"
  | 1 => .object "java/util/ArrayList"
  | 2 => .object "EmissionRows$Lamp"
  | 3 => .object "EmissionRows$Octets"
  | _ => .int
theorem nok_ER : ∀ a, a < 5 → ∀ b, b < 5 → a ≠ b → (T_ER a).2.1 ≠ (T_ER b).2.1 := by decide +kernel
theorem tok_ER : ∀ k, k < 5 → parseFieldDescriptor (T_ER k).2.2.1 = some (t_ER k) := by decide +kernel
def T_AL : u_T := fun k => match k with
  | 0 => ("java/util/AbstractList", "modCount", "I", false)
  | 1 => ("java/util/ArrayList", "elementData", "[Ljava/lang/Object;", false)
  | _ => ("java/util/ArrayList", "size", "I", false)
def t_AL : Nat → FieldType := fun k => match k with
  | 0 => .int
  | 1 => .array (.object "java/lang/Object")
  | _ => .int
theorem nok_AL : ∀ a, a < 3 → ∀ b, b < 3 → a ≠ b → (T_AL a).2.1 ≠ (T_AL b).2.1 := by decide +kernel
theorem tok_AL : ∀ k, k < 3 → parseFieldDescriptor (T_AL k).2.2.1 = some (t_AL k) := by decide +kernel
def T_LAMP : u_T := fun k => match k with
  | 0 => ("EmissionRows$Lamp", "lit", "Z", false)
  | 1 => ("EmissionRows$Lamp", "metres", "J", false)
  | _ => ("EmissionRows$Lamp", "minutes", "J", false)
def t_LAMP : Nat → FieldType := fun k => match k with
  | 0 => .boolean
  | 1 => .long
  | _ => .long
theorem nok_LAMP : ∀ a, a < 3 → ∀ b, b < 3 → a ≠ b → (T_LAMP a).2.1 ≠ (T_LAMP b).2.1 := by decide +kernel
theorem tok_LAMP : ∀ k, k < 3 → parseFieldDescriptor (T_LAMP k).2.2.1 = some (t_LAMP k) := by decide +kernel
def T_OCT : u_T := fun k => match k with
  | 0 => ("EmissionRows$Octets", "octets", "[B", true)
  | _ => ("EmissionRows$Octets", "length", "I", false)
def t_OCT : Nat → FieldType := fun k => match k with
  | 0 => .array .byte
  | _ => .int
theorem nok_OCT : ∀ a, a < 2 → ∀ b, b < 2 → a ≠ b → (T_OCT a).2.1 ≠ (T_OCT b).2.1 := by decide +kernel
theorem tok_OCT : ∀ k, k < 2 → parseFieldDescriptor (T_OCT k).2.2.1 = some (t_OCT k) := by decide +kernel
def T_MON : u_T := fun k => match k with
  | 0 => ("EmissionRows$Monitor", "kind", "I", true)
  | 1 => ("EmissionRows$Monitor", "condition", "I", true)
  | 2 => ("EmissionRows$Monitor", "runs", "I", false)
  | 3 => ("EmissionRows$Monitor", "chances", "I", false)
  | 4 => ("EmissionRows$Monitor", "cyclesHeld", "I", false)
  | _ => ("EmissionRows$Monitor", "tested", "Z", false)
def t_MON : Nat → FieldType := fun k => match k with
  | 0 => .int
  | 1 => .int
  | 2 => .int
  | 3 => .int
  | 4 => .int
  | _ => .boolean
theorem nok_MON : ∀ a, a < 6 → ∀ b, b < 6 → a ≠ b → (T_MON a).2.1 ≠ (T_MON b).2.1 := by decide +kernel
theorem tok_MON : ∀ k, k < 6 → parseFieldDescriptor (T_MON k).2.2.1 = some (t_MON k) := by decide +kernel
def T_COD : u_T := fun k => match k with
  | 0 => ("EmissionRows$Code", "number", "I", true)
  | 1 => ("EmissionRows$Code", "on", "Z", false)
  | 2 => ("EmissionRows$Code", "pending", "Z", false)
  | 3 => ("EmissionRows$Code", "confirmed", "Z", false)
  | 4 => ("EmissionRows$Code", "lasting", "Z", false)
  | 5 => ("EmissionRows$Code", "offInARow", "I", false)
  | 6 => ("EmissionRows$Code", "offWithConditionZero", "I", false)
  | 7 => ("EmissionRows$Code", "frozenCycle", "I", false)
  | _ => ("EmissionRows$Code", "frozenConditions", "I", false)
def t_COD : Nat → FieldType := fun k => match k with
  | 0 => .int
  | 1 => .boolean
  | 2 => .boolean
  | 3 => .boolean
  | 4 => .boolean
  | 5 => .int
  | 6 => .int
  | 7 => .int
  | _ => .int
theorem nok_COD : ∀ a, a < 9 → ∀ b, b < 9 → a ≠ b → (T_COD a).2.1 ≠ (T_COD b).2.1 := by decide +kernel
theorem tok_COD : ∀ k, k < 9 → parseFieldDescriptor (T_COD k).2.2.1 = some (t_COD k) := by decide +kernel
def T_MOD : u_T := fun k => match k with
  | 0 => ("EmissionRowsModel", "code", "I", false)
  | 1 => ("EmissionRowsModel", "monitors", "I", false)
  | 2 => ("EmissionRowsModel", "kind", "[I", true)
  | 3 => ("EmissionRowsModel", "condition", "[I", true)
  | 4 => ("EmissionRowsModel", "runs", "[I", true)
  | 5 => ("EmissionRowsModel", "chances", "[I", true)
  | 6 => ("EmissionRowsModel", "held", "[I", true)
  | 7 => ("EmissionRowsModel", "ready", "[Z", true)
  | 8 => ("EmissionRowsModel", "codes", "I", false)
  | 9 => ("EmissionRowsModel", "number", "[I", true)
  | 10 => ("EmissionRowsModel", "on", "[Z", true)
  | 11 => ("EmissionRowsModel", "pending", "[Z", true)
  | 12 => ("EmissionRowsModel", "confirmed", "[Z", true)
  | 13 => ("EmissionRowsModel", "permanent", "[Z", true)
  | 14 => ("EmissionRowsModel", "off", "[I", true)
  | 15 => ("EmissionRowsModel", "passed", "[I", true)
  | 16 => ("EmissionRowsModel", "frozen", "[Z", true)
  | 17 => ("EmissionRowsModel", "frozenCycle", "[I", true)
  | 18 => ("EmissionRowsModel", "frozenConditions", "[I", true)
  | 19 => ("EmissionRowsModel", "cycles", "I", false)
  | 20 => ("EmissionRowsModel", "lit", "Z", false)
  | 21 => ("EmissionRowsModel", "metresLit", "J", false)
  | 22 => ("EmissionRowsModel", "minutesLit", "J", false)
  | 23 => ("EmissionRowsModel", "size", "I", false)
  | _ => ("EmissionRowsModel", "row", "[I", true)
def t_MOD : Nat → FieldType := fun k => match k with
  | 0 => .int
  | 1 => .int
  | 2 => .array .int
  | 3 => .array .int
  | 4 => .array .int
  | 5 => .array .int
  | 6 => .array .int
  | 7 => .array .boolean
  | 8 => .int
  | 9 => .array .int
  | 10 => .array .boolean
  | 11 => .array .boolean
  | 12 => .array .boolean
  | 13 => .array .boolean
  | 14 => .array .int
  | 15 => .array .int
  | 16 => .array .boolean
  | 17 => .array .int
  | 18 => .array .int
  | 19 => .int
  | 20 => .boolean
  | 21 => .long
  | 22 => .long
  | 23 => .int
  | _ => .array .int
theorem nok_MOD : ∀ a, a < 25 → ∀ b, b < 25 → a ≠ b → (T_MOD a).2.1 ≠ (T_MOD b).2.1 := by decide +kernel
theorem tok_MOD : ∀ k, k < 25 → parseFieldDescriptor (T_MOD k).2.2.1 = some (t_MOD k) := by decide +kernel
abbrev vwCl : List vw_C := [(R_ER, T_ER, 5), (R_AL, T_AL, 3), (R_LAMP, T_LAMP, 3), (R_OCT, T_OCT, 2), (R_MON, T_MON, 6), (R_COD, T_COD, 9), (R_MOD, T_MOD, 25)]
def lwG : List Cond := lw_tbl.filter goodWord
theorem in_ER : ∀ w ∈ u_ws R_ER T_ER 5, w ∈ lwG := by decide +kernel
theorem in_AL : ∀ w ∈ u_ws R_AL T_AL 3, w ∈ lwG := by decide +kernel
theorem in_LAMP : ∀ w ∈ u_ws R_LAMP T_LAMP 3, w ∈ lwG := by decide +kernel
theorem in_OCT : ∀ w ∈ u_ws R_OCT T_OCT 2, w ∈ lwG := by decide +kernel
theorem in_MON : ∀ w ∈ u_ws R_MON T_MON 6, w ∈ lwG := by decide +kernel
theorem in_COD : ∀ w ∈ u_ws R_COD T_COD 9, w ∈ lwG := by decide +kernel
theorem in_MOD : ∀ w ∈ u_ws R_MOD T_MOD 25, w ∈ lwG := by decide +kernel
theorem gi_all {a b : Cond} (h : b ∈ lwG) : GoodIn (a :: lwG) (b :: lwG) := by
  intro w hw
  rcases List.mem_cons.mp hw with rfl | h9
  · exact ⟨List.mem_cons_of_mem _ h, good_of_word (List.mem_filter.mp h).2⟩
  · exact ⟨List.mem_cons_of_mem _ h9, good_of_word (List.mem_filter.mp h9).2⟩
def nwL : List Cond := [.methodLinkNest "EmissionRows" 21 ⟨"EmissionRows$Lamp", "<init>", "()V"⟩ "EmissionRows", .fieldLinkNest "EmissionRows" 214 "EmissionRows$Lamp" "lit" "Z" "EmissionRows", .fieldLinkNest "EmissionRows" 220 "EmissionRows$Lamp" "metres" "J" "EmissionRows", .fieldLinkNest "EmissionRows" 134 "EmissionRows$Lamp" "minutes" "J" "EmissionRows", .methodLinkNest "EmissionRows" 28 ⟨"EmissionRows$Octets", "<init>", "()V"⟩ "EmissionRows", .fieldLinkNest "EmissionRows" 178 "EmissionRows$Octets" "octets" "[B" "EmissionRows", .fieldLinkNest "EmissionRows" 167 "EmissionRows$Octets" "length" "I" "EmissionRows", .methodLinkNest "EmissionRows" 47 ⟨"EmissionRows$Monitor", "<init>", "(II)V"⟩ "EmissionRows", .fieldLinkNest "EmissionRows" 202 "EmissionRows$Monitor" "kind" "I" "EmissionRows", .fieldLinkNest "EmissionRows" 77 "EmissionRows$Monitor" "runs" "I" "EmissionRows", .fieldLinkNest "EmissionRows" 80 "EmissionRows$Monitor" "chances" "I" "EmissionRows", .fieldLinkNest "EmissionRows" 122 "EmissionRows$Monitor" "tested" "Z" "EmissionRows", .methodLinkNest "EmissionRows" 189 ⟨"EmissionRows$Monitor", "endCycle", "(IZ)Z"⟩ "EmissionRows", .methodLinkNest "EmissionRows$Monitor" 39 ⟨"EmissionRows", "isBitSet", "(II)Z"⟩ "EmissionRows", .methodLinkNest "EmissionRows" 193 ⟨"EmissionRows$Code", "endCycleOn", "(II)V"⟩ "EmissionRows", .methodLinkNest "EmissionRows" 196 ⟨"EmissionRows$Code", "endCycleOff", "(I)V"⟩ "EmissionRows", .methodLinkNest "EmissionRows$Code" 40 ⟨"EmissionRows", "isBitSet", "(II)Z"⟩ "EmissionRows", .methodLinkNest "EmissionRows" 66 ⟨"EmissionRows$Lamp", "follow", "(Z)V"⟩ "EmissionRows", .methodLinkNest "EmissionRows" 110 ⟨"EmissionRows$Code", "<init>", "(IZ)V"⟩ "EmissionRows", .fieldLinkNest "EmissionRows" 116 "EmissionRows$Code" "number" "I" "EmissionRows", .fieldLinkNest "EmissionRows" 104 "EmissionRows$Code" "on" "Z" "EmissionRows", .fieldLinkNest "EmissionRows" 199 "EmissionRows$Code" "confirmed" "Z" "EmissionRows", .fieldLinkNest "EmissionRows" 113 "EmissionRows$Code" "lasting" "Z" "EmissionRows", .fieldLinkNest "EmissionRows" 146 "EmissionRows$Code" "frozenCycle" "I" "EmissionRows", .fieldLinkNest "EmissionRows" 149 "EmissionRows$Code" "frozenConditions" "I" "EmissionRows", .methodLinkNest "EmissionRows" 119 ⟨"EmissionRows$Code", "forgetFault", "()V"⟩ "EmissionRows", .methodLinkNest "EmissionRows" 125 ⟨"EmissionRows$Lamp", "reset", "()V"⟩ "EmissionRows", .methodLinkNest "EmissionRows" 130 ⟨"EmissionRows$Lamp", "goOn", "(JJ)Z"⟩ "EmissionRows", .methodLinkNest "EmissionRows" 205 ⟨"EmissionRows$Code", "hasFrozenRow", "()Z"⟩ "EmissionRows", .methodLinkNest "EmissionRows" 152 ⟨"EmissionRows$Octets", "drop", "()V"⟩ "EmissionRows", .methodLinkNest "EmissionRows" 209 ⟨"EmissionRows$Octets", "begin", "(I)V"⟩ "EmissionRows", .methodLinkNest "EmissionRows" 212 ⟨"EmissionRows$Octets", "add", "(I)V"⟩ "EmissionRows", .methodLinkNest "EmissionRows" 225 ⟨"EmissionRows$Octets", "addTwo", "(I)V"⟩ "EmissionRows", .methodLinkNest "EmissionRows" 228 ⟨"EmissionRows$Code", "isToldIn", "(I)Z"⟩ "EmissionRows", .methodLinkNest "EmissionRows" 182 ⟨"EmissionRows$Octets", "total", "()I"⟩ "EmissionRows", .castable "java/lang/ArithmeticException" "java/lang/ArithmeticException", .methodLinkNest "EmissionRows" 170 ⟨"EmissionRows$Octets", "has", "(I)Z"⟩ "EmissionRows", .castable "java/lang/IndexOutOfBoundsException" "java/lang/IndexOutOfBoundsException", .castable "EmissionRows$Monitor" "EmissionRows$Monitor", .castable "EmissionRows$Code" "EmissionRows$Code", .castable "EmissionRows" "java/lang/Object", .castable "EmissionRows$Lamp" "java/lang/Object", .castable "EmissionRows$Octets" "java/lang/Object", .castable "EmissionRowsModel" "java/lang/Object", .castable "EmissionRows$Monitor" "java/lang/Object", .castable "EmissionRows$Code" "java/lang/Object", .castable "java/lang/String" "java/lang/Object"]
def gT (G : va_G × (Nat → ClassId)) : List (ClassId × FieldType) := [(G.2 0, .object "java/lang/Object"), (G.2 1, .byte), (G.2 2, .int), (G.2 3, .boolean), (G.2 4, .long)]
theorem nw_101 : (.methodLinkNest "EmissionRows" 21 ⟨"EmissionRows$Lamp", "<init>", "()V"⟩ "EmissionRows" : Cond) ∈ nwL := List.mem_of_getElem? (i := 0) rfl
theorem nw_106 : (.fieldLinkNest "EmissionRows" 214 "EmissionRows$Lamp" "lit" "Z" "EmissionRows" : Cond) ∈ nwL := List.mem_of_getElem? (i := 1) rfl
theorem nw_108 : (.fieldLinkNest "EmissionRows" 220 "EmissionRows$Lamp" "metres" "J" "EmissionRows" : Cond) ∈ nwL := List.mem_of_getElem? (i := 2) rfl
theorem nw_110 : (.fieldLinkNest "EmissionRows" 134 "EmissionRows$Lamp" "minutes" "J" "EmissionRows" : Cond) ∈ nwL := List.mem_of_getElem? (i := 3) rfl
theorem nw_120 : (.methodLinkNest "EmissionRows" 28 ⟨"EmissionRows$Octets", "<init>", "()V"⟩ "EmissionRows" : Cond) ∈ nwL := List.mem_of_getElem? (i := 4) rfl
theorem nw_125 : (.fieldLinkNest "EmissionRows" 178 "EmissionRows$Octets" "octets" "[B" "EmissionRows" : Cond) ∈ nwL := List.mem_of_getElem? (i := 5) rfl
theorem nw_127 : (.fieldLinkNest "EmissionRows" 167 "EmissionRows$Octets" "length" "I" "EmissionRows" : Cond) ∈ nwL := List.mem_of_getElem? (i := 6) rfl
theorem nw_163 : (.methodLinkNest "EmissionRows" 47 ⟨"EmissionRows$Monitor", "<init>", "(II)V"⟩ "EmissionRows" : Cond) ∈ nwL := List.mem_of_getElem? (i := 7) rfl
theorem nw_168 : (.fieldLinkNest "EmissionRows" 202 "EmissionRows$Monitor" "kind" "I" "EmissionRows" : Cond) ∈ nwL := List.mem_of_getElem? (i := 8) rfl
theorem nw_171 : (.fieldLinkNest "EmissionRows" 77 "EmissionRows$Monitor" "runs" "I" "EmissionRows" : Cond) ∈ nwL := List.mem_of_getElem? (i := 9) rfl
theorem nw_173 : (.fieldLinkNest "EmissionRows" 80 "EmissionRows$Monitor" "chances" "I" "EmissionRows" : Cond) ∈ nwL := List.mem_of_getElem? (i := 10) rfl
theorem nw_176 : (.fieldLinkNest "EmissionRows" 122 "EmissionRows$Monitor" "tested" "Z" "EmissionRows" : Cond) ∈ nwL := List.mem_of_getElem? (i := 11) rfl
theorem nw_272 : (.methodLinkNest "EmissionRows" 189 ⟨"EmissionRows$Monitor", "endCycle", "(IZ)Z"⟩ "EmissionRows" : Cond) ∈ nwL := List.mem_of_getElem? (i := 12) rfl
theorem nw_280 : (.methodLinkNest "EmissionRows$Monitor" 39 ⟨"EmissionRows", "isBitSet", "(II)Z"⟩ "EmissionRows" : Cond) ∈ nwL := List.mem_of_getElem? (i := 13) rfl
theorem nw_290 : (.methodLinkNest "EmissionRows" 193 ⟨"EmissionRows$Code", "endCycleOn", "(II)V"⟩ "EmissionRows" : Cond) ∈ nwL := List.mem_of_getElem? (i := 14) rfl
theorem nw_295 : (.methodLinkNest "EmissionRows" 196 ⟨"EmissionRows$Code", "endCycleOff", "(I)V"⟩ "EmissionRows" : Cond) ∈ nwL := List.mem_of_getElem? (i := 15) rfl
theorem nw_299 : (.methodLinkNest "EmissionRows$Code" 40 ⟨"EmissionRows", "isBitSet", "(II)Z"⟩ "EmissionRows" : Cond) ∈ nwL := List.mem_of_getElem? (i := 16) rfl
theorem nw_308 : (.methodLinkNest "EmissionRows" 66 ⟨"EmissionRows$Lamp", "follow", "(Z)V"⟩ "EmissionRows" : Cond) ∈ nwL := List.mem_of_getElem? (i := 17) rfl
theorem nw_340 : (.methodLinkNest "EmissionRows" 110 ⟨"EmissionRows$Code", "<init>", "(IZ)V"⟩ "EmissionRows" : Cond) ∈ nwL := List.mem_of_getElem? (i := 18) rfl
theorem nw_345 : (.fieldLinkNest "EmissionRows" 116 "EmissionRows$Code" "number" "I" "EmissionRows" : Cond) ∈ nwL := List.mem_of_getElem? (i := 19) rfl
theorem nw_347 : (.fieldLinkNest "EmissionRows" 104 "EmissionRows$Code" "on" "Z" "EmissionRows" : Cond) ∈ nwL := List.mem_of_getElem? (i := 20) rfl
theorem nw_350 : (.fieldLinkNest "EmissionRows" 199 "EmissionRows$Code" "confirmed" "Z" "EmissionRows" : Cond) ∈ nwL := List.mem_of_getElem? (i := 21) rfl
theorem nw_352 : (.fieldLinkNest "EmissionRows" 113 "EmissionRows$Code" "lasting" "Z" "EmissionRows" : Cond) ∈ nwL := List.mem_of_getElem? (i := 22) rfl
theorem nw_356 : (.fieldLinkNest "EmissionRows" 146 "EmissionRows$Code" "frozenCycle" "I" "EmissionRows" : Cond) ∈ nwL := List.mem_of_getElem? (i := 23) rfl
theorem nw_358 : (.fieldLinkNest "EmissionRows" 149 "EmissionRows$Code" "frozenConditions" "I" "EmissionRows" : Cond) ∈ nwL := List.mem_of_getElem? (i := 24) rfl
theorem nw_386 : (.methodLinkNest "EmissionRows" 119 ⟨"EmissionRows$Code", "forgetFault", "()V"⟩ "EmissionRows" : Cond) ∈ nwL := List.mem_of_getElem? (i := 25) rfl
theorem nw_387 : (.methodLinkNest "EmissionRows" 125 ⟨"EmissionRows$Lamp", "reset", "()V"⟩ "EmissionRows" : Cond) ∈ nwL := List.mem_of_getElem? (i := 26) rfl
theorem nw_393 : (.methodLinkNest "EmissionRows" 130 ⟨"EmissionRows$Lamp", "goOn", "(JJ)Z"⟩ "EmissionRows" : Cond) ∈ nwL := List.mem_of_getElem? (i := 27) rfl
theorem nw_412 : (.methodLinkNest "EmissionRows" 205 ⟨"EmissionRows$Code", "hasFrozenRow", "()Z"⟩ "EmissionRows" : Cond) ∈ nwL := List.mem_of_getElem? (i := 28) rfl
theorem nw_420 : (.methodLinkNest "EmissionRows" 152 ⟨"EmissionRows$Octets", "drop", "()V"⟩ "EmissionRows" : Cond) ∈ nwL := List.mem_of_getElem? (i := 29) rfl
theorem nw_428 : (.methodLinkNest "EmissionRows" 209 ⟨"EmissionRows$Octets", "begin", "(I)V"⟩ "EmissionRows" : Cond) ∈ nwL := List.mem_of_getElem? (i := 30) rfl
theorem nw_436 : (.methodLinkNest "EmissionRows" 212 ⟨"EmissionRows$Octets", "add", "(I)V"⟩ "EmissionRows" : Cond) ∈ nwL := List.mem_of_getElem? (i := 31) rfl
theorem nw_442 : (.methodLinkNest "EmissionRows" 225 ⟨"EmissionRows$Octets", "addTwo", "(I)V"⟩ "EmissionRows" : Cond) ∈ nwL := List.mem_of_getElem? (i := 32) rfl
theorem nw_458 : (.methodLinkNest "EmissionRows" 228 ⟨"EmissionRows$Code", "isToldIn", "(I)Z"⟩ "EmissionRows" : Cond) ∈ nwL := List.mem_of_getElem? (i := 33) rfl
theorem nw_466 : (.methodLinkNest "EmissionRows" 182 ⟨"EmissionRows$Octets", "total", "()I"⟩ "EmissionRows" : Cond) ∈ nwL := List.mem_of_getElem? (i := 34) rfl
theorem nw_481 : (.castable "java/lang/ArithmeticException" "java/lang/ArithmeticException" : Cond) ∈ nwL := List.mem_of_getElem? (i := 35) rfl
theorem nw_556 : (.methodLinkNest "EmissionRows" 170 ⟨"EmissionRows$Octets", "has", "(I)Z"⟩ "EmissionRows" : Cond) ∈ nwL := List.mem_of_getElem? (i := 36) rfl
theorem nw_562 : (.castable "java/lang/IndexOutOfBoundsException" "java/lang/IndexOutOfBoundsException" : Cond) ∈ nwL := List.mem_of_getElem? (i := 37) rfl
theorem nw_780 : (.castable "EmissionRows$Monitor" "EmissionRows$Monitor" : Cond) ∈ nwL := List.mem_of_getElem? (i := 38) rfl
theorem nw_781 : (.castable "EmissionRows$Code" "EmissionRows$Code" : Cond) ∈ nwL := List.mem_of_getElem? (i := 39) rfl
theorem nw_785 : (.castable "EmissionRows" "java/lang/Object" : Cond) ∈ nwL := List.mem_of_getElem? (i := 40) rfl
theorem nw_786 : (.castable "EmissionRows$Lamp" "java/lang/Object" : Cond) ∈ nwL := List.mem_of_getElem? (i := 41) rfl
theorem nw_787 : (.castable "EmissionRows$Octets" "java/lang/Object" : Cond) ∈ nwL := List.mem_of_getElem? (i := 42) rfl
theorem nw_788 : (.castable "EmissionRowsModel" "java/lang/Object" : Cond) ∈ nwL := List.mem_of_getElem? (i := 43) rfl
theorem nw_789 : (.castable "EmissionRows$Monitor" "java/lang/Object" : Cond) ∈ nwL := List.mem_of_getElem? (i := 44) rfl
theorem nw_790 : (.castable "EmissionRows$Code" "java/lang/Object" : Cond) ∈ nwL := List.mem_of_getElem? (i := 45) rfl
theorem nw_791 : (.castable "java/lang/String" "java/lang/Object" : Cond) ∈ nwL := List.mem_of_getElem? (i := 46) rfl
end
section
theorem wd_44 : (.initialized "EmissionRowsLaw" : Cond) ∈ lwG := List.mem_filter.mpr ⟨List.mem_of_getElem? (i := 44) (by decide +kernel), by decide +kernel⟩
theorem wd_45 : (.initialized "EmissionRows" : Cond) ∈ lwG := List.mem_filter.mpr ⟨List.mem_of_getElem? (i := 45) (by decide +kernel), by decide +kernel⟩
theorem wd_46 : (.initialized "java/util/AbstractCollection" : Cond) ∈ lwG := List.mem_filter.mpr ⟨List.mem_of_getElem? (i := 46) (by decide +kernel), by decide +kernel⟩
theorem wd_47 : (.initialized "java/util/AbstractList" : Cond) ∈ lwG := List.mem_filter.mpr ⟨List.mem_of_getElem? (i := 47) (by decide +kernel), by decide +kernel⟩
theorem wd_48 : (.initialized "java/util/ArrayList" : Cond) ∈ lwG := List.mem_filter.mpr ⟨List.mem_of_getElem? (i := 48) (by decide +kernel), by decide +kernel⟩
theorem wd_49 : (.initialized "EmissionRows$Lamp" : Cond) ∈ lwG := List.mem_filter.mpr ⟨List.mem_of_getElem? (i := 49) (by decide +kernel), by decide +kernel⟩
theorem wd_50 : (.initialized "EmissionRows$Octets" : Cond) ∈ lwG := List.mem_filter.mpr ⟨List.mem_of_getElem? (i := 50) (by decide +kernel), by decide +kernel⟩
theorem wd_51 : (.initialized "EmissionRowsModel" : Cond) ∈ lwG := List.mem_filter.mpr ⟨List.mem_of_getElem? (i := 51) (by decide +kernel), by decide +kernel⟩
theorem wd_52 : (.initialized "EmissionRows$Monitor" : Cond) ∈ lwG := List.mem_filter.mpr ⟨List.mem_of_getElem? (i := 52) (by decide +kernel), by decide +kernel⟩
theorem wd_53 : (.initialized "jdk/internal/util/ArraysSupport" : Cond) ∈ lwG := List.mem_filter.mpr ⟨List.mem_of_getElem? (i := 53) (by decide +kernel), by decide +kernel⟩
theorem wd_54 : (.initialized "java/lang/Math" : Cond) ∈ lwG := List.mem_filter.mpr ⟨List.mem_of_getElem? (i := 54) (by decide +kernel), by decide +kernel⟩
theorem wd_55 : (.initialized "java/util/Arrays" : Cond) ∈ lwG := List.mem_filter.mpr ⟨List.mem_of_getElem? (i := 55) (by decide +kernel), by decide +kernel⟩
theorem wd_56 : (.initialized "java/lang/System" : Cond) ∈ lwG := List.mem_filter.mpr ⟨List.mem_of_getElem? (i := 56) (by decide +kernel), by decide +kernel⟩
theorem wd_57 : (.initialized "java/util/Objects" : Cond) ∈ lwG := List.mem_filter.mpr ⟨List.mem_of_getElem? (i := 57) (by decide +kernel), by decide +kernel⟩
theorem wd_58 : (.initialized "jdk/internal/util/Preconditions" : Cond) ∈ lwG := List.mem_filter.mpr ⟨List.mem_of_getElem? (i := 58) (by decide +kernel), by decide +kernel⟩
theorem wd_59 : (.initialized "java/lang/Throwable" : Cond) ∈ lwG := List.mem_filter.mpr ⟨List.mem_of_getElem? (i := 59) (by decide +kernel), by decide +kernel⟩
theorem wd_60 : (.initialized "java/lang/Exception" : Cond) ∈ lwG := List.mem_filter.mpr ⟨List.mem_of_getElem? (i := 60) (by decide +kernel), by decide +kernel⟩
theorem wd_61 : (.initialized "java/lang/RuntimeException" : Cond) ∈ lwG := List.mem_filter.mpr ⟨List.mem_of_getElem? (i := 61) (by decide +kernel), by decide +kernel⟩
theorem wd_62 : (.initialized "java/lang/ArithmeticException" : Cond) ∈ lwG := List.mem_filter.mpr ⟨List.mem_of_getElem? (i := 62) (by decide +kernel), by decide +kernel⟩
theorem wd_63 : (.initialized "EmissionRows$Code" : Cond) ∈ lwG := List.mem_filter.mpr ⟨List.mem_of_getElem? (i := 63) (by decide +kernel), by decide +kernel⟩
theorem wd_64 : (.initialized "java/lang/IndexOutOfBoundsException" : Cond) ∈ lwG := List.mem_filter.mpr ⟨List.mem_of_getElem? (i := 64) (by decide +kernel), by decide +kernel⟩
theorem wd_65 : (.classLink "EmissionRowsLaw" 8 "EmissionRows" : Cond) ∈ lwG := List.mem_filter.mpr ⟨List.mem_of_getElem? (i := 65) (by decide +kernel), by decide +kernel⟩
theorem wd_66 : (.instantiable "EmissionRows" 5 : Cond) ∈ lwG := List.mem_filter.mpr ⟨List.mem_of_getElem? (i := 66) (by decide +kernel), by decide +kernel⟩
theorem wd_67 : (.methodLink "EmissionRowsLaw" 21 ⟨"EmissionRows", "<init>", "()V"⟩ : Cond) ∈ lwG := List.mem_filter.mpr ⟨List.mem_of_getElem? (i := 67) (by decide +kernel), by decide +kernel⟩
theorem wd_68 : (.instanceMethod ⟨"EmissionRows", "<init>", "()V"⟩ : Cond) ∈ lwG := List.mem_filter.mpr ⟨List.mem_of_getElem? (i := 68) (by decide +kernel), by decide +kernel⟩
theorem wd_69 : (.code ⟨"EmissionRows", "<init>", "()V"⟩ prog_1_method_1_code 1 (Option.none : Option Jvm.ClassFile.FieldType) : Cond) ∈ lwG := List.mem_filter.mpr ⟨List.mem_of_getElem? (i := 69) (by decide +kernel), by decide +kernel⟩
theorem wd_70 : (.methodLink "EmissionRows" 1 ⟨"java/lang/Object", "<init>", "()V"⟩ : Cond) ∈ lwG := List.mem_filter.mpr ⟨List.mem_of_getElem? (i := 70) (by decide +kernel), by decide +kernel⟩
theorem wd_71 : (.instanceMethod ⟨"java/lang/Object", "<init>", "()V"⟩ : Cond) ∈ lwG := List.mem_filter.mpr ⟨List.mem_of_getElem? (i := 71) (by decide +kernel), by decide +kernel⟩
theorem wd_72 : (.code ⟨"java/lang/Object", "<init>", "()V"⟩ object_method_1_code 1 (Option.none : Option Jvm.ClassFile.FieldType) : Cond) ∈ lwG := List.mem_filter.mpr ⟨List.mem_of_getElem? (i := 72) (by decide +kernel), by decide +kernel⟩
theorem wd_73 : (.classLink "EmissionRows" 7 "java/util/ArrayList" : Cond) ∈ lwG := List.mem_filter.mpr ⟨List.mem_of_getElem? (i := 73) (by decide +kernel), by decide +kernel⟩
theorem wd_74 : (.instantiable "java/util/ArrayList" 3 : Cond) ∈ lwG := List.mem_filter.mpr ⟨List.mem_of_getElem? (i := 74) (by decide +kernel), by decide +kernel⟩
theorem wd_75 : (.methodLink "EmissionRows" 9 ⟨"java/util/ArrayList", "<init>", "()V"⟩ : Cond) ∈ lwG := List.mem_filter.mpr ⟨List.mem_of_getElem? (i := 75) (by decide +kernel), by decide +kernel⟩
theorem wd_76 : (.instanceMethod ⟨"java/util/ArrayList", "<init>", "()V"⟩ : Cond) ∈ lwG := List.mem_filter.mpr ⟨List.mem_of_getElem? (i := 76) (by decide +kernel), by decide +kernel⟩
theorem wd_77 : (.code ⟨"java/util/ArrayList", "<init>", "()V"⟩ prog_21_method_2_code 1 (Option.none : Option Jvm.ClassFile.FieldType) : Cond) ∈ lwG := List.mem_filter.mpr ⟨List.mem_of_getElem? (i := 77) (by decide +kernel), by decide +kernel⟩
theorem wd_78 : (.methodLink "java/util/ArrayList" 1 ⟨"java/util/AbstractList", "<init>", "()V"⟩ : Cond) ∈ lwG := List.mem_filter.mpr ⟨List.mem_of_getElem? (i := 78) (by decide +kernel), by decide +kernel⟩
theorem wd_79 : (.instanceMethod ⟨"java/util/AbstractList", "<init>", "()V"⟩ : Cond) ∈ lwG := List.mem_filter.mpr ⟨List.mem_of_getElem? (i := 79) (by decide +kernel), by decide +kernel⟩
theorem wd_80 : (.code ⟨"java/util/AbstractList", "<init>", "()V"⟩ prog_20_method_1_code 1 (Option.none : Option Jvm.ClassFile.FieldType) : Cond) ∈ lwG := List.mem_filter.mpr ⟨List.mem_of_getElem? (i := 80) (by decide +kernel), by decide +kernel⟩
theorem wd_81 : (.methodLink "java/util/AbstractList" 1 ⟨"java/util/AbstractCollection", "<init>", "()V"⟩ : Cond) ∈ lwG := List.mem_filter.mpr ⟨List.mem_of_getElem? (i := 81) (by decide +kernel), by decide +kernel⟩
theorem wd_82 : (.instanceMethod ⟨"java/util/AbstractCollection", "<init>", "()V"⟩ : Cond) ∈ lwG := List.mem_filter.mpr ⟨List.mem_of_getElem? (i := 82) (by decide +kernel), by decide +kernel⟩
theorem wd_83 : (.code ⟨"java/util/AbstractCollection", "<init>", "()V"⟩ prog_19_method_1_code 1 (Option.none : Option Jvm.ClassFile.FieldType) : Cond) ∈ lwG := List.mem_filter.mpr ⟨List.mem_of_getElem? (i := 83) (by decide +kernel), by decide +kernel⟩
theorem wd_84 : (.methodLink "java/util/AbstractCollection" 1 ⟨"java/lang/Object", "<init>", "()V"⟩ : Cond) ∈ lwG := List.mem_filter.mpr ⟨List.mem_of_getElem? (i := 84) (by decide +kernel), by decide +kernel⟩
theorem wd_85 : (.fieldLink "java/util/ArrayList" 39 "java/util/ArrayList" "DEFAULTCAPACITY_EMPTY_ELEMENTDATA" "[Ljava/lang/Object;" : Cond) ∈ lwG := List.mem_filter.mpr ⟨List.mem_of_getElem? (i := 85) (by decide +kernel), by decide +kernel⟩
theorem wd_87 : (.fieldLink "java/util/ArrayList" 9 "java/util/ArrayList" "elementData" "[Ljava/lang/Object;" : Cond) ∈ lwG := List.mem_filter.mpr ⟨List.mem_of_getElem? (i := 87) (by decide +kernel), by decide +kernel⟩
theorem wd_88 : (.fieldLink "java/util/ArrayList" 48 "java/util/ArrayList" "size" "I" : Cond) ∈ lwG := List.mem_filter.mpr ⟨List.mem_of_getElem? (i := 88) (by decide +kernel), by decide +kernel⟩
theorem wd_89 : (.fieldLink "java/util/AbstractList" 7 "java/util/AbstractList" "modCount" "I" : Cond) ∈ lwG := List.mem_filter.mpr ⟨List.mem_of_getElem? (i := 89) (by decide +kernel), by decide +kernel⟩
theorem wd_90 : (.fieldLink "java/util/ArrayList" 63 "java/util/ArrayList" "modCount" "I" : Cond) ∈ lwG := List.mem_filter.mpr ⟨List.mem_of_getElem? (i := 90) (by decide +kernel), by decide +kernel⟩
theorem wd_91 : (.sameField "java/util/ArrayList" "java/util/AbstractList" "modCount" "I" : Cond) ∈ lwG := List.mem_filter.mpr ⟨List.mem_of_getElem? (i := 91) (by decide +kernel), by decide +kernel⟩
theorem wd_99 : (.classLink "EmissionRows" 19 "EmissionRows$Lamp" : Cond) ∈ lwG := List.mem_filter.mpr ⟨List.mem_of_getElem? (i := 99) (by decide +kernel), by decide +kernel⟩
theorem wd_100 : (.instantiable "EmissionRows$Lamp" 3 : Cond) ∈ lwG := List.mem_filter.mpr ⟨List.mem_of_getElem? (i := 100) (by decide +kernel), by decide +kernel⟩
theorem wd_102 : (.instanceMethod ⟨"EmissionRows$Lamp", "<init>", "()V"⟩ : Cond) ∈ lwG := List.mem_filter.mpr ⟨List.mem_of_getElem? (i := 102) (by decide +kernel), by decide +kernel⟩
theorem wd_103 : (.code ⟨"EmissionRows$Lamp", "<init>", "()V"⟩ prog_3_method_1_code 1 (Option.none : Option Jvm.ClassFile.FieldType) : Cond) ∈ lwG := List.mem_filter.mpr ⟨List.mem_of_getElem? (i := 103) (by decide +kernel), by decide +kernel⟩
theorem wd_104 : (.methodLink "EmissionRows$Lamp" 1 ⟨"java/lang/Object", "<init>", "()V"⟩ : Cond) ∈ lwG := List.mem_filter.mpr ⟨List.mem_of_getElem? (i := 104) (by decide +kernel), by decide +kernel⟩
theorem wd_105 : (.fieldLink "EmissionRows$Lamp" 7 "EmissionRows$Lamp" "lit" "Z" : Cond) ∈ lwG := List.mem_filter.mpr ⟨List.mem_of_getElem? (i := 105) (by decide +kernel), by decide +kernel⟩
theorem wd_107 : (.fieldLink "EmissionRows$Lamp" 13 "EmissionRows$Lamp" "metres" "J" : Cond) ∈ lwG := List.mem_filter.mpr ⟨List.mem_of_getElem? (i := 107) (by decide +kernel), by decide +kernel⟩
theorem wd_109 : (.fieldLink "EmissionRows$Lamp" 17 "EmissionRows$Lamp" "minutes" "J" : Cond) ∈ lwG := List.mem_filter.mpr ⟨List.mem_of_getElem? (i := 109) (by decide +kernel), by decide +kernel⟩
theorem wd_118 : (.classLink "EmissionRows" 26 "EmissionRows$Octets" : Cond) ∈ lwG := List.mem_filter.mpr ⟨List.mem_of_getElem? (i := 118) (by decide +kernel), by decide +kernel⟩
theorem wd_119 : (.instantiable "EmissionRows$Octets" 2 : Cond) ∈ lwG := List.mem_filter.mpr ⟨List.mem_of_getElem? (i := 119) (by decide +kernel), by decide +kernel⟩
theorem wd_121 : (.instanceMethod ⟨"EmissionRows$Octets", "<init>", "()V"⟩ : Cond) ∈ lwG := List.mem_filter.mpr ⟨List.mem_of_getElem? (i := 121) (by decide +kernel), by decide +kernel⟩
theorem wd_122 : (.code ⟨"EmissionRows$Octets", "<init>", "()V"⟩ prog_5_method_1_code 1 (Option.none : Option Jvm.ClassFile.FieldType) : Cond) ∈ lwG := List.mem_filter.mpr ⟨List.mem_of_getElem? (i := 122) (by decide +kernel), by decide +kernel⟩
theorem wd_123 : (.methodLink "EmissionRows$Octets" 3 ⟨"java/lang/Object", "<init>", "()V"⟩ : Cond) ∈ lwG := List.mem_filter.mpr ⟨List.mem_of_getElem? (i := 123) (by decide +kernel), by decide +kernel⟩
theorem wd_124 : (.fieldLink "EmissionRows$Octets" 11 "EmissionRows$Octets" "octets" "[B" : Cond) ∈ lwG := List.mem_filter.mpr ⟨List.mem_of_getElem? (i := 124) (by decide +kernel), by decide +kernel⟩
theorem wd_126 : (.fieldLink "EmissionRows$Octets" 15 "EmissionRows$Octets" "length" "I" : Cond) ∈ lwG := List.mem_filter.mpr ⟨List.mem_of_getElem? (i := 126) (by decide +kernel), by decide +kernel⟩
theorem wd_133 : (.arrayClass .byte : Cond) ∈ lwG := List.mem_filter.mpr ⟨List.mem_of_getElem? (i := 133) (by decide +kernel), by decide +kernel⟩
theorem wd_134 : (.fieldLink "EmissionRows" 10 "EmissionRows" "monitors" "Ljava/util/ArrayList;" : Cond) ∈ lwG := List.mem_filter.mpr ⟨List.mem_of_getElem? (i := 134) (by decide +kernel), by decide +kernel⟩
theorem wd_135 : (.fieldLink "EmissionRows" 16 "EmissionRows" "codes" "Ljava/util/ArrayList;" : Cond) ∈ lwG := List.mem_filter.mpr ⟨List.mem_of_getElem? (i := 135) (by decide +kernel), by decide +kernel⟩
theorem wd_136 : (.fieldLink "EmissionRows" 22 "EmissionRows" "warning" "LEmissionRows$Lamp;" : Cond) ∈ lwG := List.mem_filter.mpr ⟨List.mem_of_getElem? (i := 136) (by decide +kernel), by decide +kernel⟩
theorem wd_137 : (.fieldLink "EmissionRows" 29 "EmissionRows" "told" "LEmissionRows$Octets;" : Cond) ∈ lwG := List.mem_filter.mpr ⟨List.mem_of_getElem? (i := 137) (by decide +kernel), by decide +kernel⟩
theorem wd_138 : (.fieldLink "EmissionRows" 33 "EmissionRows" "cycles" "I" : Cond) ∈ lwG := List.mem_filter.mpr ⟨List.mem_of_getElem? (i := 138) (by decide +kernel), by decide +kernel⟩
theorem wd_150 : (.methodLink "EmissionRowsLaw" 25 ⟨"EmissionRows", "monitor", "(II)I"⟩ : Cond) ∈ lwG := List.mem_filter.mpr ⟨List.mem_of_getElem? (i := 150) (by decide +kernel), by decide +kernel⟩
theorem wd_151 : (.instanceMethod ⟨"EmissionRows", "monitor", "(II)I"⟩ : Cond) ∈ lwG := List.mem_filter.mpr ⟨List.mem_of_getElem? (i := 151) (by decide +kernel), by decide +kernel⟩
theorem wd_152 : (.selects "EmissionRows" ⟨"EmissionRows", "monitor", "(II)I"⟩ ⟨"EmissionRows", "monitor", "(II)I"⟩ : Cond) ∈ lwG := List.mem_filter.mpr ⟨List.mem_of_getElem? (i := 152) (by decide +kernel), by decide +kernel⟩
theorem wd_153 : (.code ⟨"EmissionRows", "monitor", "(II)I"⟩ prog_1_method_2_code 3 (Option.some .int) : Cond) ∈ lwG := List.mem_filter.mpr ⟨List.mem_of_getElem? (i := 153) (by decide +kernel), by decide +kernel⟩
theorem wd_154 : (.methodLink "EmissionRows" 37 ⟨"EmissionRows", "isKind", "(I)Z"⟩ : Cond) ∈ lwG := List.mem_filter.mpr ⟨List.mem_of_getElem? (i := 154) (by decide +kernel), by decide +kernel⟩
theorem wd_155 : (.static ⟨"EmissionRows", "isKind", "(I)Z"⟩ : Cond) ∈ lwG := List.mem_filter.mpr ⟨List.mem_of_getElem? (i := 155) (by decide +kernel), by decide +kernel⟩
theorem wd_156 : (.code ⟨"EmissionRows", "isKind", "(I)Z"⟩ prog_1_method_15_code 1 (Option.some .boolean) : Cond) ∈ lwG := List.mem_filter.mpr ⟨List.mem_of_getElem? (i := 156) (by decide +kernel), by decide +kernel⟩
theorem wd_157 : (.methodLink "EmissionRows" 41 ⟨"java/util/ArrayList", "size", "()I"⟩ : Cond) ∈ lwG := List.mem_filter.mpr ⟨List.mem_of_getElem? (i := 157) (by decide +kernel), by decide +kernel⟩
theorem wd_158 : (.instanceMethod ⟨"java/util/ArrayList", "size", "()I"⟩ : Cond) ∈ lwG := List.mem_filter.mpr ⟨List.mem_of_getElem? (i := 158) (by decide +kernel), by decide +kernel⟩
theorem wd_159 : (.selects "java/util/ArrayList" ⟨"java/util/ArrayList", "size", "()I"⟩ ⟨"java/util/ArrayList", "size", "()I"⟩ : Cond) ∈ lwG := List.mem_filter.mpr ⟨List.mem_of_getElem? (i := 159) (by decide +kernel), by decide +kernel⟩
theorem wd_160 : (.code ⟨"java/util/ArrayList", "size", "()I"⟩ prog_21_method_8_code 1 (Option.some .int) : Cond) ∈ lwG := List.mem_filter.mpr ⟨List.mem_of_getElem? (i := 160) (by decide +kernel), by decide +kernel⟩
theorem wd_161 : (.classLink "EmissionRows" 45 "EmissionRows$Monitor" : Cond) ∈ lwG := List.mem_filter.mpr ⟨List.mem_of_getElem? (i := 161) (by decide +kernel), by decide +kernel⟩
theorem wd_162 : (.instantiable "EmissionRows$Monitor" 6 : Cond) ∈ lwG := List.mem_filter.mpr ⟨List.mem_of_getElem? (i := 162) (by decide +kernel), by decide +kernel⟩
theorem wd_164 : (.instanceMethod ⟨"EmissionRows$Monitor", "<init>", "(II)V"⟩ : Cond) ∈ lwG := List.mem_filter.mpr ⟨List.mem_of_getElem? (i := 164) (by decide +kernel), by decide +kernel⟩
theorem wd_165 : (.code ⟨"EmissionRows$Monitor", "<init>", "(II)V"⟩ prog_4_method_1_code 3 (Option.none : Option Jvm.ClassFile.FieldType) : Cond) ∈ lwG := List.mem_filter.mpr ⟨List.mem_of_getElem? (i := 165) (by decide +kernel), by decide +kernel⟩
theorem wd_166 : (.methodLink "EmissionRows$Monitor" 3 ⟨"java/lang/Object", "<init>", "()V"⟩ : Cond) ∈ lwG := List.mem_filter.mpr ⟨List.mem_of_getElem? (i := 166) (by decide +kernel), by decide +kernel⟩
theorem wd_167 : (.fieldLink "EmissionRows$Monitor" 25 "EmissionRows$Monitor" "kind" "I" : Cond) ∈ lwG := List.mem_filter.mpr ⟨List.mem_of_getElem? (i := 167) (by decide +kernel), by decide +kernel⟩
theorem wd_169 : (.fieldLink "EmissionRows$Monitor" 28 "EmissionRows$Monitor" "condition" "I" : Cond) ∈ lwG := List.mem_filter.mpr ⟨List.mem_of_getElem? (i := 169) (by decide +kernel), by decide +kernel⟩
theorem wd_170 : (.fieldLink "EmissionRows$Monitor" 9 "EmissionRows$Monitor" "runs" "I" : Cond) ∈ lwG := List.mem_filter.mpr ⟨List.mem_of_getElem? (i := 170) (by decide +kernel), by decide +kernel⟩
theorem wd_172 : (.fieldLink "EmissionRows$Monitor" 15 "EmissionRows$Monitor" "chances" "I" : Cond) ∈ lwG := List.mem_filter.mpr ⟨List.mem_of_getElem? (i := 172) (by decide +kernel), by decide +kernel⟩
theorem wd_174 : (.fieldLink "EmissionRows$Monitor" 18 "EmissionRows$Monitor" "cyclesHeld" "I" : Cond) ∈ lwG := List.mem_filter.mpr ⟨List.mem_of_getElem? (i := 174) (by decide +kernel), by decide +kernel⟩
theorem wd_175 : (.fieldLink "EmissionRows$Monitor" 21 "EmissionRows$Monitor" "tested" "Z" : Cond) ∈ lwG := List.mem_filter.mpr ⟨List.mem_of_getElem? (i := 175) (by decide +kernel), by decide +kernel⟩
theorem wd_190 : (.methodLink "EmissionRows" 50 ⟨"java/util/ArrayList", "add", "(Ljava/lang/Object;)Z"⟩ : Cond) ∈ lwG := List.mem_filter.mpr ⟨List.mem_of_getElem? (i := 190) (by decide +kernel), by decide +kernel⟩
theorem wd_191 : (.instanceMethod ⟨"java/util/ArrayList", "add", "(Ljava/lang/Object;)Z"⟩ : Cond) ∈ lwG := List.mem_filter.mpr ⟨List.mem_of_getElem? (i := 191) (by decide +kernel), by decide +kernel⟩
theorem wd_192 : (.selects "java/util/ArrayList" ⟨"java/util/ArrayList", "add", "(Ljava/lang/Object;)Z"⟩ ⟨"java/util/ArrayList", "add", "(Ljava/lang/Object;)Z"⟩ : Cond) ∈ lwG := List.mem_filter.mpr ⟨List.mem_of_getElem? (i := 192) (by decide +kernel), by decide +kernel⟩
theorem wd_193 : (.code ⟨"java/util/ArrayList", "add", "(Ljava/lang/Object;)Z"⟩ prog_21_method_25_code 2 (Option.some .boolean) : Cond) ∈ lwG := List.mem_filter.mpr ⟨List.mem_of_getElem? (i := 193) (by decide +kernel), by decide +kernel⟩
theorem wd_194 : (.methodLink "java/util/ArrayList" 131 ⟨"java/util/ArrayList", "add", "(Ljava/lang/Object;[Ljava/lang/Object;I)V"⟩ : Cond) ∈ lwG := List.mem_filter.mpr ⟨List.mem_of_getElem? (i := 194) (by decide +kernel), by decide +kernel⟩
theorem wd_196 : (.instanceMethod ⟨"java/util/ArrayList", "add", "(Ljava/lang/Object;[Ljava/lang/Object;I)V"⟩ : Cond) ∈ lwG := List.mem_filter.mpr ⟨List.mem_of_getElem? (i := 196) (by decide +kernel), by decide +kernel⟩
theorem wd_197 : (.code ⟨"java/util/ArrayList", "add", "(Ljava/lang/Object;[Ljava/lang/Object;I)V"⟩ prog_21_method_24_code 4 (Option.none : Option Jvm.ClassFile.FieldType) : Cond) ∈ lwG := List.mem_filter.mpr ⟨List.mem_of_getElem? (i := 197) (by decide +kernel), by decide +kernel⟩
theorem wd_198 : (.methodLink "java/util/ArrayList" 129 ⟨"java/util/ArrayList", "grow", "()[Ljava/lang/Object;"⟩ : Cond) ∈ lwG := List.mem_filter.mpr ⟨List.mem_of_getElem? (i := 198) (by decide +kernel), by decide +kernel⟩
theorem wd_200 : (.instanceMethod ⟨"java/util/ArrayList", "grow", "()[Ljava/lang/Object;"⟩ : Cond) ∈ lwG := List.mem_filter.mpr ⟨List.mem_of_getElem? (i := 200) (by decide +kernel), by decide +kernel⟩
theorem wd_201 : (.code ⟨"java/util/ArrayList", "grow", "()[Ljava/lang/Object;"⟩ prog_21_method_7_code 1 (Option.some (.array (.object "java/lang/Object"))) : Cond) ∈ lwG := List.mem_filter.mpr ⟨List.mem_of_getElem? (i := 201) (by decide +kernel), by decide +kernel⟩
theorem wd_202 : (.methodLink "java/util/ArrayList" 69 ⟨"java/util/ArrayList", "grow", "(I)[Ljava/lang/Object;"⟩ : Cond) ∈ lwG := List.mem_filter.mpr ⟨List.mem_of_getElem? (i := 202) (by decide +kernel), by decide +kernel⟩
theorem wd_204 : (.instanceMethod ⟨"java/util/ArrayList", "grow", "(I)[Ljava/lang/Object;"⟩ : Cond) ∈ lwG := List.mem_filter.mpr ⟨List.mem_of_getElem? (i := 204) (by decide +kernel), by decide +kernel⟩
theorem wd_205 : (.code ⟨"java/util/ArrayList", "grow", "(I)[Ljava/lang/Object;"⟩ prog_21_method_6_code 4 (Option.some (.array (.object "java/lang/Object"))) : Cond) ∈ lwG := List.mem_filter.mpr ⟨List.mem_of_getElem? (i := 205) (by decide +kernel), by decide +kernel⟩
theorem wd_206 : (.methodLink "java/util/ArrayList" 73 ⟨"jdk/internal/util/ArraysSupport", "newLength", "(III)I"⟩ : Cond) ∈ lwG := List.mem_filter.mpr ⟨List.mem_of_getElem? (i := 206) (by decide +kernel), by decide +kernel⟩
theorem wd_207 : (.static ⟨"jdk/internal/util/ArraysSupport", "newLength", "(III)I"⟩ : Cond) ∈ lwG := List.mem_filter.mpr ⟨List.mem_of_getElem? (i := 207) (by decide +kernel), by decide +kernel⟩
theorem wd_208 : (.code ⟨"jdk/internal/util/ArraysSupport", "newLength", "(III)I"⟩ prog_28_method_27_code 4 (Option.some .int) : Cond) ∈ lwG := List.mem_filter.mpr ⟨List.mem_of_getElem? (i := 208) (by decide +kernel), by decide +kernel⟩
theorem wd_209 : (.methodLink "jdk/internal/util/ArraysSupport" 194 ⟨"java/lang/Math", "max", "(II)I"⟩ : Cond) ∈ lwG := List.mem_filter.mpr ⟨List.mem_of_getElem? (i := 209) (by decide +kernel), by decide +kernel⟩
theorem wd_210 : (.static ⟨"java/lang/Math", "max", "(II)I"⟩ : Cond) ∈ lwG := List.mem_filter.mpr ⟨List.mem_of_getElem? (i := 210) (by decide +kernel), by decide +kernel⟩
theorem wd_211 : (.code ⟨"java/lang/Math", "max", "(II)I"⟩ prog_14_method_65_code 2 (Option.some .int) : Cond) ∈ lwG := List.mem_filter.mpr ⟨List.mem_of_getElem? (i := 211) (by decide +kernel), by decide +kernel⟩
theorem wd_212 : (.constant "jdk/internal/util/ArraysSupport" 200 2147483639 : Cond) ∈ lwG := List.mem_filter.mpr ⟨List.mem_of_getElem? (i := 212) (by decide +kernel), by decide +kernel⟩
theorem wd_213 : (.methodLink "jdk/internal/util/ArraysSupport" 201 ⟨"jdk/internal/util/ArraysSupport", "hugeLength", "(II)I"⟩ : Cond) ∈ lwG := List.mem_filter.mpr ⟨List.mem_of_getElem? (i := 213) (by decide +kernel), by decide +kernel⟩
theorem wd_214 : (.static ⟨"jdk/internal/util/ArraysSupport", "hugeLength", "(II)I"⟩ : Cond) ∈ lwG := List.mem_filter.mpr ⟨List.mem_of_getElem? (i := 214) (by decide +kernel), by decide +kernel⟩
theorem wd_215 : (.code ⟨"jdk/internal/util/ArraysSupport", "hugeLength", "(II)I"⟩ prog_28_method_28_code 3 (Option.some .int) : Cond) ∈ lwG := List.mem_filter.mpr ⟨List.mem_of_getElem? (i := 215) (by decide +kernel), by decide +kernel⟩
theorem wd_216 : (.methodLink "java/util/ArrayList" 66 ⟨"java/util/Arrays", "copyOf", "([Ljava/lang/Object;I)[Ljava/lang/Object;"⟩ : Cond) ∈ lwG := List.mem_filter.mpr ⟨List.mem_of_getElem? (i := 216) (by decide +kernel), by decide +kernel⟩
theorem wd_217 : (.static ⟨"java/util/Arrays", "copyOf", "([Ljava/lang/Object;I)[Ljava/lang/Object;"⟩ : Cond) ∈ lwG := List.mem_filter.mpr ⟨List.mem_of_getElem? (i := 217) (by decide +kernel), by decide +kernel⟩
theorem wd_218 : (.code ⟨"java/util/Arrays", "copyOf", "([Ljava/lang/Object;I)[Ljava/lang/Object;"⟩ prog_22_method_119_code 2 (Option.some (.array (.object "java/lang/Object"))) : Cond) ∈ lwG := List.mem_filter.mpr ⟨List.mem_of_getElem? (i := 218) (by decide +kernel), by decide +kernel⟩
theorem wd_219 : (.methodLink "java/util/Arrays" 86 ⟨"java/lang/Object", "getClass", "()Ljava/lang/Class;"⟩ : Cond) ∈ lwG := List.mem_filter.mpr ⟨List.mem_of_getElem? (i := 219) (by decide +kernel), by decide +kernel⟩
theorem wd_220 : (.instanceMethod ⟨"java/lang/Object", "getClass", "()Ljava/lang/Class;"⟩ : Cond) ∈ lwG := List.mem_filter.mpr ⟨List.mem_of_getElem? (i := 220) (by decide +kernel), by decide +kernel⟩
theorem wd_222 : (.selects "EmissionRows" ⟨"java/lang/Object", "getClass", "()Ljava/lang/Class;"⟩ ⟨"java/lang/Object", "getClass", "()Ljava/lang/Class;"⟩ : Cond) ∈ lwG := List.mem_filter.mpr ⟨List.mem_of_getElem? (i := 222) (by decide +kernel), by decide +kernel⟩
theorem wd_223 : (.selects "EmissionRows$Code" ⟨"java/lang/Object", "getClass", "()Ljava/lang/Class;"⟩ ⟨"java/lang/Object", "getClass", "()Ljava/lang/Class;"⟩ : Cond) ∈ lwG := List.mem_filter.mpr ⟨List.mem_of_getElem? (i := 223) (by decide +kernel), by decide +kernel⟩
theorem wd_224 : (.selects "EmissionRows$Lamp" ⟨"java/lang/Object", "getClass", "()Ljava/lang/Class;"⟩ ⟨"java/lang/Object", "getClass", "()Ljava/lang/Class;"⟩ : Cond) ∈ lwG := List.mem_filter.mpr ⟨List.mem_of_getElem? (i := 224) (by decide +kernel), by decide +kernel⟩
theorem wd_225 : (.selects "EmissionRows$Monitor" ⟨"java/lang/Object", "getClass", "()Ljava/lang/Class;"⟩ ⟨"java/lang/Object", "getClass", "()Ljava/lang/Class;"⟩ : Cond) ∈ lwG := List.mem_filter.mpr ⟨List.mem_of_getElem? (i := 225) (by decide +kernel), by decide +kernel⟩
theorem wd_226 : (.selects "EmissionRows$Octets" ⟨"java/lang/Object", "getClass", "()Ljava/lang/Class;"⟩ ⟨"java/lang/Object", "getClass", "()Ljava/lang/Class;"⟩ : Cond) ∈ lwG := List.mem_filter.mpr ⟨List.mem_of_getElem? (i := 226) (by decide +kernel), by decide +kernel⟩
theorem wd_227 : (.selects "EmissionRowsModel" ⟨"java/lang/Object", "getClass", "()Ljava/lang/Class;"⟩ ⟨"java/lang/Object", "getClass", "()Ljava/lang/Class;"⟩ : Cond) ∈ lwG := List.mem_filter.mpr ⟨List.mem_of_getElem? (i := 227) (by decide +kernel), by decide +kernel⟩
theorem wd_228 : (.selects "java/lang/ArithmeticException" ⟨"java/lang/Object", "getClass", "()Ljava/lang/Class;"⟩ ⟨"java/lang/Object", "getClass", "()Ljava/lang/Class;"⟩ : Cond) ∈ lwG := List.mem_filter.mpr ⟨List.mem_of_getElem? (i := 228) (by decide +kernel), by decide +kernel⟩
theorem wd_229 : (.selects "java/lang/IndexOutOfBoundsException" ⟨"java/lang/Object", "getClass", "()Ljava/lang/Class;"⟩ ⟨"java/lang/Object", "getClass", "()Ljava/lang/Class;"⟩ : Cond) ∈ lwG := List.mem_filter.mpr ⟨List.mem_of_getElem? (i := 229) (by decide +kernel), by decide +kernel⟩
theorem wd_230 : (.selects "java/util/ArrayList" ⟨"java/lang/Object", "getClass", "()Ljava/lang/Class;"⟩ ⟨"java/lang/Object", "getClass", "()Ljava/lang/Class;"⟩ : Cond) ∈ lwG := List.mem_filter.mpr ⟨List.mem_of_getElem? (i := 230) (by decide +kernel), by decide +kernel⟩
theorem wd_231 : (.native ⟨"java/lang/Object", "getClass", "()Ljava/lang/Class;"⟩ : Cond) ∈ lwG := List.mem_filter.mpr ⟨List.mem_of_getElem? (i := 231) (by decide +kernel), by decide +kernel⟩
theorem wd_232 : (.methodLink "java/util/Arrays" 300 ⟨"java/util/Arrays", "copyOf", "([Ljava/lang/Object;ILjava/lang/Class;)[Ljava/lang/Object;"⟩ : Cond) ∈ lwG := List.mem_filter.mpr ⟨List.mem_of_getElem? (i := 232) (by decide +kernel), by decide +kernel⟩
theorem wd_233 : (.static ⟨"java/util/Arrays", "copyOf", "([Ljava/lang/Object;ILjava/lang/Class;)[Ljava/lang/Object;"⟩ : Cond) ∈ lwG := List.mem_filter.mpr ⟨List.mem_of_getElem? (i := 233) (by decide +kernel), by decide +kernel⟩
theorem wd_234 : (.code ⟨"java/util/Arrays", "copyOf", "([Ljava/lang/Object;ILjava/lang/Class;)[Ljava/lang/Object;"⟩ prog_22_method_120_code 4 (Option.some (.array (.object "java/lang/Object"))) : Cond) ∈ lwG := List.mem_filter.mpr ⟨List.mem_of_getElem? (i := 234) (by decide +kernel), by decide +kernel⟩
theorem wd_235 : (.classLink "java/util/Arrays" 110 "[Ljava/lang/Object;" : Cond) ∈ lwG := List.mem_filter.mpr ⟨List.mem_of_getElem? (i := 235) (by decide +kernel), by decide +kernel⟩
theorem wd_237 : (.classLink "java/util/Arrays" 2 "java/lang/Object" : Cond) ∈ lwG := List.mem_filter.mpr ⟨List.mem_of_getElem? (i := 237) (by decide +kernel), by decide +kernel⟩
theorem wd_238 : (.methodLink "java/util/Arrays" 304 ⟨"java/lang/Math", "min", "(II)I"⟩ : Cond) ∈ lwG := List.mem_filter.mpr ⟨List.mem_of_getElem? (i := 238) (by decide +kernel), by decide +kernel⟩
theorem wd_239 : (.static ⟨"java/lang/Math", "min", "(II)I"⟩ : Cond) ∈ lwG := List.mem_filter.mpr ⟨List.mem_of_getElem? (i := 239) (by decide +kernel), by decide +kernel⟩
theorem wd_240 : (.code ⟨"java/lang/Math", "min", "(II)I"⟩ prog_14_method_69_code 2 (Option.some .int) : Cond) ∈ lwG := List.mem_filter.mpr ⟨List.mem_of_getElem? (i := 240) (by decide +kernel), by decide +kernel⟩
theorem wd_241 : (.methodLink "java/util/Arrays" 150 ⟨"java/lang/System", "arraycopy", "(Ljava/lang/Object;ILjava/lang/Object;II)V"⟩ : Cond) ∈ lwG := List.mem_filter.mpr ⟨List.mem_of_getElem? (i := 241) (by decide +kernel), by decide +kernel⟩
theorem wd_242 : (.static ⟨"java/lang/System", "arraycopy", "(Ljava/lang/Object;ILjava/lang/Object;II)V"⟩ : Cond) ∈ lwG := List.mem_filter.mpr ⟨List.mem_of_getElem? (i := 242) (by decide +kernel), by decide +kernel⟩
theorem wd_243 : (.native ⟨"java/lang/System", "arraycopy", "(Ljava/lang/Object;ILjava/lang/Object;II)V"⟩ : Cond) ∈ lwG := List.mem_filter.mpr ⟨List.mem_of_getElem? (i := 243) (by decide +kernel), by decide +kernel⟩
theorem wd_244 : (.methodLink "java/util/ArrayList" 79 ⟨"java/lang/Math", "max", "(II)I"⟩ : Cond) ∈ lwG := List.mem_filter.mpr ⟨List.mem_of_getElem? (i := 244) (by decide +kernel), by decide +kernel⟩
theorem wd_245 : (.classLink "java/util/ArrayList" 7 "java/lang/Object" : Cond) ∈ lwG := List.mem_filter.mpr ⟨List.mem_of_getElem? (i := 245) (by decide +kernel), by decide +kernel⟩
theorem wd_246 : (.methodLink "EmissionRowsLaw" 30 ⟨"EmissionRows", "cycle", "(II)I"⟩ : Cond) ∈ lwG := List.mem_filter.mpr ⟨List.mem_of_getElem? (i := 246) (by decide +kernel), by decide +kernel⟩
theorem wd_247 : (.instanceMethod ⟨"EmissionRows", "cycle", "(II)I"⟩ : Cond) ∈ lwG := List.mem_filter.mpr ⟨List.mem_of_getElem? (i := 247) (by decide +kernel), by decide +kernel⟩
theorem wd_248 : (.selects "EmissionRows" ⟨"EmissionRows", "cycle", "(II)I"⟩ ⟨"EmissionRows", "cycle", "(II)I"⟩ : Cond) ∈ lwG := List.mem_filter.mpr ⟨List.mem_of_getElem? (i := 248) (by decide +kernel), by decide +kernel⟩
theorem wd_249 : (.code ⟨"EmissionRows", "cycle", "(II)I"⟩ prog_1_method_3_code 4 (Option.some .int) : Cond) ∈ lwG := List.mem_filter.mpr ⟨List.mem_of_getElem? (i := 249) (by decide +kernel), by decide +kernel⟩
theorem wd_250 : (.constant "EmissionRows" 54 65535 : Cond) ∈ lwG := List.mem_filter.mpr ⟨List.mem_of_getElem? (i := 250) (by decide +kernel), by decide +kernel⟩
theorem wd_251 : (.methodLink "EmissionRows" 55 ⟨"EmissionRows", "passMonitors", "(II)I"⟩ : Cond) ∈ lwG := List.mem_filter.mpr ⟨List.mem_of_getElem? (i := 251) (by decide +kernel), by decide +kernel⟩
theorem wd_253 : (.instanceMethod ⟨"EmissionRows", "passMonitors", "(II)I"⟩ : Cond) ∈ lwG := List.mem_filter.mpr ⟨List.mem_of_getElem? (i := 253) (by decide +kernel), by decide +kernel⟩
theorem wd_254 : (.code ⟨"EmissionRows", "passMonitors", "(II)I"⟩ prog_1_method_17_code 5 (Option.some .int) : Cond) ∈ lwG := List.mem_filter.mpr ⟨List.mem_of_getElem? (i := 254) (by decide +kernel), by decide +kernel⟩
theorem wd_255 : (.methodLink "EmissionRows" 73 ⟨"java/util/ArrayList", "get", "(I)Ljava/lang/Object;"⟩ : Cond) ∈ lwG := List.mem_filter.mpr ⟨List.mem_of_getElem? (i := 255) (by decide +kernel), by decide +kernel⟩
theorem wd_256 : (.instanceMethod ⟨"java/util/ArrayList", "get", "(I)Ljava/lang/Object;"⟩ : Cond) ∈ lwG := List.mem_filter.mpr ⟨List.mem_of_getElem? (i := 256) (by decide +kernel), by decide +kernel⟩
theorem wd_257 : (.selects "java/util/ArrayList" ⟨"java/util/ArrayList", "get", "(I)Ljava/lang/Object;"⟩ ⟨"java/util/ArrayList", "get", "(I)Ljava/lang/Object;"⟩ : Cond) ∈ lwG := List.mem_filter.mpr ⟨List.mem_of_getElem? (i := 257) (by decide +kernel), by decide +kernel⟩
theorem wd_258 : (.code ⟨"java/util/ArrayList", "get", "(I)Ljava/lang/Object;"⟩ prog_21_method_20_code 2 (Option.some (.object "java/lang/Object")) : Cond) ∈ lwG := List.mem_filter.mpr ⟨List.mem_of_getElem? (i := 258) (by decide +kernel), by decide +kernel⟩
theorem wd_259 : (.methodLink "java/util/ArrayList" 118 ⟨"java/util/Objects", "checkIndex", "(II)I"⟩ : Cond) ∈ lwG := List.mem_filter.mpr ⟨List.mem_of_getElem? (i := 259) (by decide +kernel), by decide +kernel⟩
theorem wd_260 : (.static ⟨"java/util/Objects", "checkIndex", "(II)I"⟩ : Cond) ∈ lwG := List.mem_filter.mpr ⟨List.mem_of_getElem? (i := 260) (by decide +kernel), by decide +kernel⟩
theorem wd_261 : (.code ⟨"java/util/Objects", "checkIndex", "(II)I"⟩ prog_25_method_17_code 2 (Option.some .int) : Cond) ∈ lwG := List.mem_filter.mpr ⟨List.mem_of_getElem? (i := 261) (by decide +kernel), by decide +kernel⟩
theorem wd_262 : (.methodLink "java/util/Objects" 105 ⟨"jdk/internal/util/Preconditions", "checkIndex", "(IILjava/util/function/BiFunction;)I"⟩ : Cond) ∈ lwG := List.mem_filter.mpr ⟨List.mem_of_getElem? (i := 262) (by decide +kernel), by decide +kernel⟩
theorem wd_263 : (.static ⟨"jdk/internal/util/Preconditions", "checkIndex", "(IILjava/util/function/BiFunction;)I"⟩ : Cond) ∈ lwG := List.mem_filter.mpr ⟨List.mem_of_getElem? (i := 263) (by decide +kernel), by decide +kernel⟩
theorem wd_264 : (.code ⟨"jdk/internal/util/Preconditions", "checkIndex", "(IILjava/util/function/BiFunction;)I"⟩ prog_29_method_11_code 3 (Option.some .int) : Cond) ∈ lwG := List.mem_filter.mpr ⟨List.mem_of_getElem? (i := 264) (by decide +kernel), by decide +kernel⟩
theorem wd_265 : (.methodLink "java/util/ArrayList" 123 ⟨"java/util/ArrayList", "elementData", "(I)Ljava/lang/Object;"⟩ : Cond) ∈ lwG := List.mem_filter.mpr ⟨List.mem_of_getElem? (i := 265) (by decide +kernel), by decide +kernel⟩
theorem wd_266 : (.instanceMethod ⟨"java/util/ArrayList", "elementData", "(I)Ljava/lang/Object;"⟩ : Cond) ∈ lwG := List.mem_filter.mpr ⟨List.mem_of_getElem? (i := 266) (by decide +kernel), by decide +kernel⟩
theorem wd_267 : (.selects "java/util/ArrayList" ⟨"java/util/ArrayList", "elementData", "(I)Ljava/lang/Object;"⟩ ⟨"java/util/ArrayList", "elementData", "(I)Ljava/lang/Object;"⟩ : Cond) ∈ lwG := List.mem_filter.mpr ⟨List.mem_of_getElem? (i := 267) (by decide +kernel), by decide +kernel⟩
theorem wd_268 : (.code ⟨"java/util/ArrayList", "elementData", "(I)Ljava/lang/Object;"⟩ prog_21_method_18_code 2 (Option.some (.object "java/lang/Object")) : Cond) ∈ lwG := List.mem_filter.mpr ⟨List.mem_of_getElem? (i := 268) (by decide +kernel), by decide +kernel⟩
theorem wd_269 : (.methodLink "EmissionRows" 185 ⟨"EmissionRows", "isBitSet", "(II)Z"⟩ : Cond) ∈ lwG := List.mem_filter.mpr ⟨List.mem_of_getElem? (i := 269) (by decide +kernel), by decide +kernel⟩
theorem wd_270 : (.static ⟨"EmissionRows", "isBitSet", "(II)Z"⟩ : Cond) ∈ lwG := List.mem_filter.mpr ⟨List.mem_of_getElem? (i := 270) (by decide +kernel), by decide +kernel⟩
theorem wd_271 : (.code ⟨"EmissionRows", "isBitSet", "(II)Z"⟩ prog_1_method_28_code 2 (Option.some .boolean) : Cond) ∈ lwG := List.mem_filter.mpr ⟨List.mem_of_getElem? (i := 271) (by decide +kernel), by decide +kernel⟩
theorem wd_274 : (.instanceMethod ⟨"EmissionRows$Monitor", "endCycle", "(IZ)Z"⟩ : Cond) ∈ lwG := List.mem_filter.mpr ⟨List.mem_of_getElem? (i := 274) (by decide +kernel), by decide +kernel⟩
theorem wd_275 : (.code ⟨"EmissionRows$Monitor", "endCycle", "(IZ)Z"⟩ prog_4_method_2_code 4 (Option.some .boolean) : Cond) ∈ lwG := List.mem_filter.mpr ⟨List.mem_of_getElem? (i := 275) (by decide +kernel), by decide +kernel⟩
theorem wd_276 : (.methodLink "EmissionRows$Monitor" 31 ⟨"EmissionRows$Monitor", "hasChance", "(I)Z"⟩ : Cond) ∈ lwG := List.mem_filter.mpr ⟨List.mem_of_getElem? (i := 276) (by decide +kernel), by decide +kernel⟩
theorem wd_278 : (.instanceMethod ⟨"EmissionRows$Monitor", "hasChance", "(I)Z"⟩ : Cond) ∈ lwG := List.mem_filter.mpr ⟨List.mem_of_getElem? (i := 278) (by decide +kernel), by decide +kernel⟩
theorem wd_279 : (.code ⟨"EmissionRows$Monitor", "hasChance", "(I)Z"⟩ prog_4_method_3_code 3 (Option.some .boolean) : Cond) ∈ lwG := List.mem_filter.mpr ⟨List.mem_of_getElem? (i := 279) (by decide +kernel), by decide +kernel⟩
theorem wd_281 : (.methodLink "EmissionRows$Monitor" 35 ⟨"EmissionRows$Monitor", "countChance", "(Z)V"⟩ : Cond) ∈ lwG := List.mem_filter.mpr ⟨List.mem_of_getElem? (i := 281) (by decide +kernel), by decide +kernel⟩
theorem wd_283 : (.instanceMethod ⟨"EmissionRows$Monitor", "countChance", "(Z)V"⟩ : Cond) ∈ lwG := List.mem_filter.mpr ⟨List.mem_of_getElem? (i := 283) (by decide +kernel), by decide +kernel⟩
theorem wd_284 : (.code ⟨"EmissionRows$Monitor", "countChance", "(Z)V"⟩ prog_4_method_4_code 2 (Option.none : Option Jvm.ClassFile.FieldType) : Cond) ∈ lwG := List.mem_filter.mpr ⟨List.mem_of_getElem? (i := 284) (by decide +kernel), by decide +kernel⟩
theorem wd_285 : (.methodLink "EmissionRows" 59 ⟨"EmissionRows", "passCodes", "(I)V"⟩ : Cond) ∈ lwG := List.mem_filter.mpr ⟨List.mem_of_getElem? (i := 285) (by decide +kernel), by decide +kernel⟩
theorem wd_287 : (.instanceMethod ⟨"EmissionRows", "passCodes", "(I)V"⟩ : Cond) ∈ lwG := List.mem_filter.mpr ⟨List.mem_of_getElem? (i := 287) (by decide +kernel), by decide +kernel⟩
theorem wd_288 : (.code ⟨"EmissionRows", "passCodes", "(I)V"⟩ prog_1_method_18_code 4 (Option.none : Option Jvm.ClassFile.FieldType) : Cond) ∈ lwG := List.mem_filter.mpr ⟨List.mem_of_getElem? (i := 288) (by decide +kernel), by decide +kernel⟩
theorem wd_289 : (.classLink "EmissionRows" 105 "EmissionRows$Code" : Cond) ∈ lwG := List.mem_filter.mpr ⟨List.mem_of_getElem? (i := 289) (by decide +kernel), by decide +kernel⟩
theorem wd_292 : (.instanceMethod ⟨"EmissionRows$Code", "endCycleOn", "(II)V"⟩ : Cond) ∈ lwG := List.mem_filter.mpr ⟨List.mem_of_getElem? (i := 292) (by decide +kernel), by decide +kernel⟩
theorem wd_293 : (.instantiable "EmissionRows$Code" 9 : Cond) ∈ lwG := List.mem_filter.mpr ⟨List.mem_of_getElem? (i := 293) (by decide +kernel), by decide +kernel⟩
theorem wd_294 : (.code ⟨"EmissionRows$Code", "endCycleOn", "(II)V"⟩ prog_2_method_2_code 3 (Option.none : Option Jvm.ClassFile.FieldType) : Cond) ∈ lwG := List.mem_filter.mpr ⟨List.mem_of_getElem? (i := 294) (by decide +kernel), by decide +kernel⟩
theorem wd_297 : (.instanceMethod ⟨"EmissionRows$Code", "endCycleOff", "(I)V"⟩ : Cond) ∈ lwG := List.mem_filter.mpr ⟨List.mem_of_getElem? (i := 297) (by decide +kernel), by decide +kernel⟩
theorem wd_298 : (.code ⟨"EmissionRows$Code", "endCycleOff", "(I)V"⟩ prog_2_method_3_code 2 (Option.none : Option Jvm.ClassFile.FieldType) : Cond) ∈ lwG := List.mem_filter.mpr ⟨List.mem_of_getElem? (i := 298) (by decide +kernel), by decide +kernel⟩
theorem wd_300 : (.methodLink "EmissionRows$Code" 44 ⟨"EmissionRows$Code", "forgetFault", "()V"⟩ : Cond) ∈ lwG := List.mem_filter.mpr ⟨List.mem_of_getElem? (i := 300) (by decide +kernel), by decide +kernel⟩
theorem wd_302 : (.instanceMethod ⟨"EmissionRows$Code", "forgetFault", "()V"⟩ : Cond) ∈ lwG := List.mem_filter.mpr ⟨List.mem_of_getElem? (i := 302) (by decide +kernel), by decide +kernel⟩
theorem wd_303 : (.code ⟨"EmissionRows$Code", "forgetFault", "()V"⟩ prog_2_method_4_code 1 (Option.none : Option Jvm.ClassFile.FieldType) : Cond) ∈ lwG := List.mem_filter.mpr ⟨List.mem_of_getElem? (i := 303) (by decide +kernel), by decide +kernel⟩
theorem wd_304 : (.methodLink "EmissionRows" 63 ⟨"EmissionRows", "howManyConfirmed", "()I"⟩ : Cond) ∈ lwG := List.mem_filter.mpr ⟨List.mem_of_getElem? (i := 304) (by decide +kernel), by decide +kernel⟩
theorem wd_306 : (.instanceMethod ⟨"EmissionRows", "howManyConfirmed", "()I"⟩ : Cond) ∈ lwG := List.mem_filter.mpr ⟨List.mem_of_getElem? (i := 306) (by decide +kernel), by decide +kernel⟩
theorem wd_307 : (.code ⟨"EmissionRows", "howManyConfirmed", "()I"⟩ prog_1_method_19_code 3 (Option.some .int) : Cond) ∈ lwG := List.mem_filter.mpr ⟨List.mem_of_getElem? (i := 307) (by decide +kernel), by decide +kernel⟩
theorem wd_310 : (.instanceMethod ⟨"EmissionRows$Lamp", "follow", "(Z)V"⟩ : Cond) ∈ lwG := List.mem_filter.mpr ⟨List.mem_of_getElem? (i := 310) (by decide +kernel), by decide +kernel⟩
theorem wd_311 : (.code ⟨"EmissionRows$Lamp", "follow", "(Z)V"⟩ prog_3_method_2_code 2 (Option.none : Option Jvm.ClassFile.FieldType) : Cond) ∈ lwG := List.mem_filter.mpr ⟨List.mem_of_getElem? (i := 311) (by decide +kernel), by decide +kernel⟩
theorem wd_312 : (.methodLink "EmissionRows$Lamp" 20 ⟨"EmissionRows$Lamp", "reset", "()V"⟩ : Cond) ∈ lwG := List.mem_filter.mpr ⟨List.mem_of_getElem? (i := 312) (by decide +kernel), by decide +kernel⟩
theorem wd_314 : (.instanceMethod ⟨"EmissionRows$Lamp", "reset", "()V"⟩ : Cond) ∈ lwG := List.mem_filter.mpr ⟨List.mem_of_getElem? (i := 314) (by decide +kernel), by decide +kernel⟩
theorem wd_315 : (.code ⟨"EmissionRows$Lamp", "reset", "()V"⟩ prog_3_method_4_code 1 (Option.none : Option Jvm.ClassFile.FieldType) : Cond) ∈ lwG := List.mem_filter.mpr ⟨List.mem_of_getElem? (i := 315) (by decide +kernel), by decide +kernel⟩
theorem wd_316 : (.methodLink "EmissionRowsLaw" 34 ⟨"EmissionRows", "count", "(II)I"⟩ : Cond) ∈ lwG := List.mem_filter.mpr ⟨List.mem_of_getElem? (i := 316) (by decide +kernel), by decide +kernel⟩
theorem wd_317 : (.instanceMethod ⟨"EmissionRows", "count", "(II)I"⟩ : Cond) ∈ lwG := List.mem_filter.mpr ⟨List.mem_of_getElem? (i := 317) (by decide +kernel), by decide +kernel⟩
theorem wd_318 : (.selects "EmissionRows" ⟨"EmissionRows", "count", "(II)I"⟩ ⟨"EmissionRows", "count", "(II)I"⟩ : Cond) ∈ lwG := List.mem_filter.mpr ⟨List.mem_of_getElem? (i := 318) (by decide +kernel), by decide +kernel⟩
theorem wd_319 : (.code ⟨"EmissionRows", "count", "(II)I"⟩ prog_1_method_4_code 4 (Option.some .int) : Cond) ∈ lwG := List.mem_filter.mpr ⟨List.mem_of_getElem? (i := 319) (by decide +kernel), by decide +kernel⟩
theorem wd_320 : (.methodLink "EmissionRows" 70 ⟨"EmissionRows", "isMonitor", "(I)Z"⟩ : Cond) ∈ lwG := List.mem_filter.mpr ⟨List.mem_of_getElem? (i := 320) (by decide +kernel), by decide +kernel⟩
theorem wd_322 : (.instanceMethod ⟨"EmissionRows", "isMonitor", "(I)Z"⟩ : Cond) ∈ lwG := List.mem_filter.mpr ⟨List.mem_of_getElem? (i := 322) (by decide +kernel), by decide +kernel⟩
theorem wd_323 : (.code ⟨"EmissionRows", "isMonitor", "(I)Z"⟩ prog_1_method_16_code 2 (Option.some .boolean) : Cond) ∈ lwG := List.mem_filter.mpr ⟨List.mem_of_getElem? (i := 323) (by decide +kernel), by decide +kernel⟩
theorem wd_324 : (.methodLink "EmissionRowsLaw" 48 ⟨"EmissionRows", "ready", "(I)I"⟩ : Cond) ∈ lwG := List.mem_filter.mpr ⟨List.mem_of_getElem? (i := 324) (by decide +kernel), by decide +kernel⟩
theorem wd_325 : (.instanceMethod ⟨"EmissionRows", "ready", "(I)I"⟩ : Cond) ∈ lwG := List.mem_filter.mpr ⟨List.mem_of_getElem? (i := 325) (by decide +kernel), by decide +kernel⟩
theorem wd_326 : (.selects "EmissionRows" ⟨"EmissionRows", "ready", "(I)I"⟩ ⟨"EmissionRows", "ready", "(I)I"⟩ : Cond) ∈ lwG := List.mem_filter.mpr ⟨List.mem_of_getElem? (i := 326) (by decide +kernel), by decide +kernel⟩
theorem wd_327 : (.code ⟨"EmissionRows", "ready", "(I)I"⟩ prog_1_method_6_code 2 (Option.some .int) : Cond) ∈ lwG := List.mem_filter.mpr ⟨List.mem_of_getElem? (i := 327) (by decide +kernel), by decide +kernel⟩
theorem wd_328 : (.methodLink "EmissionRows" 96 ⟨"EmissionRows", "readinessOf", "(I)I"⟩ : Cond) ∈ lwG := List.mem_filter.mpr ⟨List.mem_of_getElem? (i := 328) (by decide +kernel), by decide +kernel⟩
theorem wd_330 : (.instanceMethod ⟨"EmissionRows", "readinessOf", "(I)I"⟩ : Cond) ∈ lwG := List.mem_filter.mpr ⟨List.mem_of_getElem? (i := 330) (by decide +kernel), by decide +kernel⟩
theorem wd_331 : (.code ⟨"EmissionRows", "readinessOf", "(I)I"⟩ prog_1_method_20_code 5 (Option.some .int) : Cond) ∈ lwG := List.mem_filter.mpr ⟨List.mem_of_getElem? (i := 331) (by decide +kernel), by decide +kernel⟩
theorem wd_332 : (.methodLink "EmissionRowsLaw" 53 ⟨"EmissionRows", "fault", "(IZ)I"⟩ : Cond) ∈ lwG := List.mem_filter.mpr ⟨List.mem_of_getElem? (i := 332) (by decide +kernel), by decide +kernel⟩
theorem wd_333 : (.instanceMethod ⟨"EmissionRows", "fault", "(IZ)I"⟩ : Cond) ∈ lwG := List.mem_filter.mpr ⟨List.mem_of_getElem? (i := 333) (by decide +kernel), by decide +kernel⟩
theorem wd_334 : (.selects "EmissionRows" ⟨"EmissionRows", "fault", "(IZ)I"⟩ ⟨"EmissionRows", "fault", "(IZ)I"⟩ : Cond) ∈ lwG := List.mem_filter.mpr ⟨List.mem_of_getElem? (i := 334) (by decide +kernel), by decide +kernel⟩
theorem wd_335 : (.code ⟨"EmissionRows", "fault", "(IZ)I"⟩ prog_1_method_7_code 4 (Option.some .int) : Cond) ∈ lwG := List.mem_filter.mpr ⟨List.mem_of_getElem? (i := 335) (by decide +kernel), by decide +kernel⟩
theorem wd_336 : (.methodLink "EmissionRows" 100 ⟨"EmissionRows", "knownCode", "(I)LEmissionRows$Code;"⟩ : Cond) ∈ lwG := List.mem_filter.mpr ⟨List.mem_of_getElem? (i := 336) (by decide +kernel), by decide +kernel⟩
theorem wd_338 : (.instanceMethod ⟨"EmissionRows", "knownCode", "(I)LEmissionRows$Code;"⟩ : Cond) ∈ lwG := List.mem_filter.mpr ⟨List.mem_of_getElem? (i := 338) (by decide +kernel), by decide +kernel⟩
theorem wd_339 : (.code ⟨"EmissionRows", "knownCode", "(I)LEmissionRows$Code;"⟩ prog_1_method_21_code 4 (Option.some (.object "EmissionRows$Code")) : Cond) ∈ lwG := List.mem_filter.mpr ⟨List.mem_of_getElem? (i := 339) (by decide +kernel), by decide +kernel⟩
theorem wd_341 : (.instanceMethod ⟨"EmissionRows$Code", "<init>", "(IZ)V"⟩ : Cond) ∈ lwG := List.mem_filter.mpr ⟨List.mem_of_getElem? (i := 341) (by decide +kernel), by decide +kernel⟩
theorem wd_342 : (.code ⟨"EmissionRows$Code", "<init>", "(IZ)V"⟩ prog_2_method_1_code 3 (Option.none : Option Jvm.ClassFile.FieldType) : Cond) ∈ lwG := List.mem_filter.mpr ⟨List.mem_of_getElem? (i := 342) (by decide +kernel), by decide +kernel⟩
theorem wd_343 : (.methodLink "EmissionRows$Code" 3 ⟨"java/lang/Object", "<init>", "()V"⟩ : Cond) ∈ lwG := List.mem_filter.mpr ⟨List.mem_of_getElem? (i := 343) (by decide +kernel), by decide +kernel⟩
theorem wd_344 : (.fieldLink "EmissionRows$Code" 34 "EmissionRows$Code" "number" "I" : Cond) ∈ lwG := List.mem_filter.mpr ⟨List.mem_of_getElem? (i := 344) (by decide +kernel), by decide +kernel⟩
theorem wd_346 : (.fieldLink "EmissionRows$Code" 37 "EmissionRows$Code" "on" "Z" : Cond) ∈ lwG := List.mem_filter.mpr ⟨List.mem_of_getElem? (i := 346) (by decide +kernel), by decide +kernel⟩
theorem wd_348 : (.fieldLink "EmissionRows$Code" 9 "EmissionRows$Code" "pending" "Z" : Cond) ∈ lwG := List.mem_filter.mpr ⟨List.mem_of_getElem? (i := 348) (by decide +kernel), by decide +kernel⟩
theorem wd_349 : (.fieldLink "EmissionRows$Code" 15 "EmissionRows$Code" "confirmed" "Z" : Cond) ∈ lwG := List.mem_filter.mpr ⟨List.mem_of_getElem? (i := 349) (by decide +kernel), by decide +kernel⟩
theorem wd_351 : (.fieldLink "EmissionRows$Code" 18 "EmissionRows$Code" "lasting" "Z" : Cond) ∈ lwG := List.mem_filter.mpr ⟨List.mem_of_getElem? (i := 351) (by decide +kernel), by decide +kernel⟩
theorem wd_353 : (.fieldLink "EmissionRows$Code" 21 "EmissionRows$Code" "offInARow" "I" : Cond) ∈ lwG := List.mem_filter.mpr ⟨List.mem_of_getElem? (i := 353) (by decide +kernel), by decide +kernel⟩
theorem wd_354 : (.fieldLink "EmissionRows$Code" 25 "EmissionRows$Code" "offWithConditionZero" "I" : Cond) ∈ lwG := List.mem_filter.mpr ⟨List.mem_of_getElem? (i := 354) (by decide +kernel), by decide +kernel⟩
theorem wd_355 : (.fieldLink "EmissionRows$Code" 28 "EmissionRows$Code" "frozenCycle" "I" : Cond) ∈ lwG := List.mem_filter.mpr ⟨List.mem_of_getElem? (i := 355) (by decide +kernel), by decide +kernel⟩
theorem wd_357 : (.fieldLink "EmissionRows$Code" 31 "EmissionRows$Code" "frozenConditions" "I" : Cond) ∈ lwG := List.mem_filter.mpr ⟨List.mem_of_getElem? (i := 357) (by decide +kernel), by decide +kernel⟩
theorem wd_378 : (.methodLink "EmissionRowsLaw" 58 ⟨"EmissionRows", "permanent", "(I)I"⟩ : Cond) ∈ lwG := List.mem_filter.mpr ⟨List.mem_of_getElem? (i := 378) (by decide +kernel), by decide +kernel⟩
theorem wd_379 : (.instanceMethod ⟨"EmissionRows", "permanent", "(I)I"⟩ : Cond) ∈ lwG := List.mem_filter.mpr ⟨List.mem_of_getElem? (i := 379) (by decide +kernel), by decide +kernel⟩
theorem wd_380 : (.selects "EmissionRows" ⟨"EmissionRows", "permanent", "(I)I"⟩ ⟨"EmissionRows", "permanent", "(I)I"⟩ : Cond) ∈ lwG := List.mem_filter.mpr ⟨List.mem_of_getElem? (i := 380) (by decide +kernel), by decide +kernel⟩
theorem wd_381 : (.code ⟨"EmissionRows", "permanent", "(I)I"⟩ prog_1_method_8_code 5 (Option.some .int) : Cond) ∈ lwG := List.mem_filter.mpr ⟨List.mem_of_getElem? (i := 381) (by decide +kernel), by decide +kernel⟩
theorem wd_382 : (.methodLink "EmissionRowsLaw" 62 ⟨"EmissionRows", "clear", "()I"⟩ : Cond) ∈ lwG := List.mem_filter.mpr ⟨List.mem_of_getElem? (i := 382) (by decide +kernel), by decide +kernel⟩
theorem wd_383 : (.instanceMethod ⟨"EmissionRows", "clear", "()I"⟩ : Cond) ∈ lwG := List.mem_filter.mpr ⟨List.mem_of_getElem? (i := 383) (by decide +kernel), by decide +kernel⟩
theorem wd_384 : (.selects "EmissionRows" ⟨"EmissionRows", "clear", "()I"⟩ ⟨"EmissionRows", "clear", "()I"⟩ : Cond) ∈ lwG := List.mem_filter.mpr ⟨List.mem_of_getElem? (i := 384) (by decide +kernel), by decide +kernel⟩
theorem wd_385 : (.code ⟨"EmissionRows", "clear", "()I"⟩ prog_1_method_9_code 3 (Option.some .int) : Cond) ∈ lwG := List.mem_filter.mpr ⟨List.mem_of_getElem? (i := 385) (by decide +kernel), by decide +kernel⟩
theorem wd_388 : (.methodLink "EmissionRowsLaw" 68 ⟨"EmissionRows", "lamp", "(JJ)I"⟩ : Cond) ∈ lwG := List.mem_filter.mpr ⟨List.mem_of_getElem? (i := 388) (by decide +kernel), by decide +kernel⟩
theorem wd_389 : (.instanceMethod ⟨"EmissionRows", "lamp", "(JJ)I"⟩ : Cond) ∈ lwG := List.mem_filter.mpr ⟨List.mem_of_getElem? (i := 389) (by decide +kernel), by decide +kernel⟩
theorem wd_390 : (.selects "EmissionRows" ⟨"EmissionRows", "lamp", "(JJ)I"⟩ ⟨"EmissionRows", "lamp", "(JJ)I"⟩ : Cond) ∈ lwG := List.mem_filter.mpr ⟨List.mem_of_getElem? (i := 390) (by decide +kernel), by decide +kernel⟩
theorem wd_391 : (.code ⟨"EmissionRows", "lamp", "(JJ)I"⟩ prog_1_method_10_code 5 (Option.some .int) : Cond) ∈ lwG := List.mem_filter.mpr ⟨List.mem_of_getElem? (i := 391) (by decide +kernel), by decide +kernel⟩
theorem wd_392 : (.constantLong "EmissionRows" 128 1000000000 : Cond) ∈ lwG := List.mem_filter.mpr ⟨List.mem_of_getElem? (i := 392) (by decide +kernel), by decide +kernel⟩
theorem wd_395 : (.instanceMethod ⟨"EmissionRows$Lamp", "goOn", "(JJ)Z"⟩ : Cond) ∈ lwG := List.mem_filter.mpr ⟨List.mem_of_getElem? (i := 395) (by decide +kernel), by decide +kernel⟩
theorem wd_396 : (.code ⟨"EmissionRows$Lamp", "goOn", "(JJ)Z"⟩ prog_3_method_3_code 5 (Option.some .boolean) : Cond) ∈ lwG := List.mem_filter.mpr ⟨List.mem_of_getElem? (i := 396) (by decide +kernel), by decide +kernel⟩
theorem wd_397 : (.methodLink "EmissionRowsLaw" 73 ⟨"EmissionRows", "freeze", "(I)I"⟩ : Cond) ∈ lwG := List.mem_filter.mpr ⟨List.mem_of_getElem? (i := 397) (by decide +kernel), by decide +kernel⟩
theorem wd_398 : (.instanceMethod ⟨"EmissionRows", "freeze", "(I)I"⟩ : Cond) ∈ lwG := List.mem_filter.mpr ⟨List.mem_of_getElem? (i := 398) (by decide +kernel), by decide +kernel⟩
theorem wd_399 : (.selects "EmissionRows" ⟨"EmissionRows", "freeze", "(I)I"⟩ ⟨"EmissionRows", "freeze", "(I)I"⟩ : Cond) ∈ lwG := List.mem_filter.mpr ⟨List.mem_of_getElem? (i := 399) (by decide +kernel), by decide +kernel⟩
theorem wd_400 : (.code ⟨"EmissionRows", "freeze", "(I)I"⟩ prog_1_method_11_code 3 (Option.some .int) : Cond) ∈ lwG := List.mem_filter.mpr ⟨List.mem_of_getElem? (i := 400) (by decide +kernel), by decide +kernel⟩
theorem wd_401 : (.methodLink "EmissionRows" 138 ⟨"EmissionRows", "inTwoOctets", "(J)I"⟩ : Cond) ∈ lwG := List.mem_filter.mpr ⟨List.mem_of_getElem? (i := 401) (by decide +kernel), by decide +kernel⟩
theorem wd_402 : (.static ⟨"EmissionRows", "inTwoOctets", "(J)I"⟩ : Cond) ∈ lwG := List.mem_filter.mpr ⟨List.mem_of_getElem? (i := 402) (by decide +kernel), by decide +kernel⟩
theorem wd_403 : (.code ⟨"EmissionRows", "inTwoOctets", "(J)I"⟩ prog_1_method_29_code 2 (Option.some .int) : Cond) ∈ lwG := List.mem_filter.mpr ⟨List.mem_of_getElem? (i := 403) (by decide +kernel), by decide +kernel⟩
theorem wd_404 : (.constantLong "EmissionRows" 231 65535 : Cond) ∈ lwG := List.mem_filter.mpr ⟨List.mem_of_getElem? (i := 404) (by decide +kernel), by decide +kernel⟩
theorem wd_405 : (.methodLink "EmissionRows" 233 ⟨"java/lang/Math", "min", "(JJ)J"⟩ : Cond) ∈ lwG := List.mem_filter.mpr ⟨List.mem_of_getElem? (i := 405) (by decide +kernel), by decide +kernel⟩
theorem wd_406 : (.static ⟨"java/lang/Math", "min", "(JJ)J"⟩ : Cond) ∈ lwG := List.mem_filter.mpr ⟨List.mem_of_getElem? (i := 406) (by decide +kernel), by decide +kernel⟩
theorem wd_407 : (.code ⟨"java/lang/Math", "min", "(JJ)J"⟩ prog_14_method_70_code 4 (Option.some .long) : Cond) ∈ lwG := List.mem_filter.mpr ⟨List.mem_of_getElem? (i := 407) (by decide +kernel), by decide +kernel⟩
theorem wd_408 : (.methodLink "EmissionRows" 142 ⟨"EmissionRows", "firstFrozen", "()LEmissionRows$Code;"⟩ : Cond) ∈ lwG := List.mem_filter.mpr ⟨List.mem_of_getElem? (i := 408) (by decide +kernel), by decide +kernel⟩
theorem wd_410 : (.instanceMethod ⟨"EmissionRows", "firstFrozen", "()LEmissionRows$Code;"⟩ : Cond) ∈ lwG := List.mem_filter.mpr ⟨List.mem_of_getElem? (i := 410) (by decide +kernel), by decide +kernel⟩
theorem wd_411 : (.code ⟨"EmissionRows", "firstFrozen", "()LEmissionRows$Code;"⟩ prog_1_method_22_code 3 (Option.some (.object "EmissionRows$Code")) : Cond) ∈ lwG := List.mem_filter.mpr ⟨List.mem_of_getElem? (i := 411) (by decide +kernel), by decide +kernel⟩
theorem wd_414 : (.instanceMethod ⟨"EmissionRows$Code", "hasFrozenRow", "()Z"⟩ : Cond) ∈ lwG := List.mem_filter.mpr ⟨List.mem_of_getElem? (i := 414) (by decide +kernel), by decide +kernel⟩
theorem wd_415 : (.code ⟨"EmissionRows$Code", "hasFrozenRow", "()Z"⟩ prog_2_method_5_code 1 (Option.some .boolean) : Cond) ∈ lwG := List.mem_filter.mpr ⟨List.mem_of_getElem? (i := 415) (by decide +kernel), by decide +kernel⟩
theorem wd_416 : (.methodLink "EmissionRowsLaw" 77 ⟨"EmissionRows", "answer", "(II)I"⟩ : Cond) ∈ lwG := List.mem_filter.mpr ⟨List.mem_of_getElem? (i := 416) (by decide +kernel), by decide +kernel⟩
theorem wd_417 : (.instanceMethod ⟨"EmissionRows", "answer", "(II)I"⟩ : Cond) ∈ lwG := List.mem_filter.mpr ⟨List.mem_of_getElem? (i := 417) (by decide +kernel), by decide +kernel⟩
theorem wd_418 : (.selects "EmissionRows" ⟨"EmissionRows", "answer", "(II)I"⟩ ⟨"EmissionRows", "answer", "(II)I"⟩ : Cond) ∈ lwG := List.mem_filter.mpr ⟨List.mem_of_getElem? (i := 418) (by decide +kernel), by decide +kernel⟩
theorem wd_419 : (.code ⟨"EmissionRows", "answer", "(II)I"⟩ prog_1_method_12_code 3 (Option.some .int) : Cond) ∈ lwG := List.mem_filter.mpr ⟨List.mem_of_getElem? (i := 419) (by decide +kernel), by decide +kernel⟩
theorem wd_422 : (.instanceMethod ⟨"EmissionRows$Octets", "drop", "()V"⟩ : Cond) ∈ lwG := List.mem_filter.mpr ⟨List.mem_of_getElem? (i := 422) (by decide +kernel), by decide +kernel⟩
theorem wd_423 : (.code ⟨"EmissionRows$Octets", "drop", "()V"⟩ prog_5_method_2_code 1 (Option.none : Option Jvm.ClassFile.FieldType) : Cond) ∈ lwG := List.mem_filter.mpr ⟨List.mem_of_getElem? (i := 423) (by decide +kernel), by decide +kernel⟩
theorem wd_424 : (.methodLink "EmissionRows" 155 ⟨"EmissionRows", "tellNow", "(I)V"⟩ : Cond) ∈ lwG := List.mem_filter.mpr ⟨List.mem_of_getElem? (i := 424) (by decide +kernel), by decide +kernel⟩
theorem wd_426 : (.instanceMethod ⟨"EmissionRows", "tellNow", "(I)V"⟩ : Cond) ∈ lwG := List.mem_filter.mpr ⟨List.mem_of_getElem? (i := 426) (by decide +kernel), by decide +kernel⟩
theorem wd_427 : (.code ⟨"EmissionRows", "tellNow", "(I)V"⟩ prog_1_method_23_code 2 (Option.none : Option Jvm.ClassFile.FieldType) : Cond) ∈ lwG := List.mem_filter.mpr ⟨List.mem_of_getElem? (i := 427) (by decide +kernel), by decide +kernel⟩
theorem wd_430 : (.instanceMethod ⟨"EmissionRows$Octets", "begin", "(I)V"⟩ : Cond) ∈ lwG := List.mem_filter.mpr ⟨List.mem_of_getElem? (i := 430) (by decide +kernel), by decide +kernel⟩
theorem wd_431 : (.code ⟨"EmissionRows$Octets", "begin", "(I)V"⟩ prog_5_method_3_code 2 (Option.none : Option Jvm.ClassFile.FieldType) : Cond) ∈ lwG := List.mem_filter.mpr ⟨List.mem_of_getElem? (i := 431) (by decide +kernel), by decide +kernel⟩
theorem wd_432 : (.methodLink "EmissionRows$Octets" 19 ⟨"EmissionRows$Octets", "add", "(I)V"⟩ : Cond) ∈ lwG := List.mem_filter.mpr ⟨List.mem_of_getElem? (i := 432) (by decide +kernel), by decide +kernel⟩
theorem wd_434 : (.instanceMethod ⟨"EmissionRows$Octets", "add", "(I)V"⟩ : Cond) ∈ lwG := List.mem_filter.mpr ⟨List.mem_of_getElem? (i := 434) (by decide +kernel), by decide +kernel⟩
theorem wd_435 : (.code ⟨"EmissionRows$Octets", "add", "(I)V"⟩ prog_5_method_4_code 2 (Option.none : Option Jvm.ClassFile.FieldType) : Cond) ∈ lwG := List.mem_filter.mpr ⟨List.mem_of_getElem? (i := 435) (by decide +kernel), by decide +kernel⟩
theorem wd_437 : (.methodLink "EmissionRows" 217 ⟨"EmissionRows", "kindsNotReady", "()I"⟩ : Cond) ∈ lwG := List.mem_filter.mpr ⟨List.mem_of_getElem? (i := 437) (by decide +kernel), by decide +kernel⟩
theorem wd_439 : (.instanceMethod ⟨"EmissionRows", "kindsNotReady", "()I"⟩ : Cond) ∈ lwG := List.mem_filter.mpr ⟨List.mem_of_getElem? (i := 439) (by decide +kernel), by decide +kernel⟩
theorem wd_440 : (.code ⟨"EmissionRows", "kindsNotReady", "()I"⟩ prog_1_method_24_code 3 (Option.some .int) : Cond) ∈ lwG := List.mem_filter.mpr ⟨List.mem_of_getElem? (i := 440) (by decide +kernel), by decide +kernel⟩
theorem wd_441 : (.constantLong "EmissionRows" 223 1000 : Cond) ∈ lwG := List.mem_filter.mpr ⟨List.mem_of_getElem? (i := 441) (by decide +kernel), by decide +kernel⟩
theorem wd_444 : (.instanceMethod ⟨"EmissionRows$Octets", "addTwo", "(I)V"⟩ : Cond) ∈ lwG := List.mem_filter.mpr ⟨List.mem_of_getElem? (i := 444) (by decide +kernel), by decide +kernel⟩
theorem wd_445 : (.code ⟨"EmissionRows$Octets", "addTwo", "(I)V"⟩ prog_5_method_5_code 2 (Option.none : Option Jvm.ClassFile.FieldType) : Cond) ∈ lwG := List.mem_filter.mpr ⟨List.mem_of_getElem? (i := 445) (by decide +kernel), by decide +kernel⟩
theorem wd_446 : (.methodLink "EmissionRows" 158 ⟨"EmissionRows", "tellFrozen", "(I)V"⟩ : Cond) ∈ lwG := List.mem_filter.mpr ⟨List.mem_of_getElem? (i := 446) (by decide +kernel), by decide +kernel⟩
theorem wd_448 : (.instanceMethod ⟨"EmissionRows", "tellFrozen", "(I)V"⟩ : Cond) ∈ lwG := List.mem_filter.mpr ⟨List.mem_of_getElem? (i := 448) (by decide +kernel), by decide +kernel⟩
theorem wd_449 : (.code ⟨"EmissionRows", "tellFrozen", "(I)V"⟩ prog_1_method_25_code 3 (Option.none : Option Jvm.ClassFile.FieldType) : Cond) ∈ lwG := List.mem_filter.mpr ⟨List.mem_of_getElem? (i := 449) (by decide +kernel), by decide +kernel⟩
theorem wd_450 : (.methodLink "EmissionRows" 161 ⟨"EmissionRows", "tellCounts", "(I)V"⟩ : Cond) ∈ lwG := List.mem_filter.mpr ⟨List.mem_of_getElem? (i := 450) (by decide +kernel), by decide +kernel⟩
theorem wd_452 : (.instanceMethod ⟨"EmissionRows", "tellCounts", "(I)V"⟩ : Cond) ∈ lwG := List.mem_filter.mpr ⟨List.mem_of_getElem? (i := 452) (by decide +kernel), by decide +kernel⟩
theorem wd_453 : (.code ⟨"EmissionRows", "tellCounts", "(I)V"⟩ prog_1_method_26_code 4 (Option.none : Option Jvm.ClassFile.FieldType) : Cond) ∈ lwG := List.mem_filter.mpr ⟨List.mem_of_getElem? (i := 453) (by decide +kernel), by decide +kernel⟩
theorem wd_454 : (.methodLink "EmissionRows" 164 ⟨"EmissionRows", "tellCodes", "(I)V"⟩ : Cond) ∈ lwG := List.mem_filter.mpr ⟨List.mem_of_getElem? (i := 454) (by decide +kernel), by decide +kernel⟩
theorem wd_456 : (.instanceMethod ⟨"EmissionRows", "tellCodes", "(I)V"⟩ : Cond) ∈ lwG := List.mem_filter.mpr ⟨List.mem_of_getElem? (i := 456) (by decide +kernel), by decide +kernel⟩
theorem wd_457 : (.code ⟨"EmissionRows", "tellCodes", "(I)V"⟩ prog_1_method_27_code 4 (Option.none : Option Jvm.ClassFile.FieldType) : Cond) ∈ lwG := List.mem_filter.mpr ⟨List.mem_of_getElem? (i := 457) (by decide +kernel), by decide +kernel⟩
theorem wd_460 : (.instanceMethod ⟨"EmissionRows$Code", "isToldIn", "(I)Z"⟩ : Cond) ∈ lwG := List.mem_filter.mpr ⟨List.mem_of_getElem? (i := 460) (by decide +kernel), by decide +kernel⟩
theorem wd_461 : (.code ⟨"EmissionRows$Code", "isToldIn", "(I)Z"⟩ prog_2_method_6_code 2 (Option.some .boolean) : Cond) ∈ lwG := List.mem_filter.mpr ⟨List.mem_of_getElem? (i := 461) (by decide +kernel), by decide +kernel⟩
theorem wd_462 : (.methodLink "EmissionRowsLaw" 85 ⟨"EmissionRows", "sum", "()I"⟩ : Cond) ∈ lwG := List.mem_filter.mpr ⟨List.mem_of_getElem? (i := 462) (by decide +kernel), by decide +kernel⟩
theorem wd_463 : (.instanceMethod ⟨"EmissionRows", "sum", "()I"⟩ : Cond) ∈ lwG := List.mem_filter.mpr ⟨List.mem_of_getElem? (i := 463) (by decide +kernel), by decide +kernel⟩
theorem wd_464 : (.selects "EmissionRows" ⟨"EmissionRows", "sum", "()I"⟩ ⟨"EmissionRows", "sum", "()I"⟩ : Cond) ∈ lwG := List.mem_filter.mpr ⟨List.mem_of_getElem? (i := 464) (by decide +kernel), by decide +kernel⟩
theorem wd_465 : (.code ⟨"EmissionRows", "sum", "()I"⟩ prog_1_method_14_code 1 (Option.some .int) : Cond) ∈ lwG := List.mem_filter.mpr ⟨List.mem_of_getElem? (i := 465) (by decide +kernel), by decide +kernel⟩
theorem wd_468 : (.instanceMethod ⟨"EmissionRows$Octets", "total", "()I"⟩ : Cond) ∈ lwG := List.mem_filter.mpr ⟨List.mem_of_getElem? (i := 468) (by decide +kernel), by decide +kernel⟩
theorem wd_469 : (.code ⟨"EmissionRows$Octets", "total", "()I"⟩ prog_5_method_7_code 3 (Option.some .int) : Cond) ∈ lwG := List.mem_filter.mpr ⟨List.mem_of_getElem? (i := 469) (by decide +kernel), by decide +kernel⟩
theorem wd_470 : (.methodLink "EmissionRowsLaw" 38 ⟨"EmissionRowsLaw", "ratio", "(LEmissionRows;II[J)I"⟩ : Cond) ∈ lwG := List.mem_filter.mpr ⟨List.mem_of_getElem? (i := 470) (by decide +kernel), by decide +kernel⟩
theorem wd_471 : (.static ⟨"EmissionRowsLaw", "ratio", "(LEmissionRows;II[J)I"⟩ : Cond) ∈ lwG := List.mem_filter.mpr ⟨List.mem_of_getElem? (i := 471) (by decide +kernel), by decide +kernel⟩
theorem wd_473 : (.classLink "EmissionRowsLaw" 13 "java/lang/ArithmeticException" : Cond) ∈ lwG := List.mem_filter.mpr ⟨List.mem_of_getElem? (i := 473) (by decide +kernel), by decide +kernel⟩
theorem wd_474 : (.methodLink "EmissionRowsLaw" 7 ⟨"EmissionRows", "ratio", "(II)J"⟩ : Cond) ∈ lwG := List.mem_filter.mpr ⟨List.mem_of_getElem? (i := 474) (by decide +kernel), by decide +kernel⟩
theorem wd_475 : (.instanceMethod ⟨"EmissionRows", "ratio", "(II)J"⟩ : Cond) ∈ lwG := List.mem_filter.mpr ⟨List.mem_of_getElem? (i := 475) (by decide +kernel), by decide +kernel⟩
theorem wd_476 : (.selects "EmissionRows" ⟨"EmissionRows", "ratio", "(II)J"⟩ ⟨"EmissionRows", "ratio", "(II)J"⟩ : Cond) ∈ lwG := List.mem_filter.mpr ⟨List.mem_of_getElem? (i := 476) (by decide +kernel), by decide +kernel⟩
theorem wd_477 : (.code ⟨"EmissionRows", "ratio", "(II)J"⟩ prog_1_method_5_code 4 (Option.some .long) : Cond) ∈ lwG := List.mem_filter.mpr ⟨List.mem_of_getElem? (i := 477) (by decide +kernel), by decide +kernel⟩
theorem wd_478 : (.constantLong "EmissionRows" 83 (-1) : Cond) ∈ lwG := List.mem_filter.mpr ⟨List.mem_of_getElem? (i := 478) (by decide +kernel), by decide +kernel⟩
theorem wd_479 : (.classLink "EmissionRows" 85 "java/lang/ArithmeticException" : Cond) ∈ lwG := List.mem_filter.mpr ⟨List.mem_of_getElem? (i := 479) (by decide +kernel), by decide +kernel⟩
theorem wd_480 : (.instantiable "java/lang/ArithmeticException" 6 : Cond) ∈ lwG := List.mem_filter.mpr ⟨List.mem_of_getElem? (i := 480) (by decide +kernel), by decide +kernel⟩
theorem wd_488 : (.selects "java/lang/ArithmeticException" ⟨"java/lang/Throwable", "fillInStackTrace", "(I)Ljava/lang/Throwable;"⟩ ⟨"java/lang/Throwable", "fillInStackTrace", "(I)Ljava/lang/Throwable;"⟩ : Cond) ∈ lwG := List.mem_filter.mpr ⟨List.mem_of_getElem? (i := 488) (by decide +kernel), by decide +kernel⟩
theorem wd_489 : (.selects "java/lang/ArithmeticException" ⟨"java/lang/Throwable", "fillInStackTrace", "()Ljava/lang/Throwable;"⟩ ⟨"java/lang/Throwable", "fillInStackTrace", "()Ljava/lang/Throwable;"⟩ : Cond) ∈ lwG := List.mem_filter.mpr ⟨List.mem_of_getElem? (i := 489) (by decide +kernel), by decide +kernel⟩
theorem wd_500 : (.fieldLink "java/lang/Throwable" 198 "java/lang/Throwable" "backtrace" "Ljava/lang/Object;" : Cond) ∈ lwG := List.mem_filter.mpr ⟨List.mem_of_getElem? (i := 500) (by decide +kernel), by decide +kernel⟩
theorem wd_502 : (.instanceMethod ⟨"java/lang/Throwable", "<init>", "()V"⟩ : Cond) ∈ lwG := List.mem_filter.mpr ⟨List.mem_of_getElem? (i := 502) (by decide +kernel), by decide +kernel⟩
theorem wd_503 : (.code ⟨"java/lang/Throwable", "<init>", "()V"⟩ prog_18_method_1_code 1 (Option.none : Option Jvm.ClassFile.FieldType) : Cond) ∈ lwG := List.mem_filter.mpr ⟨List.mem_of_getElem? (i := 503) (by decide +kernel), by decide +kernel⟩
theorem wd_504 : (.methodLink "java/lang/Throwable" 1 ⟨"java/lang/Object", "<init>", "()V"⟩ : Cond) ∈ lwG := List.mem_filter.mpr ⟨List.mem_of_getElem? (i := 504) (by decide +kernel), by decide +kernel⟩
theorem wd_505 : (.fieldLink "java/lang/Throwable" 13 "java/lang/Throwable" "UNASSIGNED_STACK" "[Ljava/lang/StackTraceElement;" : Cond) ∈ lwG := List.mem_filter.mpr ⟨List.mem_of_getElem? (i := 505) (by decide +kernel), by decide +kernel⟩
theorem wd_507 : (.fieldLink "java/lang/Throwable" 20 "java/lang/Throwable" "SUPPRESSED_SENTINEL" "Ljava/util/List;" : Cond) ∈ lwG := List.mem_filter.mpr ⟨List.mem_of_getElem? (i := 507) (by decide +kernel), by decide +kernel⟩
theorem wd_509 : (.methodLink "java/lang/Throwable" 27 ⟨"java/lang/Throwable", "fillInStackTrace", "()Ljava/lang/Throwable;"⟩ : Cond) ∈ lwG := List.mem_filter.mpr ⟨List.mem_of_getElem? (i := 509) (by decide +kernel), by decide +kernel⟩
theorem wd_510 : (.instanceMethod ⟨"java/lang/Throwable", "fillInStackTrace", "()Ljava/lang/Throwable;"⟩ : Cond) ∈ lwG := List.mem_filter.mpr ⟨List.mem_of_getElem? (i := 510) (by decide +kernel), by decide +kernel⟩
theorem wd_512 : (.selects "java/lang/IndexOutOfBoundsException" ⟨"java/lang/Throwable", "fillInStackTrace", "()Ljava/lang/Throwable;"⟩ ⟨"java/lang/Throwable", "fillInStackTrace", "()Ljava/lang/Throwable;"⟩ : Cond) ∈ lwG := List.mem_filter.mpr ⟨List.mem_of_getElem? (i := 512) (by decide +kernel), by decide +kernel⟩
theorem wd_514 : (.methodLink "java/lang/Throwable" 202 ⟨"java/lang/Throwable", "fillInStackTrace", "(I)Ljava/lang/Throwable;"⟩ : Cond) ∈ lwG := List.mem_filter.mpr ⟨List.mem_of_getElem? (i := 514) (by decide +kernel), by decide +kernel⟩
theorem wd_516 : (.instanceMethod ⟨"java/lang/Throwable", "fillInStackTrace", "(I)Ljava/lang/Throwable;"⟩ : Cond) ∈ lwG := List.mem_filter.mpr ⟨List.mem_of_getElem? (i := 516) (by decide +kernel), by decide +kernel⟩
theorem wd_517 : (.instantiable "java/lang/Throwable" 6 : Cond) ∈ lwG := List.mem_filter.mpr ⟨List.mem_of_getElem? (i := 517) (by decide +kernel), by decide +kernel⟩
theorem wd_518 : (.native ⟨"java/lang/Throwable", "fillInStackTrace", "(I)Ljava/lang/Throwable;"⟩ : Cond) ∈ lwG := List.mem_filter.mpr ⟨List.mem_of_getElem? (i := 518) (by decide +kernel), by decide +kernel⟩
theorem wd_520 : (.methodLink "EmissionRows" 89 ⟨"java/lang/ArithmeticException", "<init>", "(Ljava/lang/String;)V"⟩ : Cond) ∈ lwG := List.mem_filter.mpr ⟨List.mem_of_getElem? (i := 520) (by decide +kernel), by decide +kernel⟩
theorem wd_521 : (.instanceMethod ⟨"java/lang/ArithmeticException", "<init>", "(Ljava/lang/String;)V"⟩ : Cond) ∈ lwG := List.mem_filter.mpr ⟨List.mem_of_getElem? (i := 521) (by decide +kernel), by decide +kernel⟩
theorem wd_522 : (.code ⟨"java/lang/ArithmeticException", "<init>", "(Ljava/lang/String;)V"⟩ prog_9_method_2_code 2 (Option.none : Option Jvm.ClassFile.FieldType) : Cond) ∈ lwG := List.mem_filter.mpr ⟨List.mem_of_getElem? (i := 522) (by decide +kernel), by decide +kernel⟩
theorem wd_523 : (.methodLink "java/lang/ArithmeticException" 7 ⟨"java/lang/RuntimeException", "<init>", "(Ljava/lang/String;)V"⟩ : Cond) ∈ lwG := List.mem_filter.mpr ⟨List.mem_of_getElem? (i := 523) (by decide +kernel), by decide +kernel⟩
theorem wd_524 : (.instanceMethod ⟨"java/lang/RuntimeException", "<init>", "(Ljava/lang/String;)V"⟩ : Cond) ∈ lwG := List.mem_filter.mpr ⟨List.mem_of_getElem? (i := 524) (by decide +kernel), by decide +kernel⟩
theorem wd_525 : (.code ⟨"java/lang/RuntimeException", "<init>", "(Ljava/lang/String;)V"⟩ prog_15_method_2_code 2 (Option.none : Option Jvm.ClassFile.FieldType) : Cond) ∈ lwG := List.mem_filter.mpr ⟨List.mem_of_getElem? (i := 525) (by decide +kernel), by decide +kernel⟩
theorem wd_526 : (.methodLink "java/lang/RuntimeException" 7 ⟨"java/lang/Exception", "<init>", "(Ljava/lang/String;)V"⟩ : Cond) ∈ lwG := List.mem_filter.mpr ⟨List.mem_of_getElem? (i := 526) (by decide +kernel), by decide +kernel⟩
theorem wd_527 : (.instanceMethod ⟨"java/lang/Exception", "<init>", "(Ljava/lang/String;)V"⟩ : Cond) ∈ lwG := List.mem_filter.mpr ⟨List.mem_of_getElem? (i := 527) (by decide +kernel), by decide +kernel⟩
theorem wd_528 : (.code ⟨"java/lang/Exception", "<init>", "(Ljava/lang/String;)V"⟩ prog_11_method_2_code 2 (Option.none : Option Jvm.ClassFile.FieldType) : Cond) ∈ lwG := List.mem_filter.mpr ⟨List.mem_of_getElem? (i := 528) (by decide +kernel), by decide +kernel⟩
theorem wd_529 : (.methodLink "java/lang/Exception" 7 ⟨"java/lang/Throwable", "<init>", "(Ljava/lang/String;)V"⟩ : Cond) ∈ lwG := List.mem_filter.mpr ⟨List.mem_of_getElem? (i := 529) (by decide +kernel), by decide +kernel⟩
theorem wd_530 : (.instanceMethod ⟨"java/lang/Throwable", "<init>", "(Ljava/lang/String;)V"⟩ : Cond) ∈ lwG := List.mem_filter.mpr ⟨List.mem_of_getElem? (i := 530) (by decide +kernel), by decide +kernel⟩
theorem wd_531 : (.code ⟨"java/lang/Throwable", "<init>", "(Ljava/lang/String;)V"⟩ prog_18_method_2_code 2 (Option.none : Option Jvm.ClassFile.FieldType) : Cond) ∈ lwG := List.mem_filter.mpr ⟨List.mem_of_getElem? (i := 531) (by decide +kernel), by decide +kernel⟩
theorem wd_533 : (.fieldLink "java/lang/Throwable" 31 "java/lang/Throwable" "detailMessage" "Ljava/lang/String;" : Cond) ∈ lwG := List.mem_filter.mpr ⟨List.mem_of_getElem? (i := 533) (by decide +kernel), by decide +kernel⟩
theorem wd_534 : (.fieldLink "java/lang/Throwable" 7 "java/lang/Throwable" "cause" "Ljava/lang/Throwable;" : Cond) ∈ lwG := List.mem_filter.mpr ⟨List.mem_of_getElem? (i := 534) (by decide +kernel), by decide +kernel⟩
theorem wd_535 : (.fieldLink "java/lang/Throwable" 17 "java/lang/Throwable" "stackTrace" "[Ljava/lang/StackTraceElement;" : Cond) ∈ lwG := List.mem_filter.mpr ⟨List.mem_of_getElem? (i := 535) (by decide +kernel), by decide +kernel⟩
theorem wd_536 : (.fieldLink "java/lang/Throwable" 24 "java/lang/Throwable" "suppressedExceptions" "Ljava/util/List;" : Cond) ∈ lwG := List.mem_filter.mpr ⟨List.mem_of_getElem? (i := 536) (by decide +kernel), by decide +kernel⟩
theorem wd_545 : (.methodLink "EmissionRows" 92 ⟨"EmissionRows", "inLowestTerms", "(III)I"⟩ : Cond) ∈ lwG := List.mem_filter.mpr ⟨List.mem_of_getElem? (i := 545) (by decide +kernel), by decide +kernel⟩
theorem wd_546 : (.static ⟨"EmissionRows", "inLowestTerms", "(III)I"⟩ : Cond) ∈ lwG := List.mem_filter.mpr ⟨List.mem_of_getElem? (i := 546) (by decide +kernel), by decide +kernel⟩
theorem wd_547 : (.code ⟨"EmissionRows", "inLowestTerms", "(III)I"⟩ prog_1_method_30_code 4 (Option.some .int) : Cond) ∈ lwG := List.mem_filter.mpr ⟨List.mem_of_getElem? (i := 547) (by decide +kernel), by decide +kernel⟩
theorem wd_548 : (.methodLink "EmissionRowsLaw" 81 ⟨"EmissionRowsLaw", "at", "(LEmissionRows;I[J)I"⟩ : Cond) ∈ lwG := List.mem_filter.mpr ⟨List.mem_of_getElem? (i := 548) (by decide +kernel), by decide +kernel⟩
theorem wd_549 : (.static ⟨"EmissionRowsLaw", "at", "(LEmissionRows;I[J)I"⟩ : Cond) ∈ lwG := List.mem_filter.mpr ⟨List.mem_of_getElem? (i := 549) (by decide +kernel), by decide +kernel⟩
theorem wd_551 : (.classLink "EmissionRowsLaw" 19 "java/lang/IndexOutOfBoundsException" : Cond) ∈ lwG := List.mem_filter.mpr ⟨List.mem_of_getElem? (i := 551) (by decide +kernel), by decide +kernel⟩
theorem wd_552 : (.methodLink "EmissionRowsLaw" 15 ⟨"EmissionRows", "at", "(I)B"⟩ : Cond) ∈ lwG := List.mem_filter.mpr ⟨List.mem_of_getElem? (i := 552) (by decide +kernel), by decide +kernel⟩
theorem wd_553 : (.instanceMethod ⟨"EmissionRows", "at", "(I)B"⟩ : Cond) ∈ lwG := List.mem_filter.mpr ⟨List.mem_of_getElem? (i := 553) (by decide +kernel), by decide +kernel⟩
theorem wd_554 : (.selects "EmissionRows" ⟨"EmissionRows", "at", "(I)B"⟩ ⟨"EmissionRows", "at", "(I)B"⟩ : Cond) ∈ lwG := List.mem_filter.mpr ⟨List.mem_of_getElem? (i := 554) (by decide +kernel), by decide +kernel⟩
theorem wd_555 : (.code ⟨"EmissionRows", "at", "(I)B"⟩ prog_1_method_13_code 2 (Option.some .byte) : Cond) ∈ lwG := List.mem_filter.mpr ⟨List.mem_of_getElem? (i := 555) (by decide +kernel), by decide +kernel⟩
theorem wd_558 : (.instanceMethod ⟨"EmissionRows$Octets", "has", "(I)Z"⟩ : Cond) ∈ lwG := List.mem_filter.mpr ⟨List.mem_of_getElem? (i := 558) (by decide +kernel), by decide +kernel⟩
theorem wd_559 : (.code ⟨"EmissionRows$Octets", "has", "(I)Z"⟩ prog_5_method_6_code 2 (Option.some .boolean) : Cond) ∈ lwG := List.mem_filter.mpr ⟨List.mem_of_getElem? (i := 559) (by decide +kernel), by decide +kernel⟩
theorem wd_560 : (.classLink "EmissionRows" 173 "java/lang/IndexOutOfBoundsException" : Cond) ∈ lwG := List.mem_filter.mpr ⟨List.mem_of_getElem? (i := 560) (by decide +kernel), by decide +kernel⟩
theorem wd_561 : (.instantiable "java/lang/IndexOutOfBoundsException" 6 : Cond) ∈ lwG := List.mem_filter.mpr ⟨List.mem_of_getElem? (i := 561) (by decide +kernel), by decide +kernel⟩
theorem wd_563 : (.selects "java/lang/IndexOutOfBoundsException" ⟨"java/lang/Throwable", "fillInStackTrace", "(I)Ljava/lang/Throwable;"⟩ ⟨"java/lang/Throwable", "fillInStackTrace", "(I)Ljava/lang/Throwable;"⟩ : Cond) ∈ lwG := List.mem_filter.mpr ⟨List.mem_of_getElem? (i := 563) (by decide +kernel), by decide +kernel⟩
theorem wd_570 : (.methodLink "EmissionRows" 177 ⟨"java/lang/IndexOutOfBoundsException", "<init>", "(Ljava/lang/String;)V"⟩ : Cond) ∈ lwG := List.mem_filter.mpr ⟨List.mem_of_getElem? (i := 570) (by decide +kernel), by decide +kernel⟩
theorem wd_571 : (.instanceMethod ⟨"java/lang/IndexOutOfBoundsException", "<init>", "(Ljava/lang/String;)V"⟩ : Cond) ∈ lwG := List.mem_filter.mpr ⟨List.mem_of_getElem? (i := 571) (by decide +kernel), by decide +kernel⟩
theorem wd_572 : (.code ⟨"java/lang/IndexOutOfBoundsException", "<init>", "(Ljava/lang/String;)V"⟩ prog_12_method_2_code 2 (Option.none : Option Jvm.ClassFile.FieldType) : Cond) ∈ lwG := List.mem_filter.mpr ⟨List.mem_of_getElem? (i := 572) (by decide +kernel), by decide +kernel⟩
theorem wd_573 : (.methodLink "java/lang/IndexOutOfBoundsException" 7 ⟨"java/lang/RuntimeException", "<init>", "(Ljava/lang/String;)V"⟩ : Cond) ∈ lwG := List.mem_filter.mpr ⟨List.mem_of_getElem? (i := 573) (by decide +kernel), by decide +kernel⟩
theorem wd_576 : (.classLink "EmissionRowsLaw" 22 "EmissionRowsModel" : Cond) ∈ lwG := List.mem_filter.mpr ⟨List.mem_of_getElem? (i := 576) (by decide +kernel), by decide +kernel⟩
theorem wd_577 : (.instantiable "EmissionRowsModel" 25 : Cond) ∈ lwG := List.mem_filter.mpr ⟨List.mem_of_getElem? (i := 577) (by decide +kernel), by decide +kernel⟩
theorem wd_578 : (.methodLink "EmissionRowsLaw" 24 ⟨"EmissionRowsModel", "<init>", "()V"⟩ : Cond) ∈ lwG := List.mem_filter.mpr ⟨List.mem_of_getElem? (i := 578) (by decide +kernel), by decide +kernel⟩
theorem wd_579 : (.instanceMethod ⟨"EmissionRowsModel", "<init>", "()V"⟩ : Cond) ∈ lwG := List.mem_filter.mpr ⟨List.mem_of_getElem? (i := 579) (by decide +kernel), by decide +kernel⟩
theorem wd_580 : (.code ⟨"EmissionRowsModel", "<init>", "()V"⟩ prog_7_method_1_code 1 (Option.none : Option Jvm.ClassFile.FieldType) : Cond) ∈ lwG := List.mem_filter.mpr ⟨List.mem_of_getElem? (i := 580) (by decide +kernel), by decide +kernel⟩
theorem wd_581 : (.methodLink "EmissionRowsModel" 1 ⟨"java/lang/Object", "<init>", "()V"⟩ : Cond) ∈ lwG := List.mem_filter.mpr ⟨List.mem_of_getElem? (i := 581) (by decide +kernel), by decide +kernel⟩
theorem wd_582 : (.fieldLink "EmissionRowsModel" 62 "EmissionRowsModel" "code" "I" : Cond) ∈ lwG := List.mem_filter.mpr ⟨List.mem_of_getElem? (i := 582) (by decide +kernel), by decide +kernel⟩
theorem wd_583 : (.fieldLink "EmissionRowsModel" 74 "EmissionRowsModel" "monitors" "I" : Cond) ∈ lwG := List.mem_filter.mpr ⟨List.mem_of_getElem? (i := 583) (by decide +kernel), by decide +kernel⟩
theorem wd_584 : (.fieldLink "EmissionRowsModel" 7 "EmissionRowsModel" "kind" "[I" : Cond) ∈ lwG := List.mem_filter.mpr ⟨List.mem_of_getElem? (i := 584) (by decide +kernel), by decide +kernel⟩
theorem wd_585 : (.fieldLink "EmissionRowsModel" 13 "EmissionRowsModel" "condition" "[I" : Cond) ∈ lwG := List.mem_filter.mpr ⟨List.mem_of_getElem? (i := 585) (by decide +kernel), by decide +kernel⟩
theorem wd_586 : (.fieldLink "EmissionRowsModel" 16 "EmissionRowsModel" "runs" "[I" : Cond) ∈ lwG := List.mem_filter.mpr ⟨List.mem_of_getElem? (i := 586) (by decide +kernel), by decide +kernel⟩
theorem wd_587 : (.fieldLink "EmissionRowsModel" 19 "EmissionRowsModel" "chances" "[I" : Cond) ∈ lwG := List.mem_filter.mpr ⟨List.mem_of_getElem? (i := 587) (by decide +kernel), by decide +kernel⟩
theorem wd_588 : (.fieldLink "EmissionRowsModel" 22 "EmissionRowsModel" "held" "[I" : Cond) ∈ lwG := List.mem_filter.mpr ⟨List.mem_of_getElem? (i := 588) (by decide +kernel), by decide +kernel⟩
theorem wd_589 : (.fieldLink "EmissionRowsModel" 25 "EmissionRowsModel" "ready" "[Z" : Cond) ∈ lwG := List.mem_filter.mpr ⟨List.mem_of_getElem? (i := 589) (by decide +kernel), by decide +kernel⟩
theorem wd_590 : (.fieldLink "EmissionRowsModel" 84 "EmissionRowsModel" "codes" "I" : Cond) ∈ lwG := List.mem_filter.mpr ⟨List.mem_of_getElem? (i := 590) (by decide +kernel), by decide +kernel⟩
theorem wd_591 : (.fieldLink "EmissionRowsModel" 29 "EmissionRowsModel" "number" "[I" : Cond) ∈ lwG := List.mem_filter.mpr ⟨List.mem_of_getElem? (i := 591) (by decide +kernel), by decide +kernel⟩
theorem wd_592 : (.fieldLink "EmissionRowsModel" 32 "EmissionRowsModel" "on" "[Z" : Cond) ∈ lwG := List.mem_filter.mpr ⟨List.mem_of_getElem? (i := 592) (by decide +kernel), by decide +kernel⟩
theorem wd_593 : (.fieldLink "EmissionRowsModel" 35 "EmissionRowsModel" "pending" "[Z" : Cond) ∈ lwG := List.mem_filter.mpr ⟨List.mem_of_getElem? (i := 593) (by decide +kernel), by decide +kernel⟩
theorem wd_594 : (.fieldLink "EmissionRowsModel" 38 "EmissionRowsModel" "confirmed" "[Z" : Cond) ∈ lwG := List.mem_filter.mpr ⟨List.mem_of_getElem? (i := 594) (by decide +kernel), by decide +kernel⟩
theorem wd_595 : (.fieldLink "EmissionRowsModel" 41 "EmissionRowsModel" "permanent" "[Z" : Cond) ∈ lwG := List.mem_filter.mpr ⟨List.mem_of_getElem? (i := 595) (by decide +kernel), by decide +kernel⟩
theorem wd_596 : (.fieldLink "EmissionRowsModel" 44 "EmissionRowsModel" "off" "[I" : Cond) ∈ lwG := List.mem_filter.mpr ⟨List.mem_of_getElem? (i := 596) (by decide +kernel), by decide +kernel⟩
theorem wd_597 : (.fieldLink "EmissionRowsModel" 47 "EmissionRowsModel" "passed" "[I" : Cond) ∈ lwG := List.mem_filter.mpr ⟨List.mem_of_getElem? (i := 597) (by decide +kernel), by decide +kernel⟩
theorem wd_598 : (.fieldLink "EmissionRowsModel" 50 "EmissionRowsModel" "frozen" "[Z" : Cond) ∈ lwG := List.mem_filter.mpr ⟨List.mem_of_getElem? (i := 598) (by decide +kernel), by decide +kernel⟩
theorem wd_599 : (.fieldLink "EmissionRowsModel" 53 "EmissionRowsModel" "frozenCycle" "[I" : Cond) ∈ lwG := List.mem_filter.mpr ⟨List.mem_of_getElem? (i := 599) (by decide +kernel), by decide +kernel⟩
theorem wd_600 : (.fieldLink "EmissionRowsModel" 56 "EmissionRowsModel" "frozenConditions" "[I" : Cond) ∈ lwG := List.mem_filter.mpr ⟨List.mem_of_getElem? (i := 600) (by decide +kernel), by decide +kernel⟩
theorem wd_601 : (.fieldLink "EmissionRowsModel" 81 "EmissionRowsModel" "cycles" "I" : Cond) ∈ lwG := List.mem_filter.mpr ⟨List.mem_of_getElem? (i := 601) (by decide +kernel), by decide +kernel⟩
theorem wd_602 : (.fieldLink "EmissionRowsModel" 109 "EmissionRowsModel" "lit" "Z" : Cond) ∈ lwG := List.mem_filter.mpr ⟨List.mem_of_getElem? (i := 602) (by decide +kernel), by decide +kernel⟩
theorem wd_603 : (.fieldLink "EmissionRowsModel" 113 "EmissionRowsModel" "metresLit" "J" : Cond) ∈ lwG := List.mem_filter.mpr ⟨List.mem_of_getElem? (i := 603) (by decide +kernel), by decide +kernel⟩
theorem wd_604 : (.fieldLink "EmissionRowsModel" 117 "EmissionRowsModel" "minutesLit" "J" : Cond) ∈ lwG := List.mem_filter.mpr ⟨List.mem_of_getElem? (i := 604) (by decide +kernel), by decide +kernel⟩
theorem wd_605 : (.fieldLink "EmissionRowsModel" 132 "EmissionRowsModel" "size" "I" : Cond) ∈ lwG := List.mem_filter.mpr ⟨List.mem_of_getElem? (i := 605) (by decide +kernel), by decide +kernel⟩
theorem wd_606 : (.fieldLink "EmissionRowsModel" 59 "EmissionRowsModel" "row" "[I" : Cond) ∈ lwG := List.mem_filter.mpr ⟨List.mem_of_getElem? (i := 606) (by decide +kernel), by decide +kernel⟩
theorem wd_658 : (.arrayClass .int : Cond) ∈ lwG := List.mem_filter.mpr ⟨List.mem_of_getElem? (i := 658) (by decide +kernel), by decide +kernel⟩
theorem wd_659 : (.arrayClass .boolean : Cond) ∈ lwG := List.mem_filter.mpr ⟨List.mem_of_getElem? (i := 659) (by decide +kernel), by decide +kernel⟩
theorem wd_660 : (.methodLink "EmissionRowsLaw" 44 ⟨"EmissionRowsModel", "thrown", "()I"⟩ : Cond) ∈ lwG := List.mem_filter.mpr ⟨List.mem_of_getElem? (i := 660) (by decide +kernel), by decide +kernel⟩
theorem wd_661 : (.instanceMethod ⟨"EmissionRowsModel", "thrown", "()I"⟩ : Cond) ∈ lwG := List.mem_filter.mpr ⟨List.mem_of_getElem? (i := 661) (by decide +kernel), by decide +kernel⟩
theorem wd_662 : (.selects "EmissionRowsModel" ⟨"EmissionRowsModel", "thrown", "()I"⟩ ⟨"EmissionRowsModel", "thrown", "()I"⟩ : Cond) ∈ lwG := List.mem_filter.mpr ⟨List.mem_of_getElem? (i := 662) (by decide +kernel), by decide +kernel⟩
theorem wd_663 : (.code ⟨"EmissionRowsModel", "thrown", "()I"⟩ prog_7_method_2_code 1 (Option.some .int) : Cond) ∈ lwG := List.mem_filter.mpr ⟨List.mem_of_getElem? (i := 663) (by decide +kernel), by decide +kernel⟩
theorem wd_664 : (.methodLink "EmissionRowsLaw" 29 ⟨"EmissionRowsModel", "monitor", "(II)I"⟩ : Cond) ∈ lwG := List.mem_filter.mpr ⟨List.mem_of_getElem? (i := 664) (by decide +kernel), by decide +kernel⟩
theorem wd_665 : (.instanceMethod ⟨"EmissionRowsModel", "monitor", "(II)I"⟩ : Cond) ∈ lwG := List.mem_filter.mpr ⟨List.mem_of_getElem? (i := 665) (by decide +kernel), by decide +kernel⟩
theorem wd_666 : (.selects "EmissionRowsModel" ⟨"EmissionRowsModel", "monitor", "(II)I"⟩ ⟨"EmissionRowsModel", "monitor", "(II)I"⟩ : Cond) ∈ lwG := List.mem_filter.mpr ⟨List.mem_of_getElem? (i := 666) (by decide +kernel), by decide +kernel⟩
theorem wd_667 : (.code ⟨"EmissionRowsModel", "monitor", "(II)I"⟩ prog_7_method_4_code 3 (Option.some .int) : Cond) ∈ lwG := List.mem_filter.mpr ⟨List.mem_of_getElem? (i := 667) (by decide +kernel), by decide +kernel⟩
theorem wd_668 : (.constantLong "EmissionRowsModel" 66 3 : Cond) ∈ lwG := List.mem_filter.mpr ⟨List.mem_of_getElem? (i := 668) (by decide +kernel), by decide +kernel⟩
theorem wd_669 : (.methodLink "EmissionRowsModel" 68 ⟨"EmissionRowsModel", "isIn", "(JJJ)Z"⟩ : Cond) ∈ lwG := List.mem_filter.mpr ⟨List.mem_of_getElem? (i := 669) (by decide +kernel), by decide +kernel⟩
theorem wd_670 : (.static ⟨"EmissionRowsModel", "isIn", "(JJJ)Z"⟩ : Cond) ∈ lwG := List.mem_filter.mpr ⟨List.mem_of_getElem? (i := 670) (by decide +kernel), by decide +kernel⟩
theorem wd_671 : (.code ⟨"EmissionRowsModel", "isIn", "(JJJ)Z"⟩ prog_7_method_3_code 6 (Option.some .boolean) : Cond) ∈ lwG := List.mem_filter.mpr ⟨List.mem_of_getElem? (i := 671) (by decide +kernel), by decide +kernel⟩
theorem wd_672 : (.constantLong "EmissionRowsModel" 72 7 : Cond) ∈ lwG := List.mem_filter.mpr ⟨List.mem_of_getElem? (i := 672) (by decide +kernel), by decide +kernel⟩
theorem wd_673 : (.methodLink "EmissionRowsLaw" 33 ⟨"EmissionRowsModel", "cycle", "(II)I"⟩ : Cond) ∈ lwG := List.mem_filter.mpr ⟨List.mem_of_getElem? (i := 673) (by decide +kernel), by decide +kernel⟩
theorem wd_674 : (.instanceMethod ⟨"EmissionRowsModel", "cycle", "(II)I"⟩ : Cond) ∈ lwG := List.mem_filter.mpr ⟨List.mem_of_getElem? (i := 674) (by decide +kernel), by decide +kernel⟩
theorem wd_675 : (.selects "EmissionRowsModel" ⟨"EmissionRowsModel", "cycle", "(II)I"⟩ ⟨"EmissionRowsModel", "cycle", "(II)I"⟩ : Cond) ∈ lwG := List.mem_filter.mpr ⟨List.mem_of_getElem? (i := 675) (by decide +kernel), by decide +kernel⟩
theorem wd_676 : (.code ⟨"EmissionRowsModel", "cycle", "(II)I"⟩ prog_7_method_11_code 6 (Option.some .int) : Cond) ∈ lwG := List.mem_filter.mpr ⟨List.mem_of_getElem? (i := 676) (by decide +kernel), by decide +kernel⟩
theorem wd_677 : (.constantLong "EmissionRowsModel" 87 255 : Cond) ∈ lwG := List.mem_filter.mpr ⟨List.mem_of_getElem? (i := 677) (by decide +kernel), by decide +kernel⟩
theorem wd_678 : (.constantLong "EmissionRowsModel" 89 65535 : Cond) ∈ lwG := List.mem_filter.mpr ⟨List.mem_of_getElem? (i := 678) (by decide +kernel), by decide +kernel⟩
theorem wd_679 : (.methodLink "EmissionRowsModel" 91 ⟨"EmissionRowsModel", "hasChance", "(II)Z"⟩ : Cond) ∈ lwG := List.mem_filter.mpr ⟨List.mem_of_getElem? (i := 679) (by decide +kernel), by decide +kernel⟩
theorem wd_681 : (.instanceMethod ⟨"EmissionRowsModel", "hasChance", "(II)Z"⟩ : Cond) ∈ lwG := List.mem_filter.mpr ⟨List.mem_of_getElem? (i := 681) (by decide +kernel), by decide +kernel⟩
theorem wd_682 : (.code ⟨"EmissionRowsModel", "hasChance", "(II)Z"⟩ prog_7_method_6_code 4 (Option.some .boolean) : Cond) ∈ lwG := List.mem_filter.mpr ⟨List.mem_of_getElem? (i := 682) (by decide +kernel), by decide +kernel⟩
theorem wd_683 : (.methodLink "EmissionRowsModel" 77 ⟨"EmissionRowsModel", "holds", "(II)Z"⟩ : Cond) ∈ lwG := List.mem_filter.mpr ⟨List.mem_of_getElem? (i := 683) (by decide +kernel), by decide +kernel⟩
theorem wd_684 : (.static ⟨"EmissionRowsModel", "holds", "(II)Z"⟩ : Cond) ∈ lwG := List.mem_filter.mpr ⟨List.mem_of_getElem? (i := 684) (by decide +kernel), by decide +kernel⟩
theorem wd_685 : (.code ⟨"EmissionRowsModel", "holds", "(II)Z"⟩ prog_7_method_5_code 2 (Option.some .boolean) : Cond) ∈ lwG := List.mem_filter.mpr ⟨List.mem_of_getElem? (i := 685) (by decide +kernel), by decide +kernel⟩
theorem wd_686 : (.methodLink "EmissionRowsModel" 94 ⟨"EmissionRowsModel", "count", "(IZ)V"⟩ : Cond) ∈ lwG := List.mem_filter.mpr ⟨List.mem_of_getElem? (i := 686) (by decide +kernel), by decide +kernel⟩
theorem wd_688 : (.instanceMethod ⟨"EmissionRowsModel", "count", "(IZ)V"⟩ : Cond) ∈ lwG := List.mem_filter.mpr ⟨List.mem_of_getElem? (i := 688) (by decide +kernel), by decide +kernel⟩
theorem wd_689 : (.code ⟨"EmissionRowsModel", "count", "(IZ)V"⟩ prog_7_method_7_code 3 (Option.none : Option Jvm.ClassFile.FieldType) : Cond) ∈ lwG := List.mem_filter.mpr ⟨List.mem_of_getElem? (i := 689) (by decide +kernel), by decide +kernel⟩
theorem wd_690 : (.methodLink "EmissionRowsModel" 98 ⟨"EmissionRowsModel", "endOn", "(II)V"⟩ : Cond) ∈ lwG := List.mem_filter.mpr ⟨List.mem_of_getElem? (i := 690) (by decide +kernel), by decide +kernel⟩
theorem wd_692 : (.instanceMethod ⟨"EmissionRowsModel", "endOn", "(II)V"⟩ : Cond) ∈ lwG := List.mem_filter.mpr ⟨List.mem_of_getElem? (i := 692) (by decide +kernel), by decide +kernel⟩
theorem wd_693 : (.code ⟨"EmissionRowsModel", "endOn", "(II)V"⟩ prog_7_method_8_code 3 (Option.none : Option Jvm.ClassFile.FieldType) : Cond) ∈ lwG := List.mem_filter.mpr ⟨List.mem_of_getElem? (i := 693) (by decide +kernel), by decide +kernel⟩
theorem wd_694 : (.methodLink "EmissionRowsModel" 102 ⟨"EmissionRowsModel", "endOff", "(II)V"⟩ : Cond) ∈ lwG := List.mem_filter.mpr ⟨List.mem_of_getElem? (i := 694) (by decide +kernel), by decide +kernel⟩
theorem wd_696 : (.instanceMethod ⟨"EmissionRowsModel", "endOff", "(II)V"⟩ : Cond) ∈ lwG := List.mem_filter.mpr ⟨List.mem_of_getElem? (i := 696) (by decide +kernel), by decide +kernel⟩
theorem wd_697 : (.code ⟨"EmissionRowsModel", "endOff", "(II)V"⟩ prog_7_method_9_code 3 (Option.none : Option Jvm.ClassFile.FieldType) : Cond) ∈ lwG := List.mem_filter.mpr ⟨List.mem_of_getElem? (i := 697) (by decide +kernel), by decide +kernel⟩
theorem wd_698 : (.methodLink "EmissionRowsModel" 105 ⟨"EmissionRowsModel", "confirmedCodes", "()I"⟩ : Cond) ∈ lwG := List.mem_filter.mpr ⟨List.mem_of_getElem? (i := 698) (by decide +kernel), by decide +kernel⟩
theorem wd_700 : (.instanceMethod ⟨"EmissionRowsModel", "confirmedCodes", "()I"⟩ : Cond) ∈ lwG := List.mem_filter.mpr ⟨List.mem_of_getElem? (i := 700) (by decide +kernel), by decide +kernel⟩
theorem wd_701 : (.code ⟨"EmissionRowsModel", "confirmedCodes", "()I"⟩ prog_7_method_10_code 3 (Option.some .int) : Cond) ∈ lwG := List.mem_filter.mpr ⟨List.mem_of_getElem? (i := 701) (by decide +kernel), by decide +kernel⟩
theorem wd_702 : (.methodLink "EmissionRowsLaw" 37 ⟨"EmissionRowsModel", "count", "(II)I"⟩ : Cond) ∈ lwG := List.mem_filter.mpr ⟨List.mem_of_getElem? (i := 702) (by decide +kernel), by decide +kernel⟩
theorem wd_703 : (.instanceMethod ⟨"EmissionRowsModel", "count", "(II)I"⟩ : Cond) ∈ lwG := List.mem_filter.mpr ⟨List.mem_of_getElem? (i := 703) (by decide +kernel), by decide +kernel⟩
theorem wd_704 : (.selects "EmissionRowsModel" ⟨"EmissionRowsModel", "count", "(II)I"⟩ ⟨"EmissionRowsModel", "count", "(II)I"⟩ : Cond) ∈ lwG := List.mem_filter.mpr ⟨List.mem_of_getElem? (i := 704) (by decide +kernel), by decide +kernel⟩
theorem wd_705 : (.code ⟨"EmissionRowsModel", "count", "(II)I"⟩ prog_7_method_12_code 3 (Option.some .int) : Cond) ∈ lwG := List.mem_filter.mpr ⟨List.mem_of_getElem? (i := 705) (by decide +kernel), by decide +kernel⟩
theorem wd_706 : (.methodLink "EmissionRowsLaw" 43 ⟨"EmissionRowsModel", "ratio", "(II)J"⟩ : Cond) ∈ lwG := List.mem_filter.mpr ⟨List.mem_of_getElem? (i := 706) (by decide +kernel), by decide +kernel⟩
theorem wd_707 : (.instanceMethod ⟨"EmissionRowsModel", "ratio", "(II)J"⟩ : Cond) ∈ lwG := List.mem_filter.mpr ⟨List.mem_of_getElem? (i := 707) (by decide +kernel), by decide +kernel⟩
theorem wd_708 : (.selects "EmissionRowsModel" ⟨"EmissionRowsModel", "ratio", "(II)J"⟩ ⟨"EmissionRowsModel", "ratio", "(II)J"⟩ : Cond) ∈ lwG := List.mem_filter.mpr ⟨List.mem_of_getElem? (i := 708) (by decide +kernel), by decide +kernel⟩
theorem wd_709 : (.code ⟨"EmissionRowsModel", "ratio", "(II)J"⟩ prog_7_method_13_code 7 (Option.some .long) : Cond) ∈ lwG := List.mem_filter.mpr ⟨List.mem_of_getElem? (i := 709) (by decide +kernel), by decide +kernel⟩
theorem wd_710 : (.constantLong "EmissionRowsModel" 120 (-1) : Cond) ∈ lwG := List.mem_filter.mpr ⟨List.mem_of_getElem? (i := 710) (by decide +kernel), by decide +kernel⟩
theorem wd_711 : (.methodLink "EmissionRowsLaw" 52 ⟨"EmissionRowsModel", "ready", "(I)I"⟩ : Cond) ∈ lwG := List.mem_filter.mpr ⟨List.mem_of_getElem? (i := 711) (by decide +kernel), by decide +kernel⟩
theorem wd_712 : (.instanceMethod ⟨"EmissionRowsModel", "ready", "(I)I"⟩ : Cond) ∈ lwG := List.mem_filter.mpr ⟨List.mem_of_getElem? (i := 712) (by decide +kernel), by decide +kernel⟩
theorem wd_713 : (.selects "EmissionRowsModel" ⟨"EmissionRowsModel", "ready", "(I)I"⟩ ⟨"EmissionRowsModel", "ready", "(I)I"⟩ : Cond) ∈ lwG := List.mem_filter.mpr ⟨List.mem_of_getElem? (i := 713) (by decide +kernel), by decide +kernel⟩
theorem wd_714 : (.code ⟨"EmissionRowsModel", "ready", "(I)I"⟩ prog_7_method_14_code 4 (Option.some .int) : Cond) ∈ lwG := List.mem_filter.mpr ⟨List.mem_of_getElem? (i := 714) (by decide +kernel), by decide +kernel⟩
theorem wd_715 : (.methodLink "EmissionRowsLaw" 57 ⟨"EmissionRowsModel", "fault", "(IZ)I"⟩ : Cond) ∈ lwG := List.mem_filter.mpr ⟨List.mem_of_getElem? (i := 715) (by decide +kernel), by decide +kernel⟩
theorem wd_716 : (.instanceMethod ⟨"EmissionRowsModel", "fault", "(IZ)I"⟩ : Cond) ∈ lwG := List.mem_filter.mpr ⟨List.mem_of_getElem? (i := 716) (by decide +kernel), by decide +kernel⟩
theorem wd_717 : (.selects "EmissionRowsModel" ⟨"EmissionRowsModel", "fault", "(IZ)I"⟩ ⟨"EmissionRowsModel", "fault", "(IZ)I"⟩ : Cond) ∈ lwG := List.mem_filter.mpr ⟨List.mem_of_getElem? (i := 717) (by decide +kernel), by decide +kernel⟩
theorem wd_718 : (.code ⟨"EmissionRowsModel", "fault", "(IZ)I"⟩ prog_7_method_15_code 4 (Option.some .int) : Cond) ∈ lwG := List.mem_filter.mpr ⟨List.mem_of_getElem? (i := 718) (by decide +kernel), by decide +kernel⟩
theorem wd_719 : (.methodLink "EmissionRowsLaw" 61 ⟨"EmissionRowsModel", "permanent", "(I)I"⟩ : Cond) ∈ lwG := List.mem_filter.mpr ⟨List.mem_of_getElem? (i := 719) (by decide +kernel), by decide +kernel⟩
theorem wd_720 : (.instanceMethod ⟨"EmissionRowsModel", "permanent", "(I)I"⟩ : Cond) ∈ lwG := List.mem_filter.mpr ⟨List.mem_of_getElem? (i := 720) (by decide +kernel), by decide +kernel⟩
theorem wd_721 : (.selects "EmissionRowsModel" ⟨"EmissionRowsModel", "permanent", "(I)I"⟩ ⟨"EmissionRowsModel", "permanent", "(I)I"⟩ : Cond) ∈ lwG := List.mem_filter.mpr ⟨List.mem_of_getElem? (i := 721) (by decide +kernel), by decide +kernel⟩
theorem wd_722 : (.code ⟨"EmissionRowsModel", "permanent", "(I)I"⟩ prog_7_method_16_code 4 (Option.some .int) : Cond) ∈ lwG := List.mem_filter.mpr ⟨List.mem_of_getElem? (i := 722) (by decide +kernel), by decide +kernel⟩
theorem wd_723 : (.methodLink "EmissionRowsLaw" 65 ⟨"EmissionRowsModel", "clear", "()I"⟩ : Cond) ∈ lwG := List.mem_filter.mpr ⟨List.mem_of_getElem? (i := 723) (by decide +kernel), by decide +kernel⟩
theorem wd_724 : (.instanceMethod ⟨"EmissionRowsModel", "clear", "()I"⟩ : Cond) ∈ lwG := List.mem_filter.mpr ⟨List.mem_of_getElem? (i := 724) (by decide +kernel), by decide +kernel⟩
theorem wd_725 : (.selects "EmissionRowsModel" ⟨"EmissionRowsModel", "clear", "()I"⟩ ⟨"EmissionRowsModel", "clear", "()I"⟩ : Cond) ∈ lwG := List.mem_filter.mpr ⟨List.mem_of_getElem? (i := 725) (by decide +kernel), by decide +kernel⟩
theorem wd_726 : (.code ⟨"EmissionRowsModel", "clear", "()I"⟩ prog_7_method_17_code 3 (Option.some .int) : Cond) ∈ lwG := List.mem_filter.mpr ⟨List.mem_of_getElem? (i := 726) (by decide +kernel), by decide +kernel⟩
theorem wd_727 : (.methodLink "EmissionRowsLaw" 72 ⟨"EmissionRowsModel", "lamp", "(JJ)I"⟩ : Cond) ∈ lwG := List.mem_filter.mpr ⟨List.mem_of_getElem? (i := 727) (by decide +kernel), by decide +kernel⟩
theorem wd_728 : (.instanceMethod ⟨"EmissionRowsModel", "lamp", "(JJ)I"⟩ : Cond) ∈ lwG := List.mem_filter.mpr ⟨List.mem_of_getElem? (i := 728) (by decide +kernel), by decide +kernel⟩
theorem wd_729 : (.selects "EmissionRowsModel" ⟨"EmissionRowsModel", "lamp", "(JJ)I"⟩ ⟨"EmissionRowsModel", "lamp", "(JJ)I"⟩ : Cond) ∈ lwG := List.mem_filter.mpr ⟨List.mem_of_getElem? (i := 729) (by decide +kernel), by decide +kernel⟩
theorem wd_730 : (.code ⟨"EmissionRowsModel", "lamp", "(JJ)I"⟩ prog_7_method_18_code 5 (Option.some .int) : Cond) ∈ lwG := List.mem_filter.mpr ⟨List.mem_of_getElem? (i := 730) (by decide +kernel), by decide +kernel⟩
theorem wd_731 : (.constantLong "EmissionRowsModel" 122 1000000000 : Cond) ∈ lwG := List.mem_filter.mpr ⟨List.mem_of_getElem? (i := 731) (by decide +kernel), by decide +kernel⟩
theorem wd_732 : (.methodLink "EmissionRowsLaw" 76 ⟨"EmissionRowsModel", "freeze", "(I)I"⟩ : Cond) ∈ lwG := List.mem_filter.mpr ⟨List.mem_of_getElem? (i := 732) (by decide +kernel), by decide +kernel⟩
theorem wd_733 : (.instanceMethod ⟨"EmissionRowsModel", "freeze", "(I)I"⟩ : Cond) ∈ lwG := List.mem_filter.mpr ⟨List.mem_of_getElem? (i := 733) (by decide +kernel), by decide +kernel⟩
theorem wd_734 : (.selects "EmissionRowsModel" ⟨"EmissionRowsModel", "freeze", "(I)I"⟩ ⟨"EmissionRowsModel", "freeze", "(I)I"⟩ : Cond) ∈ lwG := List.mem_filter.mpr ⟨List.mem_of_getElem? (i := 734) (by decide +kernel), by decide +kernel⟩
theorem wd_735 : (.code ⟨"EmissionRowsModel", "freeze", "(I)I"⟩ prog_7_method_21_code 3 (Option.some .int) : Cond) ∈ lwG := List.mem_filter.mpr ⟨List.mem_of_getElem? (i := 735) (by decide +kernel), by decide +kernel⟩
theorem wd_736 : (.methodLink "EmissionRowsModel" 125 ⟨"EmissionRowsModel", "most", "(J)I"⟩ : Cond) ∈ lwG := List.mem_filter.mpr ⟨List.mem_of_getElem? (i := 736) (by decide +kernel), by decide +kernel⟩
theorem wd_737 : (.static ⟨"EmissionRowsModel", "most", "(J)I"⟩ : Cond) ∈ lwG := List.mem_filter.mpr ⟨List.mem_of_getElem? (i := 737) (by decide +kernel), by decide +kernel⟩
theorem wd_738 : (.code ⟨"EmissionRowsModel", "most", "(J)I"⟩ prog_7_method_20_code 2 (Option.some .int) : Cond) ∈ lwG := List.mem_filter.mpr ⟨List.mem_of_getElem? (i := 738) (by decide +kernel), by decide +kernel⟩
theorem wd_739 : (.constant "EmissionRowsModel" 124 65535 : Cond) ∈ lwG := List.mem_filter.mpr ⟨List.mem_of_getElem? (i := 739) (by decide +kernel), by decide +kernel⟩
theorem wd_740 : (.methodLink "EmissionRowsModel" 129 ⟨"EmissionRowsModel", "firstFrozen", "()I"⟩ : Cond) ∈ lwG := List.mem_filter.mpr ⟨List.mem_of_getElem? (i := 740) (by decide +kernel), by decide +kernel⟩
theorem wd_742 : (.instanceMethod ⟨"EmissionRowsModel", "firstFrozen", "()I"⟩ : Cond) ∈ lwG := List.mem_filter.mpr ⟨List.mem_of_getElem? (i := 742) (by decide +kernel), by decide +kernel⟩
theorem wd_743 : (.code ⟨"EmissionRowsModel", "firstFrozen", "()I"⟩ prog_7_method_19_code 2 (Option.some .int) : Cond) ∈ lwG := List.mem_filter.mpr ⟨List.mem_of_getElem? (i := 743) (by decide +kernel), by decide +kernel⟩
theorem wd_744 : (.methodLink "EmissionRowsLaw" 80 ⟨"EmissionRowsModel", "answer", "(II)I"⟩ : Cond) ∈ lwG := List.mem_filter.mpr ⟨List.mem_of_getElem? (i := 744) (by decide +kernel), by decide +kernel⟩
theorem wd_745 : (.instanceMethod ⟨"EmissionRowsModel", "answer", "(II)I"⟩ : Cond) ∈ lwG := List.mem_filter.mpr ⟨List.mem_of_getElem? (i := 745) (by decide +kernel), by decide +kernel⟩
theorem wd_746 : (.selects "EmissionRowsModel" ⟨"EmissionRowsModel", "answer", "(II)I"⟩ ⟨"EmissionRowsModel", "answer", "(II)I"⟩ : Cond) ∈ lwG := List.mem_filter.mpr ⟨List.mem_of_getElem? (i := 746) (by decide +kernel), by decide +kernel⟩
theorem wd_747 : (.code ⟨"EmissionRowsModel", "answer", "(II)I"⟩ prog_7_method_27_code 4 (Option.some .int) : Cond) ∈ lwG := List.mem_filter.mpr ⟨List.mem_of_getElem? (i := 747) (by decide +kernel), by decide +kernel⟩
theorem wd_748 : (.methodLink "EmissionRowsModel" 142 ⟨"EmissionRowsModel", "tellState", "()V"⟩ : Cond) ∈ lwG := List.mem_filter.mpr ⟨List.mem_of_getElem? (i := 748) (by decide +kernel), by decide +kernel⟩
theorem wd_750 : (.instanceMethod ⟨"EmissionRowsModel", "tellState", "()V"⟩ : Cond) ∈ lwG := List.mem_filter.mpr ⟨List.mem_of_getElem? (i := 750) (by decide +kernel), by decide +kernel⟩
theorem wd_751 : (.code ⟨"EmissionRowsModel", "tellState", "()V"⟩ prog_7_method_24_code 3 (Option.none : Option Jvm.ClassFile.FieldType) : Cond) ∈ lwG := List.mem_filter.mpr ⟨List.mem_of_getElem? (i := 751) (by decide +kernel), by decide +kernel⟩
theorem wd_752 : (.methodLink "EmissionRowsModel" 135 ⟨"EmissionRowsModel", "put", "(I)V"⟩ : Cond) ∈ lwG := List.mem_filter.mpr ⟨List.mem_of_getElem? (i := 752) (by decide +kernel), by decide +kernel⟩
theorem wd_754 : (.instanceMethod ⟨"EmissionRowsModel", "put", "(I)V"⟩ : Cond) ∈ lwG := List.mem_filter.mpr ⟨List.mem_of_getElem? (i := 754) (by decide +kernel), by decide +kernel⟩
theorem wd_755 : (.code ⟨"EmissionRowsModel", "put", "(I)V"⟩ prog_7_method_22_code 2 (Option.none : Option Jvm.ClassFile.FieldType) : Cond) ∈ lwG := List.mem_filter.mpr ⟨List.mem_of_getElem? (i := 755) (by decide +kernel), by decide +kernel⟩
theorem wd_756 : (.constantLong "EmissionRowsModel" 145 1000 : Cond) ∈ lwG := List.mem_filter.mpr ⟨List.mem_of_getElem? (i := 756) (by decide +kernel), by decide +kernel⟩
theorem wd_757 : (.methodLink "EmissionRowsModel" 139 ⟨"EmissionRowsModel", "putTwo", "(I)V"⟩ : Cond) ∈ lwG := List.mem_filter.mpr ⟨List.mem_of_getElem? (i := 757) (by decide +kernel), by decide +kernel⟩
theorem wd_759 : (.instanceMethod ⟨"EmissionRowsModel", "putTwo", "(I)V"⟩ : Cond) ∈ lwG := List.mem_filter.mpr ⟨List.mem_of_getElem? (i := 759) (by decide +kernel), by decide +kernel⟩
theorem wd_760 : (.code ⟨"EmissionRowsModel", "putTwo", "(I)V"⟩ prog_7_method_23_code 2 (Option.none : Option Jvm.ClassFile.FieldType) : Cond) ∈ lwG := List.mem_filter.mpr ⟨List.mem_of_getElem? (i := 760) (by decide +kernel), by decide +kernel⟩
theorem wd_761 : (.methodLink "EmissionRowsModel" 147 ⟨"EmissionRowsModel", "tellFrozen", "(I)V"⟩ : Cond) ∈ lwG := List.mem_filter.mpr ⟨List.mem_of_getElem? (i := 761) (by decide +kernel), by decide +kernel⟩
theorem wd_763 : (.instanceMethod ⟨"EmissionRowsModel", "tellFrozen", "(I)V"⟩ : Cond) ∈ lwG := List.mem_filter.mpr ⟨List.mem_of_getElem? (i := 763) (by decide +kernel), by decide +kernel⟩
theorem wd_764 : (.code ⟨"EmissionRowsModel", "tellFrozen", "(I)V"⟩ prog_7_method_25_code 3 (Option.none : Option Jvm.ClassFile.FieldType) : Cond) ∈ lwG := List.mem_filter.mpr ⟨List.mem_of_getElem? (i := 764) (by decide +kernel), by decide +kernel⟩
theorem wd_765 : (.methodLink "EmissionRowsModel" 150 ⟨"EmissionRowsModel", "tellCodes", "(I)V"⟩ : Cond) ∈ lwG := List.mem_filter.mpr ⟨List.mem_of_getElem? (i := 765) (by decide +kernel), by decide +kernel⟩
theorem wd_767 : (.instanceMethod ⟨"EmissionRowsModel", "tellCodes", "(I)V"⟩ : Cond) ∈ lwG := List.mem_filter.mpr ⟨List.mem_of_getElem? (i := 767) (by decide +kernel), by decide +kernel⟩
theorem wd_768 : (.code ⟨"EmissionRowsModel", "tellCodes", "(I)V"⟩ prog_7_method_26_code 3 (Option.none : Option Jvm.ClassFile.FieldType) : Cond) ∈ lwG := List.mem_filter.mpr ⟨List.mem_of_getElem? (i := 768) (by decide +kernel), by decide +kernel⟩
theorem wd_769 : (.methodLink "EmissionRowsLaw" 84 ⟨"EmissionRowsModel", "at", "(I)B"⟩ : Cond) ∈ lwG := List.mem_filter.mpr ⟨List.mem_of_getElem? (i := 769) (by decide +kernel), by decide +kernel⟩
theorem wd_770 : (.instanceMethod ⟨"EmissionRowsModel", "at", "(I)B"⟩ : Cond) ∈ lwG := List.mem_filter.mpr ⟨List.mem_of_getElem? (i := 770) (by decide +kernel), by decide +kernel⟩
theorem wd_771 : (.selects "EmissionRowsModel" ⟨"EmissionRowsModel", "at", "(I)B"⟩ ⟨"EmissionRowsModel", "at", "(I)B"⟩ : Cond) ∈ lwG := List.mem_filter.mpr ⟨List.mem_of_getElem? (i := 771) (by decide +kernel), by decide +kernel⟩
theorem wd_772 : (.code ⟨"EmissionRowsModel", "at", "(I)B"⟩ prog_7_method_28_code 2 (Option.some .byte) : Cond) ∈ lwG := List.mem_filter.mpr ⟨List.mem_of_getElem? (i := 772) (by decide +kernel), by decide +kernel⟩
theorem wd_773 : (.methodLink "EmissionRowsLaw" 88 ⟨"EmissionRowsModel", "sum", "()I"⟩ : Cond) ∈ lwG := List.mem_filter.mpr ⟨List.mem_of_getElem? (i := 773) (by decide +kernel), by decide +kernel⟩
theorem wd_774 : (.instanceMethod ⟨"EmissionRowsModel", "sum", "()I"⟩ : Cond) ∈ lwG := List.mem_filter.mpr ⟨List.mem_of_getElem? (i := 774) (by decide +kernel), by decide +kernel⟩
theorem wd_775 : (.selects "EmissionRowsModel" ⟨"EmissionRowsModel", "sum", "()I"⟩ ⟨"EmissionRowsModel", "sum", "()I"⟩ : Cond) ∈ lwG := List.mem_filter.mpr ⟨List.mem_of_getElem? (i := 775) (by decide +kernel), by decide +kernel⟩
theorem wd_776 : (.code ⟨"EmissionRowsModel", "sum", "()I"⟩ prog_7_method_29_code 3 (Option.some .int) : Cond) ∈ lwG := List.mem_filter.mpr ⟨List.mem_of_getElem? (i := 776) (by decide +kernel), by decide +kernel⟩
theorem wd_777 : (.constantLong "EmissionRowsLaw" 66 4294967295 : Cond) ∈ lwG := List.mem_filter.mpr ⟨List.mem_of_getElem? (i := 777) (by decide +kernel), by decide +kernel⟩
theorem wd_778 : (.arrayClass .long : Cond) ∈ lwG := List.mem_filter.mpr ⟨List.mem_of_getElem? (i := 778) (by decide +kernel), by decide +kernel⟩
theorem wd_783 : (.selects "[Ljava/lang/Object;" ⟨"java/lang/Object", "getClass", "()Ljava/lang/Class;"⟩ ⟨"java/lang/Object", "getClass", "()Ljava/lang/Class;"⟩ : Cond) ∈ lwG := List.mem_filter.mpr ⟨List.mem_of_getElem? (i := 783) (by decide +kernel), by decide +kernel⟩
theorem wd_0 : (.selects "java/util/ArrayList" ⟨"java/util/ArrayList", "add", "(Ljava/lang/Object;[Ljava/lang/Object;I)V"⟩ ⟨"java/util/ArrayList", "add", "(Ljava/lang/Object;[Ljava/lang/Object;I)V"⟩ : Cond) ∈ lwG := List.mem_filter.mpr ⟨List.mem_of_getElem? (i := 0) (by decide +kernel), by decide +kernel⟩
theorem wd_1 : (.selects "java/util/ArrayList" ⟨"java/util/ArrayList", "grow", "()[Ljava/lang/Object;"⟩ ⟨"java/util/ArrayList", "grow", "()[Ljava/lang/Object;"⟩ : Cond) ∈ lwG := List.mem_filter.mpr ⟨List.mem_of_getElem? (i := 1) (by decide +kernel), by decide +kernel⟩
theorem wd_2 : (.selects "java/util/ArrayList" ⟨"java/util/ArrayList", "grow", "(I)[Ljava/lang/Object;"⟩ ⟨"java/util/ArrayList", "grow", "(I)[Ljava/lang/Object;"⟩ : Cond) ∈ lwG := List.mem_filter.mpr ⟨List.mem_of_getElem? (i := 2) (by decide +kernel), by decide +kernel⟩
theorem wd_3 : (.selects "EmissionRows" ⟨"EmissionRows", "passMonitors", "(II)I"⟩ ⟨"EmissionRows", "passMonitors", "(II)I"⟩ : Cond) ∈ lwG := List.mem_filter.mpr ⟨List.mem_of_getElem? (i := 3) (by decide +kernel), by decide +kernel⟩
theorem wd_4 : (.selects "EmissionRows$Monitor" ⟨"EmissionRows$Monitor", "endCycle", "(IZ)Z"⟩ ⟨"EmissionRows$Monitor", "endCycle", "(IZ)Z"⟩ : Cond) ∈ lwG := List.mem_filter.mpr ⟨List.mem_of_getElem? (i := 4) (by decide +kernel), by decide +kernel⟩
theorem wd_5 : (.selects "EmissionRows$Monitor" ⟨"EmissionRows$Monitor", "hasChance", "(I)Z"⟩ ⟨"EmissionRows$Monitor", "hasChance", "(I)Z"⟩ : Cond) ∈ lwG := List.mem_filter.mpr ⟨List.mem_of_getElem? (i := 5) (by decide +kernel), by decide +kernel⟩
theorem wd_6 : (.selects "EmissionRows$Monitor" ⟨"EmissionRows$Monitor", "countChance", "(Z)V"⟩ ⟨"EmissionRows$Monitor", "countChance", "(Z)V"⟩ : Cond) ∈ lwG := List.mem_filter.mpr ⟨List.mem_of_getElem? (i := 6) (by decide +kernel), by decide +kernel⟩
theorem wd_7 : (.selects "EmissionRows" ⟨"EmissionRows", "passCodes", "(I)V"⟩ ⟨"EmissionRows", "passCodes", "(I)V"⟩ : Cond) ∈ lwG := List.mem_filter.mpr ⟨List.mem_of_getElem? (i := 7) (by decide +kernel), by decide +kernel⟩
theorem wd_8 : (.selects "EmissionRows$Code" ⟨"EmissionRows$Code", "endCycleOn", "(II)V"⟩ ⟨"EmissionRows$Code", "endCycleOn", "(II)V"⟩ : Cond) ∈ lwG := List.mem_filter.mpr ⟨List.mem_of_getElem? (i := 8) (by decide +kernel), by decide +kernel⟩
theorem wd_9 : (.selects "EmissionRows$Code" ⟨"EmissionRows$Code", "endCycleOff", "(I)V"⟩ ⟨"EmissionRows$Code", "endCycleOff", "(I)V"⟩ : Cond) ∈ lwG := List.mem_filter.mpr ⟨List.mem_of_getElem? (i := 9) (by decide +kernel), by decide +kernel⟩
theorem wd_10 : (.selects "EmissionRows$Code" ⟨"EmissionRows$Code", "forgetFault", "()V"⟩ ⟨"EmissionRows$Code", "forgetFault", "()V"⟩ : Cond) ∈ lwG := List.mem_filter.mpr ⟨List.mem_of_getElem? (i := 10) (by decide +kernel), by decide +kernel⟩
theorem wd_11 : (.selects "EmissionRows" ⟨"EmissionRows", "howManyConfirmed", "()I"⟩ ⟨"EmissionRows", "howManyConfirmed", "()I"⟩ : Cond) ∈ lwG := List.mem_filter.mpr ⟨List.mem_of_getElem? (i := 11) (by decide +kernel), by decide +kernel⟩
theorem wd_12 : (.selects "EmissionRows$Lamp" ⟨"EmissionRows$Lamp", "follow", "(Z)V"⟩ ⟨"EmissionRows$Lamp", "follow", "(Z)V"⟩ : Cond) ∈ lwG := List.mem_filter.mpr ⟨List.mem_of_getElem? (i := 12) (by decide +kernel), by decide +kernel⟩
theorem wd_13 : (.selects "EmissionRows$Lamp" ⟨"EmissionRows$Lamp", "reset", "()V"⟩ ⟨"EmissionRows$Lamp", "reset", "()V"⟩ : Cond) ∈ lwG := List.mem_filter.mpr ⟨List.mem_of_getElem? (i := 13) (by decide +kernel), by decide +kernel⟩
theorem wd_14 : (.selects "EmissionRows" ⟨"EmissionRows", "isMonitor", "(I)Z"⟩ ⟨"EmissionRows", "isMonitor", "(I)Z"⟩ : Cond) ∈ lwG := List.mem_filter.mpr ⟨List.mem_of_getElem? (i := 14) (by decide +kernel), by decide +kernel⟩
theorem wd_15 : (.selects "EmissionRows" ⟨"EmissionRows", "readinessOf", "(I)I"⟩ ⟨"EmissionRows", "readinessOf", "(I)I"⟩ : Cond) ∈ lwG := List.mem_filter.mpr ⟨List.mem_of_getElem? (i := 15) (by decide +kernel), by decide +kernel⟩
theorem wd_16 : (.selects "EmissionRows" ⟨"EmissionRows", "knownCode", "(I)LEmissionRows$Code;"⟩ ⟨"EmissionRows", "knownCode", "(I)LEmissionRows$Code;"⟩ : Cond) ∈ lwG := List.mem_filter.mpr ⟨List.mem_of_getElem? (i := 16) (by decide +kernel), by decide +kernel⟩
theorem wd_17 : (.selects "EmissionRows$Lamp" ⟨"EmissionRows$Lamp", "goOn", "(JJ)Z"⟩ ⟨"EmissionRows$Lamp", "goOn", "(JJ)Z"⟩ : Cond) ∈ lwG := List.mem_filter.mpr ⟨List.mem_of_getElem? (i := 17) (by decide +kernel), by decide +kernel⟩
theorem wd_18 : (.selects "EmissionRows" ⟨"EmissionRows", "firstFrozen", "()LEmissionRows$Code;"⟩ ⟨"EmissionRows", "firstFrozen", "()LEmissionRows$Code;"⟩ : Cond) ∈ lwG := List.mem_filter.mpr ⟨List.mem_of_getElem? (i := 18) (by decide +kernel), by decide +kernel⟩
theorem wd_19 : (.selects "EmissionRows$Code" ⟨"EmissionRows$Code", "hasFrozenRow", "()Z"⟩ ⟨"EmissionRows$Code", "hasFrozenRow", "()Z"⟩ : Cond) ∈ lwG := List.mem_filter.mpr ⟨List.mem_of_getElem? (i := 19) (by decide +kernel), by decide +kernel⟩
theorem wd_20 : (.selects "EmissionRows$Octets" ⟨"EmissionRows$Octets", "drop", "()V"⟩ ⟨"EmissionRows$Octets", "drop", "()V"⟩ : Cond) ∈ lwG := List.mem_filter.mpr ⟨List.mem_of_getElem? (i := 20) (by decide +kernel), by decide +kernel⟩
theorem wd_21 : (.selects "EmissionRows" ⟨"EmissionRows", "tellNow", "(I)V"⟩ ⟨"EmissionRows", "tellNow", "(I)V"⟩ : Cond) ∈ lwG := List.mem_filter.mpr ⟨List.mem_of_getElem? (i := 21) (by decide +kernel), by decide +kernel⟩
theorem wd_22 : (.selects "EmissionRows$Octets" ⟨"EmissionRows$Octets", "begin", "(I)V"⟩ ⟨"EmissionRows$Octets", "begin", "(I)V"⟩ : Cond) ∈ lwG := List.mem_filter.mpr ⟨List.mem_of_getElem? (i := 22) (by decide +kernel), by decide +kernel⟩
theorem wd_23 : (.selects "EmissionRows$Octets" ⟨"EmissionRows$Octets", "add", "(I)V"⟩ ⟨"EmissionRows$Octets", "add", "(I)V"⟩ : Cond) ∈ lwG := List.mem_filter.mpr ⟨List.mem_of_getElem? (i := 23) (by decide +kernel), by decide +kernel⟩
theorem wd_24 : (.selects "EmissionRows" ⟨"EmissionRows", "kindsNotReady", "()I"⟩ ⟨"EmissionRows", "kindsNotReady", "()I"⟩ : Cond) ∈ lwG := List.mem_filter.mpr ⟨List.mem_of_getElem? (i := 24) (by decide +kernel), by decide +kernel⟩
theorem wd_25 : (.selects "EmissionRows$Octets" ⟨"EmissionRows$Octets", "addTwo", "(I)V"⟩ ⟨"EmissionRows$Octets", "addTwo", "(I)V"⟩ : Cond) ∈ lwG := List.mem_filter.mpr ⟨List.mem_of_getElem? (i := 25) (by decide +kernel), by decide +kernel⟩
theorem wd_26 : (.selects "EmissionRows" ⟨"EmissionRows", "tellFrozen", "(I)V"⟩ ⟨"EmissionRows", "tellFrozen", "(I)V"⟩ : Cond) ∈ lwG := List.mem_filter.mpr ⟨List.mem_of_getElem? (i := 26) (by decide +kernel), by decide +kernel⟩
theorem wd_27 : (.selects "EmissionRows" ⟨"EmissionRows", "tellCounts", "(I)V"⟩ ⟨"EmissionRows", "tellCounts", "(I)V"⟩ : Cond) ∈ lwG := List.mem_filter.mpr ⟨List.mem_of_getElem? (i := 27) (by decide +kernel), by decide +kernel⟩
theorem wd_28 : (.selects "EmissionRows" ⟨"EmissionRows", "tellCodes", "(I)V"⟩ ⟨"EmissionRows", "tellCodes", "(I)V"⟩ : Cond) ∈ lwG := List.mem_filter.mpr ⟨List.mem_of_getElem? (i := 28) (by decide +kernel), by decide +kernel⟩
theorem wd_29 : (.selects "EmissionRows$Code" ⟨"EmissionRows$Code", "isToldIn", "(I)Z"⟩ ⟨"EmissionRows$Code", "isToldIn", "(I)Z"⟩ : Cond) ∈ lwG := List.mem_filter.mpr ⟨List.mem_of_getElem? (i := 29) (by decide +kernel), by decide +kernel⟩
theorem wd_30 : (.selects "EmissionRows$Octets" ⟨"EmissionRows$Octets", "total", "()I"⟩ ⟨"EmissionRows$Octets", "total", "()I"⟩ : Cond) ∈ lwG := List.mem_filter.mpr ⟨List.mem_of_getElem? (i := 30) (by decide +kernel), by decide +kernel⟩
theorem wd_31 : (.selects "java/lang/Throwable" ⟨"java/lang/Throwable", "fillInStackTrace", "(I)Ljava/lang/Throwable;"⟩ ⟨"java/lang/Throwable", "fillInStackTrace", "(I)Ljava/lang/Throwable;"⟩ : Cond) ∈ lwG := List.mem_filter.mpr ⟨List.mem_of_getElem? (i := 31) (by decide +kernel), by decide +kernel⟩
theorem wd_32 : (.selects "EmissionRows$Octets" ⟨"EmissionRows$Octets", "has", "(I)Z"⟩ ⟨"EmissionRows$Octets", "has", "(I)Z"⟩ : Cond) ∈ lwG := List.mem_filter.mpr ⟨List.mem_of_getElem? (i := 32) (by decide +kernel), by decide +kernel⟩
theorem wd_33 : (.selects "EmissionRowsModel" ⟨"EmissionRowsModel", "hasChance", "(II)Z"⟩ ⟨"EmissionRowsModel", "hasChance", "(II)Z"⟩ : Cond) ∈ lwG := List.mem_filter.mpr ⟨List.mem_of_getElem? (i := 33) (by decide +kernel), by decide +kernel⟩
theorem wd_34 : (.selects "EmissionRowsModel" ⟨"EmissionRowsModel", "count", "(IZ)V"⟩ ⟨"EmissionRowsModel", "count", "(IZ)V"⟩ : Cond) ∈ lwG := List.mem_filter.mpr ⟨List.mem_of_getElem? (i := 34) (by decide +kernel), by decide +kernel⟩
theorem wd_35 : (.selects "EmissionRowsModel" ⟨"EmissionRowsModel", "endOn", "(II)V"⟩ ⟨"EmissionRowsModel", "endOn", "(II)V"⟩ : Cond) ∈ lwG := List.mem_filter.mpr ⟨List.mem_of_getElem? (i := 35) (by decide +kernel), by decide +kernel⟩
theorem wd_36 : (.selects "EmissionRowsModel" ⟨"EmissionRowsModel", "endOff", "(II)V"⟩ ⟨"EmissionRowsModel", "endOff", "(II)V"⟩ : Cond) ∈ lwG := List.mem_filter.mpr ⟨List.mem_of_getElem? (i := 36) (by decide +kernel), by decide +kernel⟩
theorem wd_37 : (.selects "EmissionRowsModel" ⟨"EmissionRowsModel", "confirmedCodes", "()I"⟩ ⟨"EmissionRowsModel", "confirmedCodes", "()I"⟩ : Cond) ∈ lwG := List.mem_filter.mpr ⟨List.mem_of_getElem? (i := 37) (by decide +kernel), by decide +kernel⟩
theorem wd_38 : (.selects "EmissionRowsModel" ⟨"EmissionRowsModel", "firstFrozen", "()I"⟩ ⟨"EmissionRowsModel", "firstFrozen", "()I"⟩ : Cond) ∈ lwG := List.mem_filter.mpr ⟨List.mem_of_getElem? (i := 38) (by decide +kernel), by decide +kernel⟩
theorem wd_39 : (.selects "EmissionRowsModel" ⟨"EmissionRowsModel", "tellState", "()V"⟩ ⟨"EmissionRowsModel", "tellState", "()V"⟩ : Cond) ∈ lwG := List.mem_filter.mpr ⟨List.mem_of_getElem? (i := 39) (by decide +kernel), by decide +kernel⟩
theorem wd_40 : (.selects "EmissionRowsModel" ⟨"EmissionRowsModel", "put", "(I)V"⟩ ⟨"EmissionRowsModel", "put", "(I)V"⟩ : Cond) ∈ lwG := List.mem_filter.mpr ⟨List.mem_of_getElem? (i := 40) (by decide +kernel), by decide +kernel⟩
theorem wd_41 : (.selects "EmissionRowsModel" ⟨"EmissionRowsModel", "putTwo", "(I)V"⟩ ⟨"EmissionRowsModel", "putTwo", "(I)V"⟩ : Cond) ∈ lwG := List.mem_filter.mpr ⟨List.mem_of_getElem? (i := 41) (by decide +kernel), by decide +kernel⟩
theorem wd_42 : (.selects "EmissionRowsModel" ⟨"EmissionRowsModel", "tellFrozen", "(I)V"⟩ ⟨"EmissionRowsModel", "tellFrozen", "(I)V"⟩ : Cond) ∈ lwG := List.mem_filter.mpr ⟨List.mem_of_getElem? (i := 42) (by decide +kernel), by decide +kernel⟩
theorem wd_43 : (.selects "EmissionRowsModel" ⟨"EmissionRowsModel", "tellCodes", "(I)V"⟩ ⟨"EmissionRowsModel", "tellCodes", "(I)V"⟩ : Cond) ∈ lwG := List.mem_filter.mpr ⟨List.mem_of_getElem? (i := 43) (by decide +kernel), by decide +kernel⟩
end
section
/-! worlds, calls, loops: general rows of my own -/
section BX
/-- part of a world, by membership -/
theorem bx_sub {D : va_G} {cl : List vw_C} {ws ws' : va_W} {H : Heap} (h : va_P D cl ws H) (hm : ∀ q ∈ ws', q ∈ ws) : va_P D cl ws' H := by
  intro k q hk
  obtain ⟨i, hi⟩ := List.getElem?_of_mem (hm q (List.mem_of_getElem? hk))
  exact h i q hi
theorem bx_one {D : va_G} {cl : List vw_C} {ws : va_W} {H : Heap} {k : Nat} {q : Nat × va_E} (h : va_P D cl ws H) (hk : ws[k]? = some q) : va_P D cl [q] H :=
  bx_sub h (fun z hz => by rw [List.mem_singleton.mp hz]; exact List.mem_of_getElem? hk)
theorem bx_d1 {A : Nat → Prop} {q : Nat × va_E} (h : A q.1) : va_D A [q] := by
  refine ⟨fun i j x y hi hj _ => ?_, fun k x hk => ?_⟩
  · have h1 : i < 1 := (List.getElem?_eq_some_iff.mp hi).1
    have h2 : j < 1 := (List.getElem?_eq_some_iff.mp hj).1
    omega
  · rw [List.mem_singleton.mp (List.mem_of_getElem? hk)]
    exact h
/-- one cell of a world, at place k, was changed by a call -/
theorem bx_put {D : va_G} {cl : List vw_C} {A0 : Nat → Prop} {ws : va_W} {H H1 : Heap} {k a : Nat} {e e' : va_E} (hP : va_P D cl ws H) (hD : va_D A0 ws) (hk : ws[k]? = some (a, e))
    (hkeep : ∀ q : Nat, q < H.size → ¬ va_A [(a, e)] H.size q → H1[q]? = H[q]?) (hP1 : va_P D cl [(a, e')] H1) : va_P D cl (ws.set k (a, e')) H1 ∧ va_D A0 (ws.set k (a, e')) := by
  have hl := (List.getElem?_eq_some_iff.mp hk).1
  refine ⟨fun i q hi => ?_, hD.set hk⟩
  by_cases hik : i = k
  · subst hik
    rw [List.getElem?_set_self hl] at hi
    cases hi
    exact hP1 0 _ rfl
  · rw [List.getElem?_set_ne (Ne.symm hik)] at hi
    have hlt := (hP i q hi).lt
    refine (hP i q hi).kept (hkeep q.1 hlt ?_)
    rintro (⟨j, e9, hj⟩ | h9)
    · have hm := List.mem_singleton.mp (List.mem_of_getElem? hj)
      have ha : q.1 = a := congrArg Prod.fst hm
      exact hik (hD.1 i k q (a, e) hi hk ha)
    · omega
/-- some places of a world take new cells -/
def bx_sets (ws : va_W) (ks : List Nat) (w : va_W) : va_W := (ks.zip w).foldl (fun z q => z.set q.1 q.2) ws
theorem bx_sets_at : ∀ (ks : List Nat) (w ws : va_W), va_nd ks = true → ks.length = w.length → ∀ (i : Nat) (q : Nat × va_E), (bx_sets ws ks w)[i]? = some q → (∃ j : Nat, ks[j]? = some i ∧ w[j]? = some q) ∨ (i ∉ ks ∧ ws[i]? = some q)
  | [], w, ws, _, _, i, q, h => Or.inr ⟨List.not_mem_nil, h⟩
  | k :: ks, [], ws, _, hl, i, q, h => by simp at hl
  | k :: ks, z :: w, ws, hn, hl, i, q, h => by
    simp only [va_nd, Bool.and_eq_true, decide_eq_true_eq] at hn
    have hl' : ks.length = w.length := by simpa using hl
    rcases bx_sets_at ks w (ws.set k z) hn.2 hl' i q h with ⟨j, h1, h2⟩ | ⟨h1, h2⟩
    · exact Or.inl ⟨j + 1, by simpa using h1, by simpa using h2⟩
    · by_cases hik : i = k
      · subst hik
        rw [List.getElem?_set] at h2
        simp only [if_true] at h2
        split at h2
        · cases h2
          exact Or.inl ⟨0, rfl, rfl⟩
        · cases h2
      · rw [List.getElem?_set_ne (Ne.symm hik)] at h2
        exact Or.inr ⟨by simp [hik, h1], h2⟩
theorem bx_sets_D {A : Nat → Prop} : ∀ (ks : List Nat) (wc w ws : va_W), va_nd ks = true → ks.map (fun i => ws[i]?) = wc.map some → w.map (·.1) = wc.map (·.1) → va_D A ws → va_D A (bx_sets ws ks w)
  | [], wc, w, ws, _, _, _, hD => hD
  | k :: ks, [], w, ws, _, hc, _, hD => by simp at hc
  | k :: ks, z :: wc, [], ws, _, _, ha, hD => by simp at ha
  | k :: ks, z :: wc, y :: w, ws, hn, hc, ha, hD => by
    simp only [va_nd, Bool.and_eq_true, decide_eq_true_eq] at hn
    simp only [List.map_cons, List.cons.injEq] at hc ha
    obtain ⟨y1, y2⟩ := y
    obtain ⟨z1, z2⟩ := z
    have hyz : y1 = z1 := ha.1
    subst hyz
    refine bx_sets_D ks wc w (ws.set k (y1, y2)) hn.2 ?_ ha.2 (hD.set hc.1)
    rw [← hc.2]
    apply List.map_congr_left
    intro i hi
    have hki : k ≠ i := fun q => hn.1 (by rw [q]; exact hi)
    exact List.getElem?_set_ne hki
theorem bx_puts {D : va_G} {cl : List vw_C} {A0 : Nat → Prop} {ws wc w1 : va_W} {H H1 : Heap} (hP : va_P D cl ws H) (hD : va_D A0 ws) (ks : List Nat) (hn : va_nd ks = true) (hc : ks.map (fun i => ws[i]?) = wc.map some) (ha : w1.map (·.1) = wc.map (·.1))
    (hkeep : ∀ q : Nat, q < H.size → ¬ va_A wc H.size q → H1[q]? = H[q]?) (hP1 : va_P D cl w1 H1) : va_P D cl (bx_sets ws ks w1) H1 ∧ va_D A0 (bx_sets ws ks w1) := by
  have hlen : ks.length = w1.length := by
    have h1 := congrArg List.length hc
    have h2 := congrArg List.length ha
    simp at h1 h2
    omega
  refine ⟨fun i q hi => ?_, bx_sets_D ks wc w1 ws hn hc ha hD⟩
  rcases bx_sets_at ks w1 ws hn hlen i q hi with ⟨j, h1, h2⟩ | ⟨h1, h2⟩
  · exact hP1 j q h2
  · have hlt := (hP i q h2).lt
    refine (hP i q h2).kept (hkeep q.1 hlt ?_)
    rintro (⟨j, e9, hj⟩ | h9)
    · obtain ⟨i2, h3, h4⟩ := va_in_of ks hc hj
      have he := hD.1 i i2 q (q.1, e9) h2 h4 rfl
      subst he
      exact h1 (List.mem_of_getElem? h3)
    · omega
/-- apart: no address twice, all of a kind -/
theorem bx_D_iff {A : Nat → Prop} {ws : va_W} : va_D A ws ↔ (ws.map (·.1)).Nodup ∧ ∀ q ∈ ws, A q.1 := by
  constructor
  · intro h
    refine ⟨?_, fun q hq => ?_⟩
    · unfold List.Nodup
      rw [List.pairwise_iff_getElem]
      intro i j hi hj hij he
      have hj' : j < ws.length := by simpa using hj
      have hi' : i < ws.length := by simpa using hi
      rw [List.getElem_map, List.getElem_map] at he
      have := h.1 i j _ _ (List.getElem?_eq_getElem hi') (List.getElem?_eq_getElem hj') he
      omega
    · obtain ⟨k, hk⟩ := List.getElem?_of_mem hq
      exact h.2 k q hk
  · rintro ⟨h1, h2⟩
    refine ⟨fun i j x y hi hj hxy => ?_, fun k q hk => h2 q (List.mem_of_getElem? hk)⟩
    obtain ⟨li, ei⟩ := List.getElem?_eq_some_iff.mp hi
    obtain ⟨lj, ej⟩ := List.getElem?_eq_some_iff.mp hj
    unfold List.Nodup at h1
    rw [List.pairwise_iff_getElem] at h1
    rcases Nat.lt_trichotomy i j with h | h | h
    · refine absurd ?_ (h1 i j (by simpa using li) (by simpa using lj) h)
      rw [List.getElem_map, List.getElem_map, ei, ej]
      exact hxy
    · exact h
    · refine absurd ?_ (h1 j i (by simpa using lj) (by simpa using li) h)
      rw [List.getElem_map, List.getElem_map, ei, ej]
      exact hxy.symm
theorem bx_D_perm {A : Nat → Prop} {ws ws' : va_W} (h : va_D A ws) (hp : ws'.Perm ws) : va_D A ws' := by
  rw [bx_D_iff] at h ⊢
  exact ⟨((hp.map (·.1)).nodup_iff).mpr h.1, fun q hq => h.2 q (hp.mem_iff.mp hq)⟩
theorem bx_P_perm {D : va_G} {cl : List vw_C} {ws ws' : va_W} {H : Heap} (h : va_P D cl ws H) (hp : ws'.Perm ws) : va_P D cl ws' H := bx_sub h (fun _ hq => hp.mem_iff.mp hq)
/-- rows of objects: n cells at the addresses a 0, a 1 .. -/
def bx_pl (n : Nat) (a : Nat → Nat) (f : Nat → va_E) : va_W := (List.range n).map (fun i => (a i, f i))
theorem bx_pl_get {n i : Nat} {a : Nat → Nat} {f : Nat → va_E} (h : i < n) : (bx_pl n a f)[i]? = some (a i, f i) := by
  simp [bx_pl, h]
theorem bx_pl_len {n : Nat} {a : Nat → Nat} {f : Nat → va_E} : (bx_pl n a f).length = n := by simp [bx_pl]
theorem bx_pl_set {n i : Nat} {a : Nat → Nat} {f : Nat → va_E} {e : va_E} : (bx_pl n a f).set i (a i, e) = bx_pl n a (va_up f i e) := by
  apply List.ext_getElem?
  intro j
  by_cases hj : j < n
  · by_cases hij : i = j
    · subst hij
      rw [List.getElem?_set_self (by rw [bx_pl_len]; exact hj), bx_pl_get hj, va_up_self]
    · rw [List.getElem?_set_ne hij, bx_pl_get hj, bx_pl_get hj, va_up_ne _ _ (Ne.symm hij)]
  · rw [List.getElem?_eq_none (by rw [List.length_set, bx_pl_len]; omega), List.getElem?_eq_none (by rw [bx_pl_len]; omega)]
theorem bx_pl_succ {n : Nat} {a : Nat → Nat} {f : Nat → va_E} : bx_pl (n + 1) a f = bx_pl n a f ++ [(a n, f n)] := by simp [bx_pl, List.range_succ]
theorem bx_pl_congr {n : Nat} {a a' : Nat → Nat} {f f' : Nat → va_E} (h : ∀ i, i < n → a i = a' i ∧ f i = f' i) : bx_pl n a f = bx_pl n a' f' := by
  apply List.map_congr_left
  intro i hi
  have := h i (List.mem_range.mp hi)
  rw [this.1, this.2]
theorem bx_at_r {α : Type} {X Y : List α} {k : Nat} {q : α} (h : Y[k]? = some q) : (X ++ Y)[X.length + k]? = some q := by
  rw [List.getElem?_append_right (by omega), Nat.add_sub_cancel_left]
  exact h
theorem bx_set_r {α : Type} {X Y : List α} {k : Nat} {q : α} : (X ++ Y).set (X.length + k) q = X ++ Y.set k q := by
  rw [List.set_append, if_neg (by omega), Nat.add_sub_cancel_left]
theorem bx_at_l {α : Type} {X Y : List α} {k : Nat} {q : α} (h : X[k]? = some q) : (X ++ Y)[k]? = some q := by
  rw [List.getElem?_append_left (List.getElem?_eq_some_iff.mp h).1]
  exact h
theorem bx_up2 {α : Type} (f : Nat → α) (g : α → α) (k : Nat) : va_up (fun i => if i < k then g (f i) else f i) k (g (f k)) = fun i => if i < k + 1 then g (f i) else f i := by
  funext i
  unfold va_up
  by_cases h1 : i = k
  · subst h1
    simp
  · by_cases h2 : i < k
    · simp [h1, h2, Nat.lt_succ_of_lt h2]
    · simp [h1, h2, show ¬ i < k + 1 by omega]
/-- 0 or 1 -/
def bz (v : Int32) : Prop := v = 0 ∨ v = 1
theorem bz.n {v : Int32} (h : bz v) : narrow .boolean (.int v) = .int v := by rcases h with rfl | rfl <;> rfl
theorem bz.f {v : Int32} (h : bz v) : fits .boolean (.int v) = true := by rcases h with rfl | rfl <;> rfl
theorem bz0 : bz 0 := Or.inl rfl
theorem bz1 : bz 1 := Or.inr rfl
theorem bz_if {c : Prop} [Decidable c] {a b : Int32} (ha : bz a) (hb : bz b) : bz (if c then a else b) := by split <;> assumption
end BX
section BL
variable {p : Program} {l : Launch} {e : Env} {R : Room} {s : State} {m : MethodId} {args : Array Value} {below : List Frame} {meth : Method} {c : Code} {H : Heap} {locs : List Loc} {cells slots : Nat} {Q : State → Prop}
/-- several roads meet: the rest is walked once -/
theorem bx_join {σ : Type} {P : σ → Prop} {g0 : JFrame} (g : σ → JFrame) (kj : ∀ v, P v → W p l e R s m args below meth c H locs cells slots Q (g v)) (kk : (∀ v, P v → W p l e R s m args below meth c H locs cells slots Q (g v)) → W p l e R s m args below meth c H locs cells slots Q g0) : W p l e R s m args below meth c H locs cells slots Q g0 := kk kj
/-- a loop in which the heap may change -/
theorem bx_loop {σ : Type} (I : σ → Heap → List Loc → Array Slot → Prop) (μ : σ → Nat) (pc : Nat)
    (hs : ∀ (a : σ) (H : Heap) (locs : List Loc) (ls : Array Slot), I a H locs ls → (∀ (b : σ) (H' : Heap) (locs' : List Loc) (ls' : Array Slot), I b H' locs' ls' → μ b < μ a → W p l e R s m args below meth c H' locs' cells slots Q (F0 m pc ls' [])) → W p l e R s m args below meth c H locs cells slots Q (F0 m pc ls []))
    (a : σ) (ls : Array Slot) (h : I a H locs ls) : W p l e R s m args below meth c H locs cells slots Q (F0 m pc ls []) := by
  suffices h9 : ∀ (n : Nat) (a : σ) (H : Heap) (locs : List Loc) (ls : Array Slot), μ a < n → I a H locs ls → W p l e R s m args below meth c H locs cells slots Q (F0 m pc ls []) from h9 (μ a + 1) a H locs ls (Nat.lt_succ_self _) h
  intro n
  induction n with
  | zero => intro a H locs ls h1; exact absurd h1 (Nat.not_lt_zero _)
  | succ n ih =>
    intro a H locs ls h1 h2
    exact hs a H locs ls h2 (fun b H' locs' ls' h3 h4 => ih b H' locs' ls' (by omega) h3)
/-- a loop that writes nothing -/
theorem bx_loopR {σ : Type} (I : σ → Array Slot → Prop) (μ : σ → Nat) (pc : Nat)
    (hs : ∀ (a : σ) (ls : Array Slot), I a ls → (∀ (b : σ) (ls' : Array Slot), I b ls' → μ b < μ a → W p l e R s m args below meth c H locs cells slots Q (F0 m pc ls' [])) → W p l e R s m args below meth c H locs cells slots Q (F0 m pc ls []))
    (a : σ) (ls : Array Slot) (h : I a ls) : W p l e R s m args below meth c H locs cells slots Q (F0 m pc ls []) := by
  suffices h9 : ∀ (n : Nat) (a : σ) (ls : Array Slot), μ a < n → I a ls → W p l e R s m args below meth c H locs cells slots Q (F0 m pc ls []) from h9 (μ a + 1) a ls (Nat.lt_succ_self _) h
  intro n
  induction n with
  | zero => intro a ls h1; exact absurd h1 (Nat.not_lt_zero _)
  | succ n ih =>
    intro a ls h1 h2
    exact hs a ls h2 (fun b ls' h3 h4 => ih b ls' (by omega) h3)
variable {pc : Nat} {ls : Array Slot} {rest st0 : List Value} {a : Array Value} {A0 : Nat → Prop} {H0 : Heap} {mc ms : Nat}
/-- a call that writes nothing and answers r -/
theorem bx_callV {r : Value} (hr : CallRun p l e R s m args below meth c H locs cells slots 0 0 (F0 m pc ls st0) rest (k2_QcV r a) (fun _ => False)) (kk : W p l e R s m args below meth c H locs cells slots Q (F0 m (pc + 3) ls (r :: rest))) : W p l e R s m args below meth c H locs cells slots Q (F0 m pc ls st0) := W.callV hr kk
end BL
end
section
/-! what every contract of mine begins and ends with -/
section BG
/-- the numbers of the objects' kinds and their slots; the numbers of the arrays' kinds -/
abbrev GG : Type := va_G × (Nat → ClassId)
def nwOk : Cond → Bool
  | .fieldLinkNest .. => true
  | .methodLinkNest .. => true
  | .castable .. => true
  | _ => false
theorem nwL_ok : nwL.all nwOk = true := by decide +kernel
def GK (G : GG) (U : State) : Prop := va_K G.1 vwCl (gT G) U ∧ ∀ w ∈ nwL, va_Nw w U
theorem GK.moved {G : GG} {s U : State} (hW : s.WarmedH U.vm) (h : GK G s) : GK G U := by
  refine ⟨va_K.moved hW.alike h.1, fun w hw => ?_⟩
  have h1 := List.all_eq_true.mp nwL_ok w hw
  have h2 := h.2 w hw
  cases w <;> first | (simp [nwOk] at h1; done) | exact va_Nw.warmF hW h2 | exact va_Nw.warmM hW h2 | exact va_Nw.warmC hW h2
theorem GK.same {G : GG} {u U : State} (e : u.vm = U.vm) (h : GK G u) : GK G U := by
  refine ⟨va_K.moved (by rw [e]; exact Vm.Alike.refl _) h.1, fun w hw => ?_⟩
  have h1 := List.all_eq_true.mp nwL_ok w hw
  have h2 := h.2 w hw
  cases w <;> first | (simp [nwOk] at h1; done) | exact va_Nw.same rfl e h2
/-- a start that reads alone -/
def Rw (G : GG) (w0 : va_W) : State → Prop := fun U => va_P G.1 vwCl w0 U.heap ∧ GK G U
/-- a start that writes -/
def Pw (G : GG) (sz : Nat) (w0 : va_W) : State → Prop := fun U => U.heap.size = sz ∧ va_P G.1 vwCl w0 U.heap ∧ GK G U ∧ va_D (fun _ => True) w0
/-- an end: the answer, the world -/
def QW (G : GG) (v : Option Value) (w0 w1 : va_W) (sz : Nat) : Array Value → State → Outcome → State → Prop := fun _ st o t => (o = .returned v ∧ va_P G.1 vwCl w1 t.heap ∧ va_D (va_A w0 sz) w1) ∧ va_F (va_A w0 sz) st t
theorem Rw.blind {G : GG} {w0 : va_W} {av : List Value} : FrameBlind (va_Pc av (Rw G w0)) := fun a U g mk q => ⟨q.1, q.2.1, GK.same (u := U) (U := U.calling g mk a) rfl q.2.2⟩
theorem Pw.blind {G : GG} {sz : Nat} {w0 : va_W} {av : List Value} : FrameBlind (va_Pc av (Pw G sz w0)) := fun a U g mk q => ⟨q.1, q.2.1, q.2.2.1, GK.same (u := U) (U := U.calling g mk a) rfl q.2.2.2.1, q.2.2.2.2⟩
theorem pvR {G : GG} {s : State} {H : Heap} {w0 : va_W} {b : Nat} {As : List Value} {C : String} (hP : va_P G.1 vwCl w0 H) (hG : GK G s) (hr : ∃ cell : Cell, H[b]? = some cell ∧ cell.vm.isStatics = false ∧ s.vm.findClass C = some cell.cls) : PreV s H C b (va_Pc (.ref b :: As) (Rw G w0)) As :=
  ⟨Rw.blind, hr, fun U hU hW => ⟨rfl, by rw [hU]; exact hP, GK.moved hW hG⟩⟩
theorem psR {G : GG} {s : State} {H : Heap} {w0 : va_W} {As : List Value} (hP : va_P G.1 vwCl w0 H) (hG : GK G s) : PreS s H (va_Pc As (Rw G w0)) As :=
  ⟨Rw.blind, fun U hU hW => ⟨rfl, by rw [hU]; exact hP, GK.moved hW hG⟩⟩
theorem pvW {G : GG} {s : State} {H : Heap} {w0 : va_W} {A : Nat → Prop} {b : Nat} {As : List Value} {C : String} (hP : va_P G.1 vwCl w0 H) (hG : GK G s) (hD : va_D A w0) (hr : ∃ cell : Cell, H[b]? = some cell ∧ cell.vm.isStatics = false ∧ s.vm.findClass C = some cell.cls) : PreV s H C b (va_Pc (.ref b :: As) (Pw G H.size w0)) As :=
  ⟨Pw.blind, hr, fun U hU hW => ⟨rfl, by rw [hU], by rw [hU]; exact hP, GK.moved hW hG, hD.weaken (fun _ _ _ _ => trivial)⟩⟩
theorem psW {G : GG} {s : State} {H : Heap} {w0 : va_W} {A : Nat → Prop} {As : List Value} (hP : va_P G.1 vwCl w0 H) (hG : GK G s) (hD : va_D A w0) : PreS s H (va_Pc As (Pw G H.size w0)) As :=
  ⟨Pw.blind, fun U hU hW => ⟨rfl, by rw [hU], by rw [hU]; exact hP, GK.moved hW hG, hD.weaken (fun _ _ _ _ => trivial)⟩⟩
theorem bx_nil {D : va_G} {cl : List vw_C} {H : Heap} : va_P D cl [] H := fun k q h => by simp at h
end BG
section BC
variable {p : Program} {l : Launch} {e : Env} {R : Room} {s : State} {m : MethodId} {args : Array Value} {below : List Frame} {meth : Method} {c : Code} {H : Heap} {locs : List Loc} {cells slots : Nat} {Q : State → Prop}
variable {pc : Nat} {ls : Array Slot} {rest st0 : List Value} {a : Array Value} {A0 : Nat → Prop} {H0 : Heap} {G : GG} {ws w0 w1 : va_W}
theorem bx_freeK (hD : va_D A0 ws) (hS : va_S A0 H0 H locs) (hA : ∀ q, H0.size ≤ q → A0 q) (ks : List Nat) (hc : ks.map (fun i => ws[i]?) = w0.map some) : ∀ q, va_A w0 H.size q → A0 q := va_free hD hS hA ks hc
theorem bx_callG {v : Option Value} (hr : va_Run p l e R s m args below meth c H locs cells slots 0 0 (F0 m pc ls st0) rest (QW G v w0 w1 H.size a) (va_A w0 H.size)) (hS : va_S A0 H0 H locs) (hF : ∀ q, va_A w0 H.size q → A0 q)
    (kk : ∀ (H1 : Heap) (locs1 : List Loc), va_P G.1 vwCl w1 H1 → va_D (va_A w0 H.size) w1 → (∀ q : Nat, q < H.size → ¬ va_A w0 H.size q → H1[q]? = H[q]?) → va_S A0 H0 H1 locs1 → W p l e R s m args below meth c H1 locs1 cells slots Q (F0 m (pc + 3) ls (v.toList ++ rest))) : W p l e R s m args below meth c H locs cells slots Q (F0 m pc ls st0) := by
  intro T hT X
  obtain ⟨v', st₀, t, T', L, h0, X', hL, e1, -, ⟨⟨hv, hP1, hD1⟩, hz, hk⟩, st⟩ := hr T hT X
  cases hv
  rw [h0] at hz hk
  rw [← e1] at hz hk hP1
  obtain ⟨t2, a1, b1⟩ := kk T'.heap (locs ++ L) hP1 hD1 hk
    ⟨Nat.le_trans hS.1 hz, fun q h1 h2 => by rw [hk q (Nat.lt_of_lt_of_le h1 hS.1) (fun z => h2 (hF q z))]; exact hS.2.1 q h1 h2, fun q hq => by
      rcases List.mem_append.mp hq with h | h
      · exact hS.2.2 q h
      · exact hF _ (hL q h)⟩ T' rfl X'
  exact ⟨t2, st t2 a1, b1⟩
/-- a call that has some places of the world, and answers nothing -/
theorem bx_callKv (ks : List Nat) (hr : va_Run p l e R s m args below meth c H locs cells slots 0 0 (F0 m pc ls st0) rest (QW G none w0 w1 H.size a) (va_A w0 H.size)) (hP : va_P G.1 vwCl ws H) (hD : va_D A0 ws) (hS : va_S A0 H0 H locs) (hA : ∀ q, H0.size ≤ q → A0 q) (hn : va_nd ks = true) (hc : ks.map (fun i => ws[i]?) = w0.map some) (ha : w1.map (·.1) = w0.map (·.1))
    (kk : ∀ (H1 : Heap) (locs1 : List Loc), va_P G.1 vwCl (bx_sets ws ks w1) H1 → va_D A0 (bx_sets ws ks w1) → va_S A0 H0 H1 locs1 → W p l e R s m args below meth c H1 locs1 cells slots Q (F0 m (pc + 3) ls rest)) : W p l e R s m args below meth c H locs cells slots Q (F0 m pc ls st0) := by
  refine bx_callG hr hS (va_free hD hS hA ks hc) fun H1 locs1 hP1 hD1 hk hS1 => ?_
  obtain ⟨g1, g2⟩ := bx_puts hP hD ks hn hc ha hk hP1
  exact kk H1 locs1 g1 g2 hS1
/-- .. and answers r -/
theorem bx_callKr {r : Value} (ks : List Nat) (hr : va_Run p l e R s m args below meth c H locs cells slots 0 0 (F0 m pc ls st0) rest (QW G (some r) w0 w1 H.size a) (va_A w0 H.size)) (hP : va_P G.1 vwCl ws H) (hD : va_D A0 ws) (hS : va_S A0 H0 H locs) (hA : ∀ q, H0.size ≤ q → A0 q) (hn : va_nd ks = true) (hc : ks.map (fun i => ws[i]?) = w0.map some) (ha : w1.map (·.1) = w0.map (·.1))
    (kk : ∀ (H1 : Heap) (locs1 : List Loc), va_P G.1 vwCl (bx_sets ws ks w1) H1 → va_D A0 (bx_sets ws ks w1) → va_S A0 H0 H1 locs1 → W p l e R s m args below meth c H1 locs1 cells slots Q (F0 m (pc + 3) ls (r :: rest))) : W p l e R s m args below meth c H locs cells slots Q (F0 m pc ls st0) := by
  refine bx_callG hr hS (va_free hD hS hA ks hc) fun H1 locs1 hP1 hD1 hk hS1 => ?_
  obtain ⟨g1, g2⟩ := bx_puts hP hD ks hn hc ha hk hP1
  exact kk H1 locs1 g1 g2 hS1
theorem bx_freeF (hD : va_D A0 ws) (hS : va_S A0 H0 H locs) (hA : ∀ q, H0.size ≤ q → A0 q) : ∀ q, va_A ws H.size q → A0 q := by
  rintro q (⟨k, e9, h⟩ | h)
  · exact hD.2 k _ h
  · exact hA q (Nat.le_trans hS.1 h)
/-- a call that has the whole world -/
theorem bx_callFv (hr : va_Run p l e R s m args below meth c H locs cells slots 0 0 (F0 m pc ls st0) rest (QW G none ws w1 H.size a) (va_A ws H.size)) (hD : va_D A0 ws) (hS : va_S A0 H0 H locs) (hA : ∀ q, H0.size ≤ q → A0 q)
    (kk : ∀ (H1 : Heap) (locs1 : List Loc), va_P G.1 vwCl w1 H1 → va_D A0 w1 → va_S A0 H0 H1 locs1 → W p l e R s m args below meth c H1 locs1 cells slots Q (F0 m (pc + 3) ls rest)) : W p l e R s m args below meth c H locs cells slots Q (F0 m pc ls st0) :=
  bx_callG hr hS (bx_freeF hD hS hA) fun H1 locs1 hP1 hD1 _ hS1 => kk H1 locs1 hP1 (hD1.weaken (fun _ q _ h => bx_freeF hD hS hA q.1 h)) hS1
theorem bx_callFr {r : Value} (hr : va_Run p l e R s m args below meth c H locs cells slots 0 0 (F0 m pc ls st0) rest (QW G (some r) ws w1 H.size a) (va_A ws H.size)) (hD : va_D A0 ws) (hS : va_S A0 H0 H locs) (hA : ∀ q, H0.size ≤ q → A0 q)
    (kk : ∀ (H1 : Heap) (locs1 : List Loc), va_P G.1 vwCl w1 H1 → va_D A0 w1 → va_S A0 H0 H1 locs1 → W p l e R s m args below meth c H1 locs1 cells slots Q (F0 m (pc + 3) ls (r :: rest))) : W p l e R s m args below meth c H locs cells slots Q (F0 m pc ls st0) :=
  bx_callG hr hS (bx_freeF hD hS hA) fun H1 locs1 hP1 hD1 _ hS1 => kk H1 locs1 hP1 (hD1.weaken (fun _ q _ h => bx_freeF hD hS hA q.1 h)) hS1
end BC
end
section
/-! what the small methods answer and do, as functions of numbers -/
section SF
def bitF (a b : Int32) : Int32 := if (a >>> (b &&& 31)) &&& 1 = 1 then 1 else 0
theorem bitF_bz (a b : Int32) : bz (bitF a b) := bz_if bz1 bz0
-- a monitor: kind, condition, runs, chances, cycles held, tested
def ccR (ru ch tr : Int32) : Int32 := if tr = 0 then (if ch < 100 then ru else ru / 2) else (if ch < 100 then ru else ru / 2) + 1
def ccC (ch : Int32) : Int32 := (if ch < 100 then ch else ch / 2) + 1
def hcH (cd he cs : Int32) : Int32 := if bitF cs cd = 0 then he else he + 1
def hcR (kd cd he cs : Int32) : Int32 :=
  if kd = 1 then (if bitF cs cd = 0 then 0 else if bitF cs (cd + 1 - (cd + 1) / 8 * 8) = 0 then 0 else 1)
  else if kd = 2 then (if bitF cs cd = 0 then 0 else if (he + 1) - (he + 1) / 2 * 2 = 0 then 1 else 0)
  else if kd = 3 then (if bitF cs cd = 0 then 1 else 0) else bitF cs cd
theorem hcR_bz (kd cd he cs : Int32) : bz (hcR kd cd he cs) := by
  unfold hcR
  refine bz_if (bz_if bz0 (bz_if bz0 bz1)) (bz_if (bz_if bz0 (bz_if bz1 bz0)) (bz_if (bz_if bz1 bz0) (bitF_bz _ _)))
def ecR (kd cd ru ch he cs tr : Int32) : Int32 := if hcR kd cd he cs = 0 then ru else ccR ru ch tr
def ecC (kd cd ch he cs : Int32) : Int32 := if hcR kd cd he cs = 0 then ch else ccC ch
def ecT (te tr : Int32) : Int32 := if tr = 0 then te else 1
-- a code: number, on, pending, confirmed, lasting, off in a row, off with condition 0, frozen cycle, frozen conditions
def onP (pe co : Int32) : Int32 := if pe = 0 then (if co = 0 then 1 else 0) else 0
def onK (pe x : Int32) : Int32 := if pe = 0 then x else 1
def onF (pe co x y : Int32) : Int32 := if pe = 0 then (if co = 0 then y else x) else x
def ofG (pe ofr : Int32) : Int32 := if pe = 0 then (if ofr + 1 < 3 then 0 else 1) else 1
def ofZ (oz cs : Int32) : Int32 := if bitF cs 0 = 0 then oz else oz + 1
def ofK (pe ofr x : Int32) : Int32 := if ofG pe ofr = 0 then x else 0
def ofL (la oz cs : Int32) : Int32 := if ofZ oz cs < 3 then la else 0
def frF (fc : Int32) : Int32 := if fc = 0 then 0 else 1
def toldF (md pe co la : Int32) : Int32 := if md = 3 then co else if md = 7 then pe else if md = 10 then la else 0
-- the lamp: lit, metres, minutes
def foZ (b li : Int32) (x : Int64) : Int64 := if b = 0 then x else if li = 0 then 0 else x
def goM (li : Int32) (x y : Int64) : Int64 := if li = 0 then x else x + y
def kindF (k : Int32) : Int32 := if k < 0 then 0 else if 4 ≤ k then 0 else 1
theorem kindF_bz (k : Int32) : bz (kindF k) := bz_if bz0 (bz_if bz0 bz1)
def hasF (i n : Int32) : Int32 := if i < 0 then 0 else if n ≤ i then 0 else if 41 ≤ i then 0 else 1
end SF
end
section
/-! the system's world: six cells that stand, the lists' rows, the monitors, the codes -/
section BW
abbrev Mon : Type := Int32 × Int32 × Int32 × Int32 × Int32 × Int32
abbrev Cod : Type := Int32 × Int32 × Int32 × Int32 × Int32 × Int32 × Int32 × Int32 × Int32
def monL (m : Mon) : List Value := [.int m.1, .int m.2.1, .int m.2.2.1, .int m.2.2.2.1, .int m.2.2.2.2.1, .int m.2.2.2.2.2]
def codL (q : Cod) : List Value := [.int q.1, .int q.2.1, .int q.2.2.1, .int q.2.2.2.1, .int q.2.2.2.2.1, .int q.2.2.2.2.2.1, .int q.2.2.2.2.2.2.1, .int q.2.2.2.2.2.2.2.1, .int q.2.2.2.2.2.2.2.2]
def monE (m : Mon) : va_E := .inr (4, monL m)
def codE (q : Cod) : va_E := .inr (5, codL q)
def tlW (bM bC : va_W) (nM : Nat) (am : Nat → Nat) (mon : Nat → Mon) (nC : Nat) (ac : Nat → Nat) (cod : Nat → Cod) : va_W := bM ++ (bC ++ (bx_pl nM am (fun i => monE (mon i)) ++ bx_pl nC ac (fun i => codE (cod i))))
variable {X bM bC : va_W} {nM nC k : Nat} {am ac : Nat → Nat} {mon : Nat → Mon} {cod : Nat → Cod}
theorem tl_mon (h : k < nM) : (X ++ tlW bM bC nM am mon nC ac cod)[X.length + (bM.length + (bC.length + k))]? = some (am k, monE (mon k)) := bx_at_r (bx_at_r (bx_at_r (bx_at_l (bx_pl_get (f := fun i => monE (mon i)) h))))
theorem tl_cod (h : k < nC) : (X ++ tlW bM bC nM am mon nC ac cod)[X.length + (bM.length + (bC.length + (nM + k)))]? = some (ac k, codE (cod k)) := by
  refine bx_at_r (bx_at_r (bx_at_r ?_))
  have h1 := bx_at_r (X := bx_pl nM am (fun i => monE (mon i))) (bx_pl_get (a := ac) (f := fun i => codE (cod i)) h)
  rwa [bx_pl_len] at h1
theorem tl_mon_set {m : Mon} (h : k < nM) : (X ++ tlW bM bC nM am mon nC ac cod).set (X.length + (bM.length + (bC.length + k))) (am k, monE m) = X ++ tlW bM bC nM am (va_up mon k m) nC ac cod := by
  unfold tlW
  rw [bx_set_r, bx_set_r, bx_set_r, List.set_append, if_pos (by rw [bx_pl_len]; exact h), bx_pl_set]
  congr 5
  funext i
  unfold va_up
  split <;> rfl
theorem tl_cod_set {q : Cod} : (X ++ tlW bM bC nM am mon nC ac cod).set (X.length + (bM.length + (bC.length + (nM + k)))) (ac k, codE q) = X ++ tlW bM bC nM am mon nC ac (va_up cod k q) := by
  unfold tlW
  have h1 := bx_set_r (X := bx_pl nM am (fun i => monE (mon i))) (Y := bx_pl nC ac (fun i => codE (cod i))) (k := k) (q := (ac k, codE q))
  rw [bx_pl_len] at h1
  rw [bx_set_r, bx_set_r, bx_set_r, h1, bx_pl_set]
  congr 5
  funext i
  unfold va_up
  split <;> rfl
theorem tl_inM {q : Nat × va_E} (h : q ∈ bM) : q ∈ X ++ tlW bM bC nM am mon nC ac cod := List.mem_append_right _ (List.mem_append_left _ h)
theorem tl_inC {q : Nat × va_E} (h : q ∈ bC) : q ∈ X ++ tlW bM bC nM am mon nC ac cod := List.mem_append_right _ (List.mem_append_right _ (List.mem_append_left _ h))
/-- a list of n elements whose row is bk, at e; the elements lie at a 0, a 1 .. -/
def LB (G : GG) (bk : va_W) (e n : Nat) (a : Nat → Nat) : Prop := n ≤ 20 ∧ (n = 0 ∨ ∃ (cap : Nat) (f : Nat → Option Nat), bk = [(e, .inl (G.2 0, cap, .inr (.inr (.inr (.inr f)))))] ∧ n ≤ cap ∧ cap ≤ 22 ∧ ∀ i, i < n → f i = some (a i))
theorem LB.some {G : GG} {bk : va_W} {e n k : Nat} {a : Nat → Nat} (h : LB G bk e n a) (hk : k < n) : ∃ (cap : Nat) (f : Nat → Option Nat), bk = [(e, .inl (G.2 0, cap, .inr (.inr (.inr (.inr f)))))] ∧ n ≤ cap ∧ cap ≤ 22 ∧ ∀ i, i < n → f i = some (a i) := by
  rcases h.2 with h1 | h1
  · omega
  · exact h1
/-- the first k of a row have been changed -/
def upto {α : Type} (g : Nat → α → α) (f : Nat → α) (k : Nat) : Nat → α := fun i => if i < k then g i (f i) else f i
theorem upto_self {α : Type} (g : Nat → α → α) (f : Nat → α) (k : Nat) : upto g f k k = f k := by simp [upto]
theorem upto_zero {α : Type} (g : Nat → α → α) (f : Nat → α) : upto g f 0 = f := by funext i; simp [upto]
theorem upto_succ {α : Type} (g : Nat → α → α) (f : Nat → α) (k : Nat) : va_up (upto g f k) k (g k (f k)) = upto g f (k + 1) := by
  funext i
  unfold va_up upto
  by_cases h1 : i = k
  · subst h1
    simp
  · by_cases h2 : i < k
    · simp [h1, h2, Nat.lt_succ_of_lt h2]
    · simp [h1, h2, show ¬ i < k + 1 by omega]
end BW
/-! what the system's methods answer and do, as functions of its state -/
section EF
abbrev OB : Type := Int32 × (Nat → Int32)
def oAdd (b : OB) (o : Int32) : OB := if b.1 < 0 then b else if 41 ≤ b.1 then b else (b.1 + 1, upd b.2 b.1.toNatClampNeg o.toInt8.toInt32)
def oTwo (b : OB) (x : Int32) : OB := oAdd (oAdd b (x >>> ((8 : Int32) &&& 31))) x
def oBeg (b : OB) (md : Int32) : OB := oAdd b (64 + md)
def totF (n : Int32) (f : Nat → Int32) : Nat → Int32 → Int32
  | 0, acc => acc
  | j + 1, acc => if n ≤ nI (41 - (j + 1)) then acc else totF n f j (acc + (f (41 - (j + 1)) &&& 255))
theorem in41 {n : Int32} (h1 : ¬ n < 0) (h2 : ¬ (41 : Int32) ≤ n) : vp_in n 41 := by
  rw [vp_in_iff]
  rw [Int32.lt_iff_toInt_lt] at h1
  rw [Int32.le_iff_toInt_le] at h2
  have e0 : (0 : Int32).toInt = 0 := by decide
  have e1 : (41 : Int32).toInt = 41 := by decide
  omega
def hcM (m : Mon) (cs : Int32) : Int32 := hcR m.1 m.2.1 m.2.2.2.2.1 cs
def ecM (m : Mon) (cs tr : Int32) : Mon := (m.1, m.2.1, ecR m.1 m.2.1 m.2.2.1 m.2.2.2.1 m.2.2.2.2.1 cs tr, ecC m.1 m.2.1 m.2.2.2.1 m.2.2.2.2.1 cs, hcH m.2.1 m.2.2.2.2.1 cs, ecT m.2.2.2.2.2 tr)
def cntM (mon : Nat → Mon) (cs : Int32) : Nat → Int32
  | 0 => 0
  | k + 1 => if hcM (mon k) cs = 0 then cntM mon cs k else cntM mon cs k + 1
def codOn (q : Cod) (cy cs : Int32) : Cod := (q.1, q.2.1, onP q.2.2.1 q.2.2.2.1, onK q.2.2.1 q.2.2.2.1, onK q.2.2.1 q.2.2.2.2.1, 0, 0, onF q.2.2.1 q.2.2.2.1 q.2.2.2.2.2.2.2.1 cy, onF q.2.2.1 q.2.2.2.1 q.2.2.2.2.2.2.2.2 cs)
def codOff (q : Cod) (cs : Int32) : Cod := (q.1, q.2.1, ofK q.2.2.1 q.2.2.2.2.2.1 q.2.2.1, ofK q.2.2.1 q.2.2.2.2.2.1 q.2.2.2.1, ofL q.2.2.2.2.1 q.2.2.2.2.2.2.1 cs, ofK q.2.2.1 q.2.2.2.2.2.1 (q.2.2.2.2.2.1 + 1), ofZ q.2.2.2.2.2.2.1 cs, ofK q.2.2.1 q.2.2.2.2.2.1 q.2.2.2.2.2.2.2.1, ofK q.2.2.1 q.2.2.2.2.2.1 q.2.2.2.2.2.2.2.2)
def codCy (cy cs : Int32) (q : Cod) : Cod := if q.2.1 = 0 then codOff q cs else codOn q cy cs
def codFg (q : Cod) : Cod := (q.1, q.2.1, 0, 0, q.2.2.2.2.1, 0, q.2.2.2.2.2.2.1, 0, 0)
def monNt (m : Mon) : Mon := (m.1, m.2.1, m.2.2.1, m.2.2.2.1, m.2.2.2.2.1, 0)
def cntC (cod : Nat → Cod) : Nat → Int32
  | 0 => 0
  | k + 1 => if (cod k).2.2.2.1 = 0 then cntC cod k else cntC cod k + 1
def rdF (mon : Nat → Mon) (kd : Int32) (n : Nat) : Nat → Int32 → Int32
  | 0, acc => acc
  | j + 1, acc => if (mon (n - (j + 1))).1 = kd then (if (mon (n - (j + 1))).2.2.2.2.2 = 0 then 0 else rdF mon kd n j 1) else rdF mon kd n j acc
def kcF (cod : Nat → Cod) (nu : Int32) (n : Nat) : Nat → Option Nat
  | 0 => none
  | j + 1 => if (cod (n - (j + 1))).1 = nu then some (n - (j + 1)) else kcF cod nu n j
def ffF (cod : Nat → Cod) (n : Nat) : Nat → Option Nat
  | 0 => none
  | j + 1 => if frF (cod (n - (j + 1))).2.2.2.2.2.2.2.1 = 0 then ffF cod n j else some (n - (j + 1))
def pmF (cod : Nat → Cod) (i : Int32) (n : Nat) : Nat → Int32 → Int32
  | 0, _ => 0
  | j + 1, bf => if (cod (n - (j + 1))).2.2.2.2.1 = 0 then pmF cod i n j bf else if bf = i then (cod (n - (j + 1))).1 else pmF cod i n j (bf + 1)
def knF (mon : Nat → Mon) (nM : Nat) : Nat → Int32 → Int32
  | 0, b => b
  | j + 1, b => knF mon nM j (if rdF mon (nI (4 - (j + 1))) nM nM 2 = 0 then b ||| ((1 : Int32) <<< (nI (4 - (j + 1)) &&& 31)) else b)
def tcF (cod : Nat → Cod) (md : Int32) (n : Nat) : Nat → OB → OB
  | 0, b => b
  | j + 1, b => tcF cod md n j (if toldF md (cod (n - (j + 1))).2.2.1 (cod (n - (j + 1))).2.2.2.1 (cod (n - (j + 1))).2.2.2.2.1 = 0 then b else oTwo b (cod (n - (j + 1))).1)
def tnF (mon : Nat → Mon) (n : Nat) : Nat → OB → OB
  | 0, b => b
  | j + 1, b => tnF mon n j (oAdd (oAdd b (mon (n - (j + 1))).2.2.1) (mon (n - (j + 1))).2.2.2.1)
def ilF (pt ru ch : Int32) : Nat → Int32
  | 0 => pt
  | d + 1 => if nI (d + 1) ≤ 1 then pt else if ru - ru / nI (d + 1) * nI (d + 1) = 0 then (if ch - ch / nI (d + 1) * nI (d + 1) = 0 then pt / nI (d + 1) else ilF pt ru ch d) else ilF pt ru ch d
def isM (nn : Int32) (nM : Nat) : Int32 := if nn < 1 then 0 else if nI nM < nn then 0 else 1
theorem isM_bz (nn : Int32) (nM : Nat) : bz (isM nn nM) := bz_if bz0 (bz_if bz0 bz1)
def rdyF (mon : Nat → Mon) (nM : Nat) (kd : Int32) : Int32 := if kindF kd = 0 then (-2) else rdF mon kd nM nM 2
theorem fu_ix {n k : Nat} (h : k < n) : n - k = (n - (k + 1)) + 1 ∧ n - ((n - (k + 1)) + 1) = k := by omega
theorem rdF_step {mon : Nat → Mon} (kd acc : Int32) {n k : Nat} (h : k < n) : rdF mon kd n (n - k) acc = if (mon k).1 = kd then (if (mon k).2.2.2.2.2 = 0 then 0 else rdF mon kd n (n - (k + 1)) 1) else rdF mon kd n (n - (k + 1)) acc := by
  obtain ⟨h1, h2⟩ := fu_ix h
  rw [h1, rdF, h2]
theorem kcF_step {cod : Nat → Cod} (nu : Int32) {n k : Nat} (h : k < n) : kcF cod nu n (n - k) = if (cod k).1 = nu then some k else kcF cod nu n (n - (k + 1)) := by
  obtain ⟨h1, h2⟩ := fu_ix h
  rw [h1, kcF, h2]
theorem ffF_step {cod : Nat → Cod} {n k : Nat} (h : k < n) : ffF cod n (n - k) = if frF (cod k).2.2.2.2.2.2.2.1 = 0 then ffF cod n (n - (k + 1)) else some k := by
  obtain ⟨h1, h2⟩ := fu_ix h
  rw [h1, ffF, h2]
theorem pmF_step {cod : Nat → Cod} (i bf : Int32) {n k : Nat} (h : k < n) : pmF cod i n (n - k) bf = if (cod k).2.2.2.2.1 = 0 then pmF cod i n (n - (k + 1)) bf else if bf = i then (cod k).1 else pmF cod i n (n - (k + 1)) (bf + 1) := by
  obtain ⟨h1, h2⟩ := fu_ix h
  rw [h1, pmF, h2]
theorem knF_step {mon : Nat → Mon} {nM : Nat} (b : Int32) {k : Nat} (h : k < 4) : knF mon nM (4 - k) b = knF mon nM (4 - (k + 1)) (if rdF mon (nI k) nM nM 2 = 0 then b ||| ((1 : Int32) <<< (nI k &&& 31)) else b) := by
  obtain ⟨h1, h2⟩ := fu_ix h
  rw [h1, knF, h2]
theorem tcF_step {cod : Nat → Cod} (md : Int32) {n : Nat} (b : OB) {k : Nat} (h : k < n) : tcF cod md n (n - k) b = tcF cod md n (n - (k + 1)) (if toldF md (cod k).2.2.1 (cod k).2.2.2.1 (cod k).2.2.2.2.1 = 0 then b else oTwo b (cod k).1) := by
  obtain ⟨h1, h2⟩ := fu_ix h
  rw [h1, tcF, h2]
theorem tnF_step {mon : Nat → Mon} {n : Nat} (b : OB) {k : Nat} (h : k < n) : tnF mon n (n - k) b = tnF mon n (n - (k + 1)) (oAdd (oAdd b (mon k).2.2.1) (mon k).2.2.2.1) := by
  obtain ⟨h1, h2⟩ := fu_ix h
  rw [h1, tnF, h2]
theorem totF_step {n : Int32} {f : Nat → Int32} (acc : Int32) {k : Nat} (h : k < 41) : totF n f (41 - k) acc = if n ≤ nI k then acc else totF n f (41 - (k + 1)) (acc + (f k &&& 255)) := by
  obtain ⟨h1, h2⟩ := fu_ix h
  rw [h1, totF, h2]
theorem totF_stop {n : Int32} {f : Nat → Int32} {acc : Int32} {k : Nat} (h : n ≤ nI k) (hk : k ≤ 41) : totF n f (41 - k) acc = acc := by
  rcases Nat.lt_or_ge k 41 with h1 | h1
  · rw [totF_step _ h1, if_pos h]
  · rw [show 41 - k = 0 by omega]
    rfl
end EF
end
section
abbrev b_ER_isBitSet : ByteArray := prog_1_method_28_code
def y_ER_isBitSet : MethodName := ⟨R_ER, "isBitSet", "(II)Z"⟩
def w_ER_isBitSet : List Cond := .code y_ER_isBitSet b_ER_isBitSet 2 (some .boolean) :: lwG
theorem d_ER_isBitSet_0 : decode b_ER_isBitSet 0 = .ok (.iload_n 0, 1) := by decide +kernel
theorem d_ER_isBitSet_1 : decode b_ER_isBitSet 1 = .ok (.iload_n 1, 1) := by decide +kernel
theorem d_ER_isBitSet_2 : decode b_ER_isBitSet 2 = .ok (.ishr, 1) := by decide +kernel
theorem d_ER_isBitSet_3 : decode b_ER_isBitSet 3 = .ok (.iconst 1, 1) := by decide +kernel
theorem d_ER_isBitSet_4 : decode b_ER_isBitSet 4 = .ok (.iand, 1) := by decide +kernel
theorem d_ER_isBitSet_5 : decode b_ER_isBitSet 5 = .ok (.iconst 1, 1) := by decide +kernel
theorem d_ER_isBitSet_6 : decode b_ER_isBitSet 6 = .ok (.if_icmp .ne 7, 3) := by decide +kernel
theorem d_ER_isBitSet_9 : decode b_ER_isBitSet 9 = .ok (.iconst 1, 1) := by decide +kernel
theorem d_ER_isBitSet_10 : decode b_ER_isBitSet 10 = .ok (.goto 4, 3) := by decide +kernel
theorem d_ER_isBitSet_13 : decode b_ER_isBitSet 13 = .ok (.iconst 0, 1) := by decide +kernel
theorem d_ER_isBitSet_14 : decode b_ER_isBitSet 14 = .ok (.ireturn, 1) := by decide +kernel
abbrev b_ER_isKind : ByteArray := prog_1_method_15_code
def y_ER_isKind : MethodName := ⟨R_ER, "isKind", "(I)Z"⟩
def w_ER_isKind : List Cond := .code y_ER_isKind b_ER_isKind 1 (some .boolean) :: lwG
theorem d_ER_isKind_0 : decode b_ER_isKind 0 = .ok (.iload_n 0, 1) := by decide +kernel
theorem d_ER_isKind_1 : decode b_ER_isKind 1 = .ok (.ifCond .lt 12, 3) := by decide +kernel
theorem d_ER_isKind_4 : decode b_ER_isKind 4 = .ok (.iload_n 0, 1) := by decide +kernel
theorem d_ER_isKind_5 : decode b_ER_isKind 5 = .ok (.iconst 4, 1) := by decide +kernel
theorem d_ER_isKind_6 : decode b_ER_isKind 6 = .ok (.if_icmp .ge 7, 3) := by decide +kernel
theorem d_ER_isKind_9 : decode b_ER_isKind 9 = .ok (.iconst 1, 1) := by decide +kernel
theorem d_ER_isKind_10 : decode b_ER_isKind 10 = .ok (.goto 4, 3) := by decide +kernel
theorem d_ER_isKind_13 : decode b_ER_isKind 13 = .ok (.iconst 0, 1) := by decide +kernel
theorem d_ER_isKind_14 : decode b_ER_isKind 14 = .ok (.ireturn, 1) := by decide +kernel
abbrev b_MON_init : ByteArray := prog_4_method_1_code
def y_MON_init : MethodName := ⟨R_MON, "<init>", "(II)V"⟩
def w_MON_init : List Cond := .code y_MON_init b_MON_init 3 none :: lwG
theorem d_MON_init_0 : decode b_MON_init 0 = .ok (.aload_n 0, 1) := by decide +kernel
theorem d_MON_init_1 : decode b_MON_init 1 = .ok (.invokespecial 3, 3) := by decide +kernel
theorem d_MON_init_4 : decode b_MON_init 4 = .ok (.aload_n 0, 1) := by decide +kernel
theorem d_MON_init_5 : decode b_MON_init 5 = .ok (.iconst 0, 1) := by decide +kernel
theorem d_MON_init_6 : decode b_MON_init 6 = .ok (.putfield 9, 3) := by decide +kernel
theorem d_MON_init_9 : decode b_MON_init 9 = .ok (.aload_n 0, 1) := by decide +kernel
theorem d_MON_init_10 : decode b_MON_init 10 = .ok (.iconst 0, 1) := by decide +kernel
theorem d_MON_init_11 : decode b_MON_init 11 = .ok (.putfield 15, 3) := by decide +kernel
theorem d_MON_init_14 : decode b_MON_init 14 = .ok (.aload_n 0, 1) := by decide +kernel
theorem d_MON_init_15 : decode b_MON_init 15 = .ok (.iconst 0, 1) := by decide +kernel
theorem d_MON_init_16 : decode b_MON_init 16 = .ok (.putfield 18, 3) := by decide +kernel
theorem d_MON_init_19 : decode b_MON_init 19 = .ok (.aload_n 0, 1) := by decide +kernel
theorem d_MON_init_20 : decode b_MON_init 20 = .ok (.iconst 0, 1) := by decide +kernel
theorem d_MON_init_21 : decode b_MON_init 21 = .ok (.putfield 21, 3) := by decide +kernel
theorem d_MON_init_24 : decode b_MON_init 24 = .ok (.aload_n 0, 1) := by decide +kernel
theorem d_MON_init_25 : decode b_MON_init 25 = .ok (.iload_n 1, 1) := by decide +kernel
theorem d_MON_init_26 : decode b_MON_init 26 = .ok (.putfield 25, 3) := by decide +kernel
theorem d_MON_init_29 : decode b_MON_init 29 = .ok (.aload_n 0, 1) := by decide +kernel
theorem d_MON_init_30 : decode b_MON_init 30 = .ok (.iload_n 2, 1) := by decide +kernel
theorem d_MON_init_31 : decode b_MON_init 31 = .ok (.putfield 28, 3) := by decide +kernel
theorem d_MON_init_34 : decode b_MON_init 34 = .ok (.return_, 1) := by decide +kernel
abbrev b_MON_countChance : ByteArray := prog_4_method_4_code
def y_MON_countChance : MethodName := ⟨R_MON, "countChance", "(Z)V"⟩
def w_MON_countChance : List Cond := .code y_MON_countChance b_MON_countChance 2 none :: lwG
theorem d_MON_countChance_0 : decode b_MON_countChance 0 = .ok (.aload_n 0, 1) := by decide +kernel
theorem d_MON_countChance_1 : decode b_MON_countChance 1 = .ok (.getfield 15, 3) := by decide +kernel
theorem d_MON_countChance_4 : decode b_MON_countChance 4 = .ok (.bipush 100, 2) := by decide +kernel
theorem d_MON_countChance_6 : decode b_MON_countChance 6 = .ok (.if_icmp .lt 23, 3) := by decide +kernel
theorem d_MON_countChance_9 : decode b_MON_countChance 9 = .ok (.aload_n 0, 1) := by decide +kernel
theorem d_MON_countChance_10 : decode b_MON_countChance 10 = .ok (.dup, 1) := by decide +kernel
theorem d_MON_countChance_11 : decode b_MON_countChance 11 = .ok (.getfield 9, 3) := by decide +kernel
theorem d_MON_countChance_14 : decode b_MON_countChance 14 = .ok (.iconst 2, 1) := by decide +kernel
theorem d_MON_countChance_15 : decode b_MON_countChance 15 = .ok (.idiv, 1) := by decide +kernel
theorem d_MON_countChance_16 : decode b_MON_countChance 16 = .ok (.putfield 9, 3) := by decide +kernel
theorem d_MON_countChance_19 : decode b_MON_countChance 19 = .ok (.aload_n 0, 1) := by decide +kernel
theorem d_MON_countChance_20 : decode b_MON_countChance 20 = .ok (.dup, 1) := by decide +kernel
theorem d_MON_countChance_21 : decode b_MON_countChance 21 = .ok (.getfield 15, 3) := by decide +kernel
theorem d_MON_countChance_24 : decode b_MON_countChance 24 = .ok (.iconst 2, 1) := by decide +kernel
theorem d_MON_countChance_25 : decode b_MON_countChance 25 = .ok (.idiv, 1) := by decide +kernel
theorem d_MON_countChance_26 : decode b_MON_countChance 26 = .ok (.putfield 15, 3) := by decide +kernel
theorem d_MON_countChance_29 : decode b_MON_countChance 29 = .ok (.aload_n 0, 1) := by decide +kernel
theorem d_MON_countChance_30 : decode b_MON_countChance 30 = .ok (.dup, 1) := by decide +kernel
theorem d_MON_countChance_31 : decode b_MON_countChance 31 = .ok (.getfield 15, 3) := by decide +kernel
theorem d_MON_countChance_34 : decode b_MON_countChance 34 = .ok (.iconst 1, 1) := by decide +kernel
theorem d_MON_countChance_35 : decode b_MON_countChance 35 = .ok (.iadd, 1) := by decide +kernel
theorem d_MON_countChance_36 : decode b_MON_countChance 36 = .ok (.putfield 15, 3) := by decide +kernel
theorem d_MON_countChance_39 : decode b_MON_countChance 39 = .ok (.iload_n 1, 1) := by decide +kernel
theorem d_MON_countChance_40 : decode b_MON_countChance 40 = .ok (.ifCond .eq 13, 3) := by decide +kernel
theorem d_MON_countChance_43 : decode b_MON_countChance 43 = .ok (.aload_n 0, 1) := by decide +kernel
theorem d_MON_countChance_44 : decode b_MON_countChance 44 = .ok (.dup, 1) := by decide +kernel
theorem d_MON_countChance_45 : decode b_MON_countChance 45 = .ok (.getfield 9, 3) := by decide +kernel
theorem d_MON_countChance_48 : decode b_MON_countChance 48 = .ok (.iconst 1, 1) := by decide +kernel
theorem d_MON_countChance_49 : decode b_MON_countChance 49 = .ok (.iadd, 1) := by decide +kernel
theorem d_MON_countChance_50 : decode b_MON_countChance 50 = .ok (.putfield 9, 3) := by decide +kernel
theorem d_MON_countChance_53 : decode b_MON_countChance 53 = .ok (.return_, 1) := by decide +kernel
abbrev b_MON_hasChance : ByteArray := prog_4_method_3_code
def y_MON_hasChance : MethodName := ⟨R_MON, "hasChance", "(I)Z"⟩
def w_MON_hasChance : List Cond := .code y_MON_hasChance b_MON_hasChance 3 (some .boolean) :: lwG
theorem d_MON_hasChance_0 : decode b_MON_hasChance 0 = .ok (.iload_n 1, 1) := by decide +kernel
theorem d_MON_hasChance_1 : decode b_MON_hasChance 1 = .ok (.aload_n 0, 1) := by decide +kernel
theorem d_MON_hasChance_2 : decode b_MON_hasChance 2 = .ok (.getfield 28, 3) := by decide +kernel
theorem d_MON_hasChance_5 : decode b_MON_hasChance 5 = .ok (.invokestatic 39, 3) := by decide +kernel
theorem d_MON_hasChance_8 : decode b_MON_hasChance 8 = .ok (.istore_n 2, 1) := by decide +kernel
theorem d_MON_hasChance_9 : decode b_MON_hasChance 9 = .ok (.iload_n 2, 1) := by decide +kernel
theorem d_MON_hasChance_10 : decode b_MON_hasChance 10 = .ok (.ifCond .eq 13, 3) := by decide +kernel
theorem d_MON_hasChance_13 : decode b_MON_hasChance 13 = .ok (.aload_n 0, 1) := by decide +kernel
theorem d_MON_hasChance_14 : decode b_MON_hasChance 14 = .ok (.dup, 1) := by decide +kernel
theorem d_MON_hasChance_15 : decode b_MON_hasChance 15 = .ok (.getfield 18, 3) := by decide +kernel
theorem d_MON_hasChance_18 : decode b_MON_hasChance 18 = .ok (.iconst 1, 1) := by decide +kernel
theorem d_MON_hasChance_19 : decode b_MON_hasChance 19 = .ok (.iadd, 1) := by decide +kernel
theorem d_MON_hasChance_20 : decode b_MON_hasChance 20 = .ok (.putfield 18, 3) := by decide +kernel
theorem d_MON_hasChance_23 : decode b_MON_hasChance 23 = .ok (.aload_n 0, 1) := by decide +kernel
theorem d_MON_hasChance_24 : decode b_MON_hasChance 24 = .ok (.getfield 25, 3) := by decide +kernel
theorem d_MON_hasChance_27 : decode b_MON_hasChance 27 = .ok (.tableswitch 80 1 3 #[25, 51, 70], 25) := by decide +kernel
theorem d_MON_hasChance_52 : decode b_MON_hasChance 52 = .ok (.iload_n 2, 1) := by decide +kernel
theorem d_MON_hasChance_53 : decode b_MON_hasChance 53 = .ok (.ifCond .eq 23, 3) := by decide +kernel
theorem d_MON_hasChance_56 : decode b_MON_hasChance 56 = .ok (.iload_n 1, 1) := by decide +kernel
theorem d_MON_hasChance_57 : decode b_MON_hasChance 57 = .ok (.aload_n 0, 1) := by decide +kernel
theorem d_MON_hasChance_58 : decode b_MON_hasChance 58 = .ok (.getfield 28, 3) := by decide +kernel
theorem d_MON_hasChance_61 : decode b_MON_hasChance 61 = .ok (.iconst 1, 1) := by decide +kernel
theorem d_MON_hasChance_62 : decode b_MON_hasChance 62 = .ok (.iadd, 1) := by decide +kernel
theorem d_MON_hasChance_63 : decode b_MON_hasChance 63 = .ok (.bipush 8, 2) := by decide +kernel
theorem d_MON_hasChance_65 : decode b_MON_hasChance 65 = .ok (.irem, 1) := by decide +kernel
theorem d_MON_hasChance_66 : decode b_MON_hasChance 66 = .ok (.invokestatic 39, 3) := by decide +kernel
theorem d_MON_hasChance_69 : decode b_MON_hasChance 69 = .ok (.ifCond .eq 7, 3) := by decide +kernel
theorem d_MON_hasChance_72 : decode b_MON_hasChance 72 = .ok (.iconst 1, 1) := by decide +kernel
theorem d_MON_hasChance_73 : decode b_MON_hasChance 73 = .ok (.goto 4, 3) := by decide +kernel
theorem d_MON_hasChance_76 : decode b_MON_hasChance 76 = .ok (.iconst 0, 1) := by decide +kernel
theorem d_MON_hasChance_77 : decode b_MON_hasChance 77 = .ok (.ireturn, 1) := by decide +kernel
theorem d_MON_hasChance_78 : decode b_MON_hasChance 78 = .ok (.iload_n 2, 1) := by decide +kernel
theorem d_MON_hasChance_79 : decode b_MON_hasChance 79 = .ok (.ifCond .eq 16, 3) := by decide +kernel
theorem d_MON_hasChance_82 : decode b_MON_hasChance 82 = .ok (.aload_n 0, 1) := by decide +kernel
theorem d_MON_hasChance_83 : decode b_MON_hasChance 83 = .ok (.getfield 18, 3) := by decide +kernel
theorem d_MON_hasChance_86 : decode b_MON_hasChance 86 = .ok (.iconst 2, 1) := by decide +kernel
theorem d_MON_hasChance_87 : decode b_MON_hasChance 87 = .ok (.irem, 1) := by decide +kernel
theorem d_MON_hasChance_88 : decode b_MON_hasChance 88 = .ok (.ifCond .ne 7, 3) := by decide +kernel
theorem d_MON_hasChance_91 : decode b_MON_hasChance 91 = .ok (.iconst 1, 1) := by decide +kernel
theorem d_MON_hasChance_92 : decode b_MON_hasChance 92 = .ok (.goto 4, 3) := by decide +kernel
theorem d_MON_hasChance_95 : decode b_MON_hasChance 95 = .ok (.iconst 0, 1) := by decide +kernel
theorem d_MON_hasChance_96 : decode b_MON_hasChance 96 = .ok (.ireturn, 1) := by decide +kernel
theorem d_MON_hasChance_97 : decode b_MON_hasChance 97 = .ok (.iload_n 2, 1) := by decide +kernel
theorem d_MON_hasChance_98 : decode b_MON_hasChance 98 = .ok (.ifCond .ne 7, 3) := by decide +kernel
theorem d_MON_hasChance_101 : decode b_MON_hasChance 101 = .ok (.iconst 1, 1) := by decide +kernel
theorem d_MON_hasChance_102 : decode b_MON_hasChance 102 = .ok (.goto 4, 3) := by decide +kernel
theorem d_MON_hasChance_105 : decode b_MON_hasChance 105 = .ok (.iconst 0, 1) := by decide +kernel
theorem d_MON_hasChance_106 : decode b_MON_hasChance 106 = .ok (.ireturn, 1) := by decide +kernel
theorem d_MON_hasChance_107 : decode b_MON_hasChance 107 = .ok (.iload_n 2, 1) := by decide +kernel
theorem d_MON_hasChance_108 : decode b_MON_hasChance 108 = .ok (.ireturn, 1) := by decide +kernel
abbrev b_MON_endCycle : ByteArray := prog_4_method_2_code
def y_MON_endCycle : MethodName := ⟨R_MON, "endCycle", "(IZ)Z"⟩
def w_MON_endCycle : List Cond := .code y_MON_endCycle b_MON_endCycle 4 (some .boolean) :: lwG
theorem d_MON_endCycle_0 : decode b_MON_endCycle 0 = .ok (.aload_n 0, 1) := by decide +kernel
theorem d_MON_endCycle_1 : decode b_MON_endCycle 1 = .ok (.iload_n 1, 1) := by decide +kernel
theorem d_MON_endCycle_2 : decode b_MON_endCycle 2 = .ok (.invokevirtual 31, 3) := by decide +kernel
theorem d_MON_endCycle_5 : decode b_MON_endCycle 5 = .ok (.istore_n 3, 1) := by decide +kernel
theorem d_MON_endCycle_6 : decode b_MON_endCycle 6 = .ok (.iload_n 3, 1) := by decide +kernel
theorem d_MON_endCycle_7 : decode b_MON_endCycle 7 = .ok (.ifCond .eq 8, 3) := by decide +kernel
theorem d_MON_endCycle_10 : decode b_MON_endCycle 10 = .ok (.aload_n 0, 1) := by decide +kernel
theorem d_MON_endCycle_11 : decode b_MON_endCycle 11 = .ok (.iload_n 2, 1) := by decide +kernel
theorem d_MON_endCycle_12 : decode b_MON_endCycle 12 = .ok (.invokevirtual 35, 3) := by decide +kernel
theorem d_MON_endCycle_15 : decode b_MON_endCycle 15 = .ok (.iload_n 2, 1) := by decide +kernel
theorem d_MON_endCycle_16 : decode b_MON_endCycle 16 = .ok (.ifCond .eq 8, 3) := by decide +kernel
theorem d_MON_endCycle_19 : decode b_MON_endCycle 19 = .ok (.aload_n 0, 1) := by decide +kernel
theorem d_MON_endCycle_20 : decode b_MON_endCycle 20 = .ok (.iconst 1, 1) := by decide +kernel
theorem d_MON_endCycle_21 : decode b_MON_endCycle 21 = .ok (.putfield 21, 3) := by decide +kernel
theorem d_MON_endCycle_24 : decode b_MON_endCycle 24 = .ok (.iload_n 3, 1) := by decide +kernel
theorem d_MON_endCycle_25 : decode b_MON_endCycle 25 = .ok (.ireturn, 1) := by decide +kernel
abbrev b_COD_init : ByteArray := prog_2_method_1_code
def y_COD_init : MethodName := ⟨R_COD, "<init>", "(IZ)V"⟩
def w_COD_init : List Cond := .code y_COD_init b_COD_init 3 none :: lwG
theorem d_COD_init_0 : decode b_COD_init 0 = .ok (.aload_n 0, 1) := by decide +kernel
theorem d_COD_init_1 : decode b_COD_init 1 = .ok (.invokespecial 3, 3) := by decide +kernel
theorem d_COD_init_4 : decode b_COD_init 4 = .ok (.aload_n 0, 1) := by decide +kernel
theorem d_COD_init_5 : decode b_COD_init 5 = .ok (.iconst 0, 1) := by decide +kernel
theorem d_COD_init_6 : decode b_COD_init 6 = .ok (.putfield 9, 3) := by decide +kernel
theorem d_COD_init_9 : decode b_COD_init 9 = .ok (.aload_n 0, 1) := by decide +kernel
theorem d_COD_init_10 : decode b_COD_init 10 = .ok (.iconst 0, 1) := by decide +kernel
theorem d_COD_init_11 : decode b_COD_init 11 = .ok (.putfield 15, 3) := by decide +kernel
theorem d_COD_init_14 : decode b_COD_init 14 = .ok (.aload_n 0, 1) := by decide +kernel
theorem d_COD_init_15 : decode b_COD_init 15 = .ok (.iconst 0, 1) := by decide +kernel
theorem d_COD_init_16 : decode b_COD_init 16 = .ok (.putfield 18, 3) := by decide +kernel
theorem d_COD_init_19 : decode b_COD_init 19 = .ok (.aload_n 0, 1) := by decide +kernel
theorem d_COD_init_20 : decode b_COD_init 20 = .ok (.iconst 0, 1) := by decide +kernel
theorem d_COD_init_21 : decode b_COD_init 21 = .ok (.putfield 21, 3) := by decide +kernel
theorem d_COD_init_24 : decode b_COD_init 24 = .ok (.aload_n 0, 1) := by decide +kernel
theorem d_COD_init_25 : decode b_COD_init 25 = .ok (.iconst 0, 1) := by decide +kernel
theorem d_COD_init_26 : decode b_COD_init 26 = .ok (.putfield 25, 3) := by decide +kernel
theorem d_COD_init_29 : decode b_COD_init 29 = .ok (.aload_n 0, 1) := by decide +kernel
theorem d_COD_init_30 : decode b_COD_init 30 = .ok (.iconst 0, 1) := by decide +kernel
theorem d_COD_init_31 : decode b_COD_init 31 = .ok (.putfield 28, 3) := by decide +kernel
theorem d_COD_init_34 : decode b_COD_init 34 = .ok (.aload_n 0, 1) := by decide +kernel
theorem d_COD_init_35 : decode b_COD_init 35 = .ok (.iconst 0, 1) := by decide +kernel
theorem d_COD_init_36 : decode b_COD_init 36 = .ok (.putfield 31, 3) := by decide +kernel
theorem d_COD_init_39 : decode b_COD_init 39 = .ok (.aload_n 0, 1) := by decide +kernel
theorem d_COD_init_40 : decode b_COD_init 40 = .ok (.iload_n 1, 1) := by decide +kernel
theorem d_COD_init_41 : decode b_COD_init 41 = .ok (.putfield 34, 3) := by decide +kernel
theorem d_COD_init_44 : decode b_COD_init 44 = .ok (.aload_n 0, 1) := by decide +kernel
theorem d_COD_init_45 : decode b_COD_init 45 = .ok (.iload_n 2, 1) := by decide +kernel
theorem d_COD_init_46 : decode b_COD_init 46 = .ok (.putfield 37, 3) := by decide +kernel
theorem d_COD_init_49 : decode b_COD_init 49 = .ok (.return_, 1) := by decide +kernel
abbrev b_COD_endCycleOn : ByteArray := prog_2_method_2_code
def y_COD_endCycleOn : MethodName := ⟨R_COD, "endCycleOn", "(II)V"⟩
def w_COD_endCycleOn : List Cond := .code y_COD_endCycleOn b_COD_endCycleOn 3 none :: lwG
theorem d_COD_endCycleOn_0 : decode b_COD_endCycleOn 0 = .ok (.aload_n 0, 1) := by decide +kernel
theorem d_COD_endCycleOn_1 : decode b_COD_endCycleOn 1 = .ok (.iconst 0, 1) := by decide +kernel
theorem d_COD_endCycleOn_2 : decode b_COD_endCycleOn 2 = .ok (.putfield 21, 3) := by decide +kernel
theorem d_COD_endCycleOn_5 : decode b_COD_endCycleOn 5 = .ok (.aload_n 0, 1) := by decide +kernel
theorem d_COD_endCycleOn_6 : decode b_COD_endCycleOn 6 = .ok (.iconst 0, 1) := by decide +kernel
theorem d_COD_endCycleOn_7 : decode b_COD_endCycleOn 7 = .ok (.putfield 25, 3) := by decide +kernel
theorem d_COD_endCycleOn_10 : decode b_COD_endCycleOn 10 = .ok (.aload_n 0, 1) := by decide +kernel
theorem d_COD_endCycleOn_11 : decode b_COD_endCycleOn 11 = .ok (.getfield 9, 3) := by decide +kernel
theorem d_COD_endCycleOn_14 : decode b_COD_endCycleOn 14 = .ok (.ifCond .eq 21, 3) := by decide +kernel
theorem d_COD_endCycleOn_17 : decode b_COD_endCycleOn 17 = .ok (.aload_n 0, 1) := by decide +kernel
theorem d_COD_endCycleOn_18 : decode b_COD_endCycleOn 18 = .ok (.iconst 0, 1) := by decide +kernel
theorem d_COD_endCycleOn_19 : decode b_COD_endCycleOn 19 = .ok (.putfield 9, 3) := by decide +kernel
theorem d_COD_endCycleOn_22 : decode b_COD_endCycleOn 22 = .ok (.aload_n 0, 1) := by decide +kernel
theorem d_COD_endCycleOn_23 : decode b_COD_endCycleOn 23 = .ok (.iconst 1, 1) := by decide +kernel
theorem d_COD_endCycleOn_24 : decode b_COD_endCycleOn 24 = .ok (.putfield 15, 3) := by decide +kernel
theorem d_COD_endCycleOn_27 : decode b_COD_endCycleOn 27 = .ok (.aload_n 0, 1) := by decide +kernel
theorem d_COD_endCycleOn_28 : decode b_COD_endCycleOn 28 = .ok (.iconst 1, 1) := by decide +kernel
theorem d_COD_endCycleOn_29 : decode b_COD_endCycleOn 29 = .ok (.putfield 18, 3) := by decide +kernel
theorem d_COD_endCycleOn_32 : decode b_COD_endCycleOn 32 = .ok (.goto 25, 3) := by decide +kernel
theorem d_COD_endCycleOn_35 : decode b_COD_endCycleOn 35 = .ok (.aload_n 0, 1) := by decide +kernel
theorem d_COD_endCycleOn_36 : decode b_COD_endCycleOn 36 = .ok (.getfield 15, 3) := by decide +kernel
theorem d_COD_endCycleOn_39 : decode b_COD_endCycleOn 39 = .ok (.ifCond .ne 18, 3) := by decide +kernel
theorem d_COD_endCycleOn_42 : decode b_COD_endCycleOn 42 = .ok (.aload_n 0, 1) := by decide +kernel
theorem d_COD_endCycleOn_43 : decode b_COD_endCycleOn 43 = .ok (.iconst 1, 1) := by decide +kernel
theorem d_COD_endCycleOn_44 : decode b_COD_endCycleOn 44 = .ok (.putfield 9, 3) := by decide +kernel
theorem d_COD_endCycleOn_47 : decode b_COD_endCycleOn 47 = .ok (.aload_n 0, 1) := by decide +kernel
theorem d_COD_endCycleOn_48 : decode b_COD_endCycleOn 48 = .ok (.iload_n 1, 1) := by decide +kernel
theorem d_COD_endCycleOn_49 : decode b_COD_endCycleOn 49 = .ok (.putfield 28, 3) := by decide +kernel
theorem d_COD_endCycleOn_52 : decode b_COD_endCycleOn 52 = .ok (.aload_n 0, 1) := by decide +kernel
theorem d_COD_endCycleOn_53 : decode b_COD_endCycleOn 53 = .ok (.iload_n 2, 1) := by decide +kernel
theorem d_COD_endCycleOn_54 : decode b_COD_endCycleOn 54 = .ok (.putfield 31, 3) := by decide +kernel
theorem d_COD_endCycleOn_57 : decode b_COD_endCycleOn 57 = .ok (.return_, 1) := by decide +kernel
abbrev b_COD_forgetFault : ByteArray := prog_2_method_4_code
def y_COD_forgetFault : MethodName := ⟨R_COD, "forgetFault", "()V"⟩
def w_COD_forgetFault : List Cond := .code y_COD_forgetFault b_COD_forgetFault 1 none :: lwG
theorem d_COD_forgetFault_0 : decode b_COD_forgetFault 0 = .ok (.aload_n 0, 1) := by decide +kernel
theorem d_COD_forgetFault_1 : decode b_COD_forgetFault 1 = .ok (.iconst 0, 1) := by decide +kernel
theorem d_COD_forgetFault_2 : decode b_COD_forgetFault 2 = .ok (.putfield 9, 3) := by decide +kernel
theorem d_COD_forgetFault_5 : decode b_COD_forgetFault 5 = .ok (.aload_n 0, 1) := by decide +kernel
theorem d_COD_forgetFault_6 : decode b_COD_forgetFault 6 = .ok (.iconst 0, 1) := by decide +kernel
theorem d_COD_forgetFault_7 : decode b_COD_forgetFault 7 = .ok (.putfield 15, 3) := by decide +kernel
theorem d_COD_forgetFault_10 : decode b_COD_forgetFault 10 = .ok (.aload_n 0, 1) := by decide +kernel
theorem d_COD_forgetFault_11 : decode b_COD_forgetFault 11 = .ok (.iconst 0, 1) := by decide +kernel
theorem d_COD_forgetFault_12 : decode b_COD_forgetFault 12 = .ok (.putfield 21, 3) := by decide +kernel
theorem d_COD_forgetFault_15 : decode b_COD_forgetFault 15 = .ok (.aload_n 0, 1) := by decide +kernel
theorem d_COD_forgetFault_16 : decode b_COD_forgetFault 16 = .ok (.iconst 0, 1) := by decide +kernel
theorem d_COD_forgetFault_17 : decode b_COD_forgetFault 17 = .ok (.putfield 28, 3) := by decide +kernel
theorem d_COD_forgetFault_20 : decode b_COD_forgetFault 20 = .ok (.aload_n 0, 1) := by decide +kernel
theorem d_COD_forgetFault_21 : decode b_COD_forgetFault 21 = .ok (.iconst 0, 1) := by decide +kernel
theorem d_COD_forgetFault_22 : decode b_COD_forgetFault 22 = .ok (.putfield 31, 3) := by decide +kernel
theorem d_COD_forgetFault_25 : decode b_COD_forgetFault 25 = .ok (.return_, 1) := by decide +kernel
abbrev b_COD_endCycleOff : ByteArray := prog_2_method_3_code
def y_COD_endCycleOff : MethodName := ⟨R_COD, "endCycleOff", "(I)V"⟩
def w_COD_endCycleOff : List Cond := .code y_COD_endCycleOff b_COD_endCycleOff 2 none :: lwG
theorem d_COD_endCycleOff_0 : decode b_COD_endCycleOff 0 = .ok (.aload_n 0, 1) := by decide +kernel
theorem d_COD_endCycleOff_1 : decode b_COD_endCycleOff 1 = .ok (.dup, 1) := by decide +kernel
theorem d_COD_endCycleOff_2 : decode b_COD_endCycleOff 2 = .ok (.getfield 21, 3) := by decide +kernel
theorem d_COD_endCycleOff_5 : decode b_COD_endCycleOff 5 = .ok (.iconst 1, 1) := by decide +kernel
theorem d_COD_endCycleOff_6 : decode b_COD_endCycleOff 6 = .ok (.iadd, 1) := by decide +kernel
theorem d_COD_endCycleOff_7 : decode b_COD_endCycleOff 7 = .ok (.putfield 21, 3) := by decide +kernel
theorem d_COD_endCycleOff_10 : decode b_COD_endCycleOff 10 = .ok (.iload_n 1, 1) := by decide +kernel
theorem d_COD_endCycleOff_11 : decode b_COD_endCycleOff 11 = .ok (.iconst 0, 1) := by decide +kernel
theorem d_COD_endCycleOff_12 : decode b_COD_endCycleOff 12 = .ok (.invokestatic 40, 3) := by decide +kernel
theorem d_COD_endCycleOff_15 : decode b_COD_endCycleOff 15 = .ok (.ifCond .eq 13, 3) := by decide +kernel
theorem d_COD_endCycleOff_18 : decode b_COD_endCycleOff 18 = .ok (.aload_n 0, 1) := by decide +kernel
theorem d_COD_endCycleOff_19 : decode b_COD_endCycleOff 19 = .ok (.dup, 1) := by decide +kernel
theorem d_COD_endCycleOff_20 : decode b_COD_endCycleOff 20 = .ok (.getfield 25, 3) := by decide +kernel
theorem d_COD_endCycleOff_23 : decode b_COD_endCycleOff 23 = .ok (.iconst 1, 1) := by decide +kernel
theorem d_COD_endCycleOff_24 : decode b_COD_endCycleOff 24 = .ok (.iadd, 1) := by decide +kernel
theorem d_COD_endCycleOff_25 : decode b_COD_endCycleOff 25 = .ok (.putfield 25, 3) := by decide +kernel
theorem d_COD_endCycleOff_28 : decode b_COD_endCycleOff 28 = .ok (.aload_n 0, 1) := by decide +kernel
theorem d_COD_endCycleOff_29 : decode b_COD_endCycleOff 29 = .ok (.getfield 9, 3) := by decide +kernel
theorem d_COD_endCycleOff_32 : decode b_COD_endCycleOff 32 = .ok (.ifCond .ne 11, 3) := by decide +kernel
theorem d_COD_endCycleOff_35 : decode b_COD_endCycleOff 35 = .ok (.aload_n 0, 1) := by decide +kernel
theorem d_COD_endCycleOff_36 : decode b_COD_endCycleOff 36 = .ok (.getfield 21, 3) := by decide +kernel
theorem d_COD_endCycleOff_39 : decode b_COD_endCycleOff 39 = .ok (.iconst 3, 1) := by decide +kernel
theorem d_COD_endCycleOff_40 : decode b_COD_endCycleOff 40 = .ok (.if_icmp .lt 7, 3) := by decide +kernel
theorem d_COD_endCycleOff_43 : decode b_COD_endCycleOff 43 = .ok (.aload_n 0, 1) := by decide +kernel
theorem d_COD_endCycleOff_44 : decode b_COD_endCycleOff 44 = .ok (.invokevirtual 44, 3) := by decide +kernel
theorem d_COD_endCycleOff_47 : decode b_COD_endCycleOff 47 = .ok (.aload_n 0, 1) := by decide +kernel
theorem d_COD_endCycleOff_48 : decode b_COD_endCycleOff 48 = .ok (.getfield 25, 3) := by decide +kernel
theorem d_COD_endCycleOff_51 : decode b_COD_endCycleOff 51 = .ok (.iconst 3, 1) := by decide +kernel
theorem d_COD_endCycleOff_52 : decode b_COD_endCycleOff 52 = .ok (.if_icmp .lt 8, 3) := by decide +kernel
theorem d_COD_endCycleOff_55 : decode b_COD_endCycleOff 55 = .ok (.aload_n 0, 1) := by decide +kernel
theorem d_COD_endCycleOff_56 : decode b_COD_endCycleOff 56 = .ok (.iconst 0, 1) := by decide +kernel
theorem d_COD_endCycleOff_57 : decode b_COD_endCycleOff 57 = .ok (.putfield 18, 3) := by decide +kernel
theorem d_COD_endCycleOff_60 : decode b_COD_endCycleOff 60 = .ok (.return_, 1) := by decide +kernel
abbrev b_COD_hasFrozenRow : ByteArray := prog_2_method_5_code
def y_COD_hasFrozenRow : MethodName := ⟨R_COD, "hasFrozenRow", "()Z"⟩
def w_COD_hasFrozenRow : List Cond := .code y_COD_hasFrozenRow b_COD_hasFrozenRow 1 (some .boolean) :: lwG
theorem d_COD_hasFrozenRow_0 : decode b_COD_hasFrozenRow 0 = .ok (.aload_n 0, 1) := by decide +kernel
theorem d_COD_hasFrozenRow_1 : decode b_COD_hasFrozenRow 1 = .ok (.getfield 28, 3) := by decide +kernel
theorem d_COD_hasFrozenRow_4 : decode b_COD_hasFrozenRow 4 = .ok (.ifCond .eq 7, 3) := by decide +kernel
theorem d_COD_hasFrozenRow_7 : decode b_COD_hasFrozenRow 7 = .ok (.iconst 1, 1) := by decide +kernel
theorem d_COD_hasFrozenRow_8 : decode b_COD_hasFrozenRow 8 = .ok (.goto 4, 3) := by decide +kernel
theorem d_COD_hasFrozenRow_11 : decode b_COD_hasFrozenRow 11 = .ok (.iconst 0, 1) := by decide +kernel
theorem d_COD_hasFrozenRow_12 : decode b_COD_hasFrozenRow 12 = .ok (.ireturn, 1) := by decide +kernel
abbrev b_COD_isToldIn : ByteArray := prog_2_method_6_code
def y_COD_isToldIn : MethodName := ⟨R_COD, "isToldIn", "(I)Z"⟩
def w_COD_isToldIn : List Cond := .code y_COD_isToldIn b_COD_isToldIn 2 (some .boolean) :: lwG
theorem d_COD_isToldIn_0 : decode b_COD_isToldIn 0 = .ok (.iload_n 1, 1) := by decide +kernel
theorem d_COD_isToldIn_1 : decode b_COD_isToldIn 1 = .ok (.lookupswitch 50 #[(3, 35), (7, 40), (10, 45)], 35) := by decide +kernel
theorem d_COD_isToldIn_36 : decode b_COD_isToldIn 36 = .ok (.aload_n 0, 1) := by decide +kernel
theorem d_COD_isToldIn_37 : decode b_COD_isToldIn 37 = .ok (.getfield 15, 3) := by decide +kernel
theorem d_COD_isToldIn_40 : decode b_COD_isToldIn 40 = .ok (.ireturn, 1) := by decide +kernel
theorem d_COD_isToldIn_41 : decode b_COD_isToldIn 41 = .ok (.aload_n 0, 1) := by decide +kernel
theorem d_COD_isToldIn_42 : decode b_COD_isToldIn 42 = .ok (.getfield 9, 3) := by decide +kernel
theorem d_COD_isToldIn_45 : decode b_COD_isToldIn 45 = .ok (.ireturn, 1) := by decide +kernel
theorem d_COD_isToldIn_46 : decode b_COD_isToldIn 46 = .ok (.aload_n 0, 1) := by decide +kernel
theorem d_COD_isToldIn_47 : decode b_COD_isToldIn 47 = .ok (.getfield 18, 3) := by decide +kernel
theorem d_COD_isToldIn_50 : decode b_COD_isToldIn 50 = .ok (.ireturn, 1) := by decide +kernel
theorem d_COD_isToldIn_51 : decode b_COD_isToldIn 51 = .ok (.iconst 0, 1) := by decide +kernel
theorem d_COD_isToldIn_52 : decode b_COD_isToldIn 52 = .ok (.ireturn, 1) := by decide +kernel
abbrev b_LAMP_init : ByteArray := prog_3_method_1_code
def y_LAMP_init : MethodName := ⟨R_LAMP, "<init>", "()V"⟩
def w_LAMP_init : List Cond := .code y_LAMP_init b_LAMP_init 1 none :: lwG
theorem d_LAMP_init_0 : decode b_LAMP_init 0 = .ok (.aload_n 0, 1) := by decide +kernel
theorem d_LAMP_init_1 : decode b_LAMP_init 1 = .ok (.invokespecial 1, 3) := by decide +kernel
theorem d_LAMP_init_4 : decode b_LAMP_init 4 = .ok (.aload_n 0, 1) := by decide +kernel
theorem d_LAMP_init_5 : decode b_LAMP_init 5 = .ok (.iconst 0, 1) := by decide +kernel
theorem d_LAMP_init_6 : decode b_LAMP_init 6 = .ok (.putfield 7, 3) := by decide +kernel
theorem d_LAMP_init_9 : decode b_LAMP_init 9 = .ok (.aload_n 0, 1) := by decide +kernel
theorem d_LAMP_init_10 : decode b_LAMP_init 10 = .ok (.lconst 0, 1) := by decide +kernel
theorem d_LAMP_init_11 : decode b_LAMP_init 11 = .ok (.putfield 13, 3) := by decide +kernel
theorem d_LAMP_init_14 : decode b_LAMP_init 14 = .ok (.aload_n 0, 1) := by decide +kernel
theorem d_LAMP_init_15 : decode b_LAMP_init 15 = .ok (.lconst 0, 1) := by decide +kernel
theorem d_LAMP_init_16 : decode b_LAMP_init 16 = .ok (.putfield 17, 3) := by decide +kernel
theorem d_LAMP_init_19 : decode b_LAMP_init 19 = .ok (.return_, 1) := by decide +kernel
abbrev b_LAMP_reset : ByteArray := prog_3_method_4_code
def y_LAMP_reset : MethodName := ⟨R_LAMP, "reset", "()V"⟩
def w_LAMP_reset : List Cond := .code y_LAMP_reset b_LAMP_reset 1 none :: lwG
theorem d_LAMP_reset_0 : decode b_LAMP_reset 0 = .ok (.aload_n 0, 1) := by decide +kernel
theorem d_LAMP_reset_1 : decode b_LAMP_reset 1 = .ok (.iconst 0, 1) := by decide +kernel
theorem d_LAMP_reset_2 : decode b_LAMP_reset 2 = .ok (.putfield 7, 3) := by decide +kernel
theorem d_LAMP_reset_5 : decode b_LAMP_reset 5 = .ok (.aload_n 0, 1) := by decide +kernel
theorem d_LAMP_reset_6 : decode b_LAMP_reset 6 = .ok (.lconst 0, 1) := by decide +kernel
theorem d_LAMP_reset_7 : decode b_LAMP_reset 7 = .ok (.putfield 13, 3) := by decide +kernel
theorem d_LAMP_reset_10 : decode b_LAMP_reset 10 = .ok (.aload_n 0, 1) := by decide +kernel
theorem d_LAMP_reset_11 : decode b_LAMP_reset 11 = .ok (.lconst 0, 1) := by decide +kernel
theorem d_LAMP_reset_12 : decode b_LAMP_reset 12 = .ok (.putfield 17, 3) := by decide +kernel
theorem d_LAMP_reset_15 : decode b_LAMP_reset 15 = .ok (.return_, 1) := by decide +kernel
abbrev b_LAMP_follow : ByteArray := prog_3_method_2_code
def y_LAMP_follow : MethodName := ⟨R_LAMP, "follow", "(Z)V"⟩
def w_LAMP_follow : List Cond := .code y_LAMP_follow b_LAMP_follow 2 none :: lwG
theorem d_LAMP_follow_0 : decode b_LAMP_follow 0 = .ok (.iload_n 1, 1) := by decide +kernel
theorem d_LAMP_follow_1 : decode b_LAMP_follow 1 = .ok (.ifCond .eq 14, 3) := by decide +kernel
theorem d_LAMP_follow_4 : decode b_LAMP_follow 4 = .ok (.aload_n 0, 1) := by decide +kernel
theorem d_LAMP_follow_5 : decode b_LAMP_follow 5 = .ok (.getfield 7, 3) := by decide +kernel
theorem d_LAMP_follow_8 : decode b_LAMP_follow 8 = .ok (.ifCond .ne 7, 3) := by decide +kernel
theorem d_LAMP_follow_11 : decode b_LAMP_follow 11 = .ok (.aload_n 0, 1) := by decide +kernel
theorem d_LAMP_follow_12 : decode b_LAMP_follow 12 = .ok (.invokevirtual 20, 3) := by decide +kernel
theorem d_LAMP_follow_15 : decode b_LAMP_follow 15 = .ok (.aload_n 0, 1) := by decide +kernel
theorem d_LAMP_follow_16 : decode b_LAMP_follow 16 = .ok (.iload_n 1, 1) := by decide +kernel
theorem d_LAMP_follow_17 : decode b_LAMP_follow 17 = .ok (.putfield 7, 3) := by decide +kernel
theorem d_LAMP_follow_20 : decode b_LAMP_follow 20 = .ok (.return_, 1) := by decide +kernel
abbrev b_LAMP_goOn : ByteArray := prog_3_method_3_code
def y_LAMP_goOn : MethodName := ⟨R_LAMP, "goOn", "(JJ)Z"⟩
def w_LAMP_goOn : List Cond := .code y_LAMP_goOn b_LAMP_goOn 5 (some .boolean) :: lwG
theorem d_LAMP_goOn_0 : decode b_LAMP_goOn 0 = .ok (.aload_n 0, 1) := by decide +kernel
theorem d_LAMP_goOn_1 : decode b_LAMP_goOn 1 = .ok (.getfield 7, 3) := by decide +kernel
theorem d_LAMP_goOn_4 : decode b_LAMP_goOn 4 = .ok (.ifCond .eq 23, 3) := by decide +kernel
theorem d_LAMP_goOn_7 : decode b_LAMP_goOn 7 = .ok (.aload_n 0, 1) := by decide +kernel
theorem d_LAMP_goOn_8 : decode b_LAMP_goOn 8 = .ok (.dup, 1) := by decide +kernel
theorem d_LAMP_goOn_9 : decode b_LAMP_goOn 9 = .ok (.getfield 13, 3) := by decide +kernel
theorem d_LAMP_goOn_12 : decode b_LAMP_goOn 12 = .ok (.lload_n 1, 1) := by decide +kernel
theorem d_LAMP_goOn_13 : decode b_LAMP_goOn 13 = .ok (.ladd, 1) := by decide +kernel
theorem d_LAMP_goOn_14 : decode b_LAMP_goOn 14 = .ok (.putfield 13, 3) := by decide +kernel
theorem d_LAMP_goOn_17 : decode b_LAMP_goOn 17 = .ok (.aload_n 0, 1) := by decide +kernel
theorem d_LAMP_goOn_18 : decode b_LAMP_goOn 18 = .ok (.dup, 1) := by decide +kernel
theorem d_LAMP_goOn_19 : decode b_LAMP_goOn 19 = .ok (.getfield 17, 3) := by decide +kernel
theorem d_LAMP_goOn_22 : decode b_LAMP_goOn 22 = .ok (.lload_n 3, 1) := by decide +kernel
theorem d_LAMP_goOn_23 : decode b_LAMP_goOn 23 = .ok (.ladd, 1) := by decide +kernel
theorem d_LAMP_goOn_24 : decode b_LAMP_goOn 24 = .ok (.putfield 17, 3) := by decide +kernel
theorem d_LAMP_goOn_27 : decode b_LAMP_goOn 27 = .ok (.aload_n 0, 1) := by decide +kernel
theorem d_LAMP_goOn_28 : decode b_LAMP_goOn 28 = .ok (.getfield 7, 3) := by decide +kernel
theorem d_LAMP_goOn_31 : decode b_LAMP_goOn 31 = .ok (.ireturn, 1) := by decide +kernel
end
section
set_option maxHeartbeats 4000000 in
set_option maxRecDepth 100000 in
theorem c_isBitSet (l : Launch) (G : GG) (ba : Int32) (bb : Int32)  : Met l y_ER_isBitSet w_ER_isBitSet ({ frames := 0, cells := 0, slots := 0, locals := 0 }) (va_Pc [.int ba, .int bb] (Rw G [])) (k2_QcV (.int (bitF ba bb))) 0 0 (fun _ => False) := by
  refine Met.ofW (cc := b_ER_isBitSet) (maxL := 2) (ret := (some .boolean)) (by decide) rfl ?_
  intro p e s m args below meth c s₁ B hml hv
  obtain ⟨rfl, hP, hGK⟩ := hv
  have hx := B.exec
  have hb := B.bytes
  have hr := B.returns
  have hts := atoms_spec (ws := w_ER_isBitSet) B.pre
  have hT : ∀ w ∈ lwG, w.before _ s = true := fun w h => hts w (List.mem_cons_of_mem _ h)
  have hown : s.vm.findClass R_ER = some m.cls := findClass_of_methodNamed B.named
  have hlocks := B.notSynchronized
  have hK := hGK.1
  have hN := hGK.2
  have hP : va_P G.1 vwCl [] s.heap := hP
  have hl := lv_entry ([.int ba, .int bb]) (n := 2) (Nat.le_of_ble_eq_true rfl)
  rw [lg_entry_eq]
  generalize (lg_sl ([.int ba, .int bb]) ++ List.replicate (2 - (lg_sl ([.int ba, .int bb])).length) Slot.unset).toArray = ls at hl ⊢
  have hl : lv_has ls 2 [(0, .int ba), (1, .int bb)] := hl
  generalize hHe : s.heap = H at hP ⊢
  refine lv_iload_n hx hb d_ER_isBitSet_0 rfl (lv_at hl 0 rfl) ?_
  refine lv_iload_n hx hb d_ER_isBitSet_1 rfl (lv_at hl 1 rfl) ?_
  refine lv_ishr hx hb d_ER_isBitSet_2 ?_
  refine lv_iconst (v := 1) hx hb d_ER_isBitSet_3 (by decide) ?_
  refine lv_iand hx hb d_ER_isBitSet_4 ?_
  refine lv_iconst (v := 1) hx hb d_ER_isBitSet_5 (by decide) ?_
  refine lv_icmp_ne (tgt := 13) hx hb d_ER_isBitSet_6 (by decide) (fun c_6 => ?_) (fun c_6 => ?_)
  · refine lv_iconst (v := 0) hx hb d_ER_isBitSet_13 (by decide) ?_
    have hq9 : (.int (bitF ba bb)) = (.int 0 : Value) := by first | (simp [bitF, c_6]; done) | (simp_all [bitF]; done)
    exact W.zret (v := 0) hx hb hr rfl (fun t ht _ => ⟨by rw [hq9], ht.trans hHe.symm⟩) (fun _ h => by cases h) d_ER_isBitSet_14
  · refine lv_iconst (v := 1) hx hb d_ER_isBitSet_9 (by decide) ?_
    refine lv_goto (tgt := 14) hx hb d_ER_isBitSet_10 (by decide) ?_
    have hq9 : (.int (bitF ba bb)) = (.int 1 : Value) := by first | (simp [bitF, c_6]; done) | (simp_all [bitF]; done)
    exact W.zret (v := 1) hx hb hr rfl (fun t ht _ => ⟨by rw [hq9], ht.trans hHe.symm⟩) (fun _ h => by cases h) d_ER_isBitSet_14
set_option maxHeartbeats 4000000 in
set_option maxRecDepth 100000 in
theorem c_isKind (l : Launch) (G : GG) (kk : Int32)  : Met l y_ER_isKind w_ER_isKind ({ frames := 0, cells := 0, slots := 0, locals := 0 }) (va_Pc [.int kk] (Rw G [])) (k2_QcV (.int (kindF kk))) 0 0 (fun _ => False) := by
  refine Met.ofW (cc := b_ER_isKind) (maxL := 1) (ret := (some .boolean)) (by decide) rfl ?_
  intro p e s m args below meth c s₁ B hml hv
  obtain ⟨rfl, hP, hGK⟩ := hv
  have hx := B.exec
  have hb := B.bytes
  have hr := B.returns
  have hts := atoms_spec (ws := w_ER_isKind) B.pre
  have hT : ∀ w ∈ lwG, w.before _ s = true := fun w h => hts w (List.mem_cons_of_mem _ h)
  have hown : s.vm.findClass R_ER = some m.cls := findClass_of_methodNamed B.named
  have hlocks := B.notSynchronized
  have hK := hGK.1
  have hN := hGK.2
  have hP : va_P G.1 vwCl [] s.heap := hP
  have hl := lv_entry ([.int kk]) (n := 1) (Nat.le_of_ble_eq_true rfl)
  rw [lg_entry_eq]
  generalize (lg_sl ([.int kk]) ++ List.replicate (1 - (lg_sl ([.int kk])).length) Slot.unset).toArray = ls at hl ⊢
  have hl : lv_has ls 1 [(0, .int kk)] := hl
  generalize hHe : s.heap = H at hP ⊢
  refine lv_iload_n hx hb d_ER_isKind_0 rfl (lv_at hl 0 rfl) ?_
  refine lv_if_lt (tgt := 13) hx hb d_ER_isKind_1 (by decide) (fun c_1 => ?_) (fun c_1 => ?_)
  · refine lv_iconst (v := 0) hx hb d_ER_isKind_13 (by decide) ?_
    have hq9 : (.int (kindF kk)) = (.int 0 : Value) := by first | (simp [kindF, c_1]; done) | (simp_all [kindF]; done)
    exact W.zret (v := 0) hx hb hr rfl (fun t ht _ => ⟨by rw [hq9], ht.trans hHe.symm⟩) (fun _ h => by cases h) d_ER_isKind_14
  · refine lv_iload_n hx hb d_ER_isKind_4 rfl (lv_at hl 0 rfl) ?_
    refine lv_iconst (v := 4) hx hb d_ER_isKind_5 (by decide) ?_
    refine lv_icmp_ge (tgt := 13) hx hb d_ER_isKind_6 (by decide) (fun c_6 => ?_) (fun c_6 => ?_)
    · refine lv_iconst (v := 0) hx hb d_ER_isKind_13 (by decide) ?_
      have hq9 : (.int (kindF kk)) = (.int 0 : Value) := by first | (simp [kindF, c_1, c_6]; done) | (simp_all [kindF]; done)
      exact W.zret (v := 0) hx hb hr rfl (fun t ht _ => ⟨by rw [hq9], ht.trans hHe.symm⟩) (fun _ h => by cases h) d_ER_isKind_14
    · refine lv_iconst (v := 1) hx hb d_ER_isKind_9 (by decide) ?_
      refine lv_goto (tgt := 14) hx hb d_ER_isKind_10 (by decide) ?_
      have hq9 : (.int (kindF kk)) = (.int 1 : Value) := by first | (simp [kindF, c_1, c_6]; done) | (simp_all [kindF]; done)
      exact W.zret (v := 1) hx hb hr rfl (fun t ht _ => ⟨by rw [hq9], ht.trans hHe.symm⟩) (fun _ h => by cases h) d_ER_isKind_14
set_option maxHeartbeats 4000000 in
set_option maxRecDepth 100000 in
theorem c_Monitor_init (l : Launch) (G : GG) (sz : Nat) (h0 : Nat) (kd : Int32) (cd : Int32) (ru : Int32) (ch : Int32) (he : Int32) (te : Int32) (ka : Int32) (ca : Int32)  : Met l y_MON_init w_MON_init ({ frames := 1, cells := 0, slots := 0, locals := 12 }) (va_Pc [.ref h0, .int ka, .int ca] (Pw G sz [(h0, .inr (4, [.int kd, .int cd, .int ru, .int ch, .int he, .int te]))])) (QW G none [(h0, .inr (4, [.int kd, .int cd, .int ru, .int ch, .int he, .int te]))] [(h0, .inr (4, [.int ka, .int ca, .int 0, .int 0, .int 0, .int 0]))] sz) 0 0 (va_A [(h0, .inr (4, [.int kd, .int cd, .int ru, .int ch, .int he, .int te]))] sz) := by
  refine Met.ofW (cc := b_MON_init) (maxL := 3) (ret := none) (by decide) rfl ?_
  intro p e s m args below meth c s₁ B hml hv
  obtain ⟨rfl, hsz, hP, hGK, hD0⟩ := hv
  have hx := B.exec
  have hb := B.bytes
  have hr := B.returns
  have hts := atoms_spec (ws := w_MON_init) B.pre
  have hT : ∀ w ∈ lwG, w.before _ s = true := fun w h => hts w (List.mem_cons_of_mem _ h)
  have hown : s.vm.findClass R_MON = some m.cls := findClass_of_methodNamed B.named
  have hlocks := B.notSynchronized
  have hK := hGK.1
  have hN := hGK.2
  have hin : meth.name = "<init>" := (name_of_methodNamed B.named B.method).1
  subst hsz
  have hD := hD0.self (sz := s.heap.size)
  generalize hAe : va_A [(h0, .inr (4, [.int kd, .int cd, .int ru, .int ch, .int he, .int te]))] s.heap.size = A at hD ⊢
  have hA : ∀ q : Nat, s.heap.size ≤ q → A q := fun q h => by rw [← hAe]; exact Or.inr h
  have hS : va_S A s.heap s.heap [] := va_S.rf
  have hP : va_P G.1 vwCl [(h0, .inr (4, [.int kd, .int cd, .int ru, .int ch, .int he, .int te]))] s.heap := hP
  have hl := lv_entry ([.ref h0, .int ka, .int ca]) (n := 3) (Nat.le_of_ble_eq_true rfl)
  rw [lg_entry_eq]
  generalize (lg_sl ([.ref h0, .int ka, .int ca]) ++ List.replicate (3 - (lg_sl ([.ref h0, .int ka, .int ca])).length) Slot.unset).toArray = ls at hl ⊢
  have hl : lv_has ls 3 [(0, .ref h0), (1, .int ka), (2, .int ca)] := hl
  refine lv_aload_n hx hb d_MON_init_0 rfl (lv_at hl 0 rfl) ?_
  refine W.objInit hx hb hown (hT _ wd_166) (hT _ wd_71) (hT _ wd_72) rfl (by rw [hml]; exact hl.1) rfl d_MON_init_1 (Nat.le_of_ble_eq_true rfl) (Nat.le_of_ble_eq_true rfl) ?_
  refine W.eq (g2 := F0 m 4 ls []) rfl ?_
  refine lv_aload_n hx hb d_MON_init_4 rfl (lv_at hl 0 rfl) ?_
  refine lv_iconst (v := 0) hx hb d_MON_init_5 (by decide) ?_
  refine va_put (D := G.1) (ci := 4) (v := .int 0) (ty := .int) (C := R_MON) (T := T_MON) (N := 6) hx hb hT in_MON t_MON tok_MON nok_MON hown hK hP hD hS 0 rfl rfl 2 (by decide) (hT _ wd_170) (fun _ h9 => h9) rfl (by decide +kernel) rfl rfl (Nat.le_of_ble_eq_true rfl) d_MON_init_6 (fun H locs hP hD hS => ?_)
  have hP : va_P G.1 vwCl [(h0, .inr (4, [.int kd, .int cd, .int 0, .int ch, .int he, .int te]))] H := hP
  have hD : va_D A [(h0, .inr (4, [.int kd, .int cd, .int 0, .int ch, .int he, .int te]))] := hD
  refine lv_aload_n hx hb d_MON_init_9 rfl (lv_at hl 0 rfl) ?_
  refine lv_iconst (v := 0) hx hb d_MON_init_10 (by decide) ?_
  refine va_put (D := G.1) (ci := 4) (v := .int 0) (ty := .int) (C := R_MON) (T := T_MON) (N := 6) hx hb hT in_MON t_MON tok_MON nok_MON hown hK hP hD hS 0 rfl rfl 3 (by decide) (hT _ wd_172) (fun _ h9 => h9) rfl (by decide +kernel) rfl rfl (Nat.le_of_ble_eq_true rfl) d_MON_init_11 (fun H locs hP hD hS => ?_)
  have hP : va_P G.1 vwCl [(h0, .inr (4, [.int kd, .int cd, .int 0, .int 0, .int he, .int te]))] H := hP
  have hD : va_D A [(h0, .inr (4, [.int kd, .int cd, .int 0, .int 0, .int he, .int te]))] := hD
  refine lv_aload_n hx hb d_MON_init_14 rfl (lv_at hl 0 rfl) ?_
  refine lv_iconst (v := 0) hx hb d_MON_init_15 (by decide) ?_
  refine va_put (D := G.1) (ci := 4) (v := .int 0) (ty := .int) (C := R_MON) (T := T_MON) (N := 6) hx hb hT in_MON t_MON tok_MON nok_MON hown hK hP hD hS 0 rfl rfl 4 (by decide) (hT _ wd_174) (fun _ h9 => h9) rfl (by decide +kernel) rfl rfl (Nat.le_of_ble_eq_true rfl) d_MON_init_16 (fun H locs hP hD hS => ?_)
  have hP : va_P G.1 vwCl [(h0, .inr (4, [.int kd, .int cd, .int 0, .int 0, .int 0, .int te]))] H := hP
  have hD : va_D A [(h0, .inr (4, [.int kd, .int cd, .int 0, .int 0, .int 0, .int te]))] := hD
  refine lv_aload_n hx hb d_MON_init_19 rfl (lv_at hl 0 rfl) ?_
  refine lv_iconst (v := 0) hx hb d_MON_init_20 (by decide) ?_
  refine va_put (D := G.1) (ci := 4) (v := .int 0) (ty := .boolean) (C := R_MON) (T := T_MON) (N := 6) hx hb hT in_MON t_MON tok_MON nok_MON hown hK hP hD hS 0 rfl rfl 5 (by decide) (hT _ wd_175) (fun _ h9 => h9) rfl (by decide +kernel) rfl rfl (Nat.le_of_ble_eq_true rfl) d_MON_init_21 (fun H locs hP hD hS => ?_)
  have hP : va_P G.1 vwCl [(h0, .inr (4, [.int kd, .int cd, .int 0, .int 0, .int 0, .int 0]))] H := hP
  have hD : va_D A [(h0, .inr (4, [.int kd, .int cd, .int 0, .int 0, .int 0, .int 0]))] := hD
  refine lv_aload_n hx hb d_MON_init_24 rfl (lv_at hl 0 rfl) ?_
  refine lv_iload_n hx hb d_MON_init_25 rfl (lv_at hl 1 rfl) ?_
  refine va_putF (D := G.1) (ci := 4) (v := .int ka) (ty := .int) (C := R_MON) (T := T_MON) (N := 6) hx hb hT in_MON t_MON tok_MON nok_MON hown hK hP hD hS 0 rfl rfl 0 (by decide) (hT _ wd_167) (fun _ h9 => h9) rfl hin rfl (by decide +kernel) rfl rfl (Nat.le_of_ble_eq_true rfl) d_MON_init_26 (fun H locs hP hD hS => ?_)
  have hP : va_P G.1 vwCl [(h0, .inr (4, [.int ka, .int cd, .int 0, .int 0, .int 0, .int 0]))] H := hP
  have hD : va_D A [(h0, .inr (4, [.int ka, .int cd, .int 0, .int 0, .int 0, .int 0]))] := hD
  refine lv_aload_n hx hb d_MON_init_29 rfl (lv_at hl 0 rfl) ?_
  refine lv_iload_n hx hb d_MON_init_30 rfl (lv_at hl 2 rfl) ?_
  refine va_putF (D := G.1) (ci := 4) (v := .int ca) (ty := .int) (C := R_MON) (T := T_MON) (N := 6) hx hb hT in_MON t_MON tok_MON nok_MON hown hK hP hD hS 0 rfl rfl 1 (by decide) (hT _ wd_169) (fun _ h9 => h9) rfl hin rfl (by decide +kernel) rfl rfl (Nat.le_of_ble_eq_true rfl) d_MON_init_31 (fun H locs hP hD hS => ?_)
  have hP : va_P G.1 vwCl [(h0, .inr (4, [.int ka, .int ca, .int 0, .int 0, .int 0, .int 0]))] H := hP
  have hD : va_D A [(h0, .inr (4, [.int ka, .int ca, .int 0, .int 0, .int 0, .int 0]))] := hD
  exact W.vret hx hb hr (fun t ht hW => ⟨⟨rfl, by rw [ht]; exact hP, by rw [hAe]; exact hD⟩, by rw [hAe]; exact hS.F ht⟩) hS.2.2 d_MON_init_34
set_option maxHeartbeats 4000000 in
set_option maxRecDepth 100000 in
theorem c_countChance (l : Launch) (G : GG) (sz : Nat) (h0 : Nat) (kd : Int32) (cd : Int32) (ru : Int32) (ch : Int32) (he : Int32) (te : Int32) (tr : Int32)  : Met l y_MON_countChance w_MON_countChance ({ frames := 0, cells := 0, slots := 0, locals := 0 }) (va_Pc [.ref h0, .int tr] (Pw G sz [(h0, .inr (4, [.int kd, .int cd, .int ru, .int ch, .int he, .int te]))])) (QW G none [(h0, .inr (4, [.int kd, .int cd, .int ru, .int ch, .int he, .int te]))] [(h0, .inr (4, [.int kd, .int cd, .int (ccR ru ch tr), .int (ccC ch), .int he, .int te]))] sz) 0 0 (va_A [(h0, .inr (4, [.int kd, .int cd, .int ru, .int ch, .int he, .int te]))] sz) := by
  refine Met.ofW (cc := b_MON_countChance) (maxL := 2) (ret := none) (by decide) rfl ?_
  intro p e s m args below meth c s₁ B hml hv
  obtain ⟨rfl, hsz, hP, hGK, hD0⟩ := hv
  have hx := B.exec
  have hb := B.bytes
  have hr := B.returns
  have hts := atoms_spec (ws := w_MON_countChance) B.pre
  have hT : ∀ w ∈ lwG, w.before _ s = true := fun w h => hts w (List.mem_cons_of_mem _ h)
  have hown : s.vm.findClass R_MON = some m.cls := findClass_of_methodNamed B.named
  have hlocks := B.notSynchronized
  have hK := hGK.1
  have hN := hGK.2
  subst hsz
  have hD := hD0.self (sz := s.heap.size)
  generalize hAe : va_A [(h0, .inr (4, [.int kd, .int cd, .int ru, .int ch, .int he, .int te]))] s.heap.size = A at hD ⊢
  have hA : ∀ q : Nat, s.heap.size ≤ q → A q := fun q h => by rw [← hAe]; exact Or.inr h
  have hS : va_S A s.heap s.heap [] := va_S.rf
  have hP : va_P G.1 vwCl [(h0, .inr (4, [.int kd, .int cd, .int ru, .int ch, .int he, .int te]))] s.heap := hP
  have hl := lv_entry ([.ref h0, .int tr]) (n := 2) (Nat.le_of_ble_eq_true rfl)
  rw [lg_entry_eq]
  generalize (lg_sl ([.ref h0, .int tr]) ++ List.replicate (2 - (lg_sl ([.ref h0, .int tr])).length) Slot.unset).toArray = ls at hl ⊢
  have hl : lv_has ls 2 [(0, .ref h0), (1, .int tr)] := hl
  refine lv_aload_n hx hb d_MON_countChance_0 rfl (lv_at hl 0 rfl) ?_
  refine va_get (D := G.1) (ci := 4) (v := .int ch) (C := R_MON) (T := T_MON) (N := 6) hx hb hT in_MON hown hK hP 0 rfl rfl 3 (by decide) (hT _ wd_172) (fun _ h9 => h9) rfl d_MON_countChance_1 ?_
  refine lv_bipush (v := 100) hx hb d_MON_countChance_4 (by decide) ?_
  refine lv_icmp_lt (tgt := 29) hx hb d_MON_countChance_6 (by decide) (fun c_6 => ?_) (fun c_6 => ?_)
  · refine lv_aload_n hx hb d_MON_countChance_29 rfl (lv_at hl 0 rfl) ?_
    refine lv_dup hx hb d_MON_countChance_30 rfl ?_
    refine va_get (D := G.1) (ci := 4) (v := .int ch) (C := R_MON) (T := T_MON) (N := 6) hx hb hT in_MON hown hK hP 0 rfl rfl 3 (by decide) (hT _ wd_172) (fun _ h9 => h9) rfl d_MON_countChance_31 ?_
    refine lv_iconst (v := 1) hx hb d_MON_countChance_34 (by decide) ?_
    refine lv_iadd hx hb d_MON_countChance_35 ?_
    refine va_put (D := G.1) (ci := 4) (v := .int (ch + 1)) (ty := .int) (C := R_MON) (T := T_MON) (N := 6) hx hb hT in_MON t_MON tok_MON nok_MON hown hK hP hD hS 0 rfl rfl 3 (by decide) (hT _ wd_172) (fun _ h9 => h9) rfl (by decide +kernel) rfl rfl (Nat.le_of_ble_eq_true rfl) d_MON_countChance_36 (fun H locs hP hD hS => ?_)
    have hP : va_P G.1 vwCl [(h0, .inr (4, [.int kd, .int cd, .int ru, .int (ch + 1), .int he, .int te]))] H := hP
    have hD : va_D A [(h0, .inr (4, [.int kd, .int cd, .int ru, .int (ch + 1), .int he, .int te]))] := hD
    refine lv_iload_n hx hb d_MON_countChance_39 rfl (lv_at hl 1 rfl) ?_
    refine lv_if_eq (tgt := 53) hx hb d_MON_countChance_40 (by decide) (fun c_40 => ?_) (fun c_40 => ?_)
    · have hw9 : ([(h0, .inr (4, [.int kd, .int cd, .int (ccR ru ch tr), .int (ccC ch), .int he, .int te]))] : va_W) = [(h0, .inr (4, [.int kd, .int cd, .int ru, .int (ch + 1), .int he, .int te]))] := by first | (simp [ccR, ccC, c_6, c_40]; done) | (simp_all [ccR, ccC]; done)
      rw [← hw9] at hP hD
      exact W.vret hx hb hr (fun t ht hW => ⟨⟨rfl, by rw [ht]; exact hP, by rw [hAe]; exact hD⟩, by rw [hAe]; exact hS.F ht⟩) hS.2.2 d_MON_countChance_53
    · refine lv_aload_n hx hb d_MON_countChance_43 rfl (lv_at hl 0 rfl) ?_
      refine lv_dup hx hb d_MON_countChance_44 rfl ?_
      refine va_get (D := G.1) (ci := 4) (v := .int ru) (C := R_MON) (T := T_MON) (N := 6) hx hb hT in_MON hown hK hP 0 rfl rfl 2 (by decide) (hT _ wd_170) (fun _ h9 => h9) rfl d_MON_countChance_45 ?_
      refine lv_iconst (v := 1) hx hb d_MON_countChance_48 (by decide) ?_
      refine lv_iadd hx hb d_MON_countChance_49 ?_
      refine va_put (D := G.1) (ci := 4) (v := .int (ru + 1)) (ty := .int) (C := R_MON) (T := T_MON) (N := 6) hx hb hT in_MON t_MON tok_MON nok_MON hown hK hP hD hS 0 rfl rfl 2 (by decide) (hT _ wd_170) (fun _ h9 => h9) rfl (by decide +kernel) rfl rfl (Nat.le_of_ble_eq_true rfl) d_MON_countChance_50 (fun H locs hP hD hS => ?_)
      have hP : va_P G.1 vwCl [(h0, .inr (4, [.int kd, .int cd, .int (ru + 1), .int (ch + 1), .int he, .int te]))] H := hP
      have hD : va_D A [(h0, .inr (4, [.int kd, .int cd, .int (ru + 1), .int (ch + 1), .int he, .int te]))] := hD
      have hw9 : ([(h0, .inr (4, [.int kd, .int cd, .int (ccR ru ch tr), .int (ccC ch), .int he, .int te]))] : va_W) = [(h0, .inr (4, [.int kd, .int cd, .int (ru + 1), .int (ch + 1), .int he, .int te]))] := by first | (simp [ccR, ccC, c_6, c_40]; done) | (simp_all [ccR, ccC]; done)
      rw [← hw9] at hP hD
      exact W.vret hx hb hr (fun t ht hW => ⟨⟨rfl, by rw [ht]; exact hP, by rw [hAe]; exact hD⟩, by rw [hAe]; exact hS.F ht⟩) hS.2.2 d_MON_countChance_53
  · refine lv_aload_n hx hb d_MON_countChance_9 rfl (lv_at hl 0 rfl) ?_
    refine lv_dup hx hb d_MON_countChance_10 rfl ?_
    refine va_get (D := G.1) (ci := 4) (v := .int ru) (C := R_MON) (T := T_MON) (N := 6) hx hb hT in_MON hown hK hP 0 rfl rfl 2 (by decide) (hT _ wd_170) (fun _ h9 => h9) rfl d_MON_countChance_11 ?_
    refine lv_iconst (v := 2) hx hb d_MON_countChance_14 (by decide) ?_
    refine lv_idiv hx hb d_MON_countChance_15 (by decide) ?_
    refine va_put (D := G.1) (ci := 4) (v := .int (ru / 2)) (ty := .int) (C := R_MON) (T := T_MON) (N := 6) hx hb hT in_MON t_MON tok_MON nok_MON hown hK hP hD hS 0 rfl rfl 2 (by decide) (hT _ wd_170) (fun _ h9 => h9) rfl (by decide +kernel) rfl rfl (Nat.le_of_ble_eq_true rfl) d_MON_countChance_16 (fun H locs hP hD hS => ?_)
    have hP : va_P G.1 vwCl [(h0, .inr (4, [.int kd, .int cd, .int (ru / 2), .int ch, .int he, .int te]))] H := hP
    have hD : va_D A [(h0, .inr (4, [.int kd, .int cd, .int (ru / 2), .int ch, .int he, .int te]))] := hD
    refine lv_aload_n hx hb d_MON_countChance_19 rfl (lv_at hl 0 rfl) ?_
    refine lv_dup hx hb d_MON_countChance_20 rfl ?_
    refine va_get (D := G.1) (ci := 4) (v := .int ch) (C := R_MON) (T := T_MON) (N := 6) hx hb hT in_MON hown hK hP 0 rfl rfl 3 (by decide) (hT _ wd_172) (fun _ h9 => h9) rfl d_MON_countChance_21 ?_
    refine lv_iconst (v := 2) hx hb d_MON_countChance_24 (by decide) ?_
    refine lv_idiv hx hb d_MON_countChance_25 (by decide) ?_
    refine va_put (D := G.1) (ci := 4) (v := .int (ch / 2)) (ty := .int) (C := R_MON) (T := T_MON) (N := 6) hx hb hT in_MON t_MON tok_MON nok_MON hown hK hP hD hS 0 rfl rfl 3 (by decide) (hT _ wd_172) (fun _ h9 => h9) rfl (by decide +kernel) rfl rfl (Nat.le_of_ble_eq_true rfl) d_MON_countChance_26 (fun H locs hP hD hS => ?_)
    have hP : va_P G.1 vwCl [(h0, .inr (4, [.int kd, .int cd, .int (ru / 2), .int (ch / 2), .int he, .int te]))] H := hP
    have hD : va_D A [(h0, .inr (4, [.int kd, .int cd, .int (ru / 2), .int (ch / 2), .int he, .int te]))] := hD
    refine lv_aload_n hx hb d_MON_countChance_29 rfl (lv_at hl 0 rfl) ?_
    refine lv_dup hx hb d_MON_countChance_30 rfl ?_
    refine va_get (D := G.1) (ci := 4) (v := .int (ch / 2)) (C := R_MON) (T := T_MON) (N := 6) hx hb hT in_MON hown hK hP 0 rfl rfl 3 (by decide) (hT _ wd_172) (fun _ h9 => h9) rfl d_MON_countChance_31 ?_
    refine lv_iconst (v := 1) hx hb d_MON_countChance_34 (by decide) ?_
    refine lv_iadd hx hb d_MON_countChance_35 ?_
    refine va_put (D := G.1) (ci := 4) (v := .int ((ch / 2) + 1)) (ty := .int) (C := R_MON) (T := T_MON) (N := 6) hx hb hT in_MON t_MON tok_MON nok_MON hown hK hP hD hS 0 rfl rfl 3 (by decide) (hT _ wd_172) (fun _ h9 => h9) rfl (by decide +kernel) rfl rfl (Nat.le_of_ble_eq_true rfl) d_MON_countChance_36 (fun H locs hP hD hS => ?_)
    have hP : va_P G.1 vwCl [(h0, .inr (4, [.int kd, .int cd, .int (ru / 2), .int ((ch / 2) + 1), .int he, .int te]))] H := hP
    have hD : va_D A [(h0, .inr (4, [.int kd, .int cd, .int (ru / 2), .int ((ch / 2) + 1), .int he, .int te]))] := hD
    refine lv_iload_n hx hb d_MON_countChance_39 rfl (lv_at hl 1 rfl) ?_
    refine lv_if_eq (tgt := 53) hx hb d_MON_countChance_40 (by decide) (fun c_40 => ?_) (fun c_40 => ?_)
    · have hw9 : ([(h0, .inr (4, [.int kd, .int cd, .int (ccR ru ch tr), .int (ccC ch), .int he, .int te]))] : va_W) = [(h0, .inr (4, [.int kd, .int cd, .int (ru / 2), .int ((ch / 2) + 1), .int he, .int te]))] := by first | (simp [ccR, ccC, c_6, c_40]; done) | (simp_all [ccR, ccC]; done)
      rw [← hw9] at hP hD
      exact W.vret hx hb hr (fun t ht hW => ⟨⟨rfl, by rw [ht]; exact hP, by rw [hAe]; exact hD⟩, by rw [hAe]; exact hS.F ht⟩) hS.2.2 d_MON_countChance_53
    · refine lv_aload_n hx hb d_MON_countChance_43 rfl (lv_at hl 0 rfl) ?_
      refine lv_dup hx hb d_MON_countChance_44 rfl ?_
      refine va_get (D := G.1) (ci := 4) (v := .int (ru / 2)) (C := R_MON) (T := T_MON) (N := 6) hx hb hT in_MON hown hK hP 0 rfl rfl 2 (by decide) (hT _ wd_170) (fun _ h9 => h9) rfl d_MON_countChance_45 ?_
      refine lv_iconst (v := 1) hx hb d_MON_countChance_48 (by decide) ?_
      refine lv_iadd hx hb d_MON_countChance_49 ?_
      refine va_put (D := G.1) (ci := 4) (v := .int ((ru / 2) + 1)) (ty := .int) (C := R_MON) (T := T_MON) (N := 6) hx hb hT in_MON t_MON tok_MON nok_MON hown hK hP hD hS 0 rfl rfl 2 (by decide) (hT _ wd_170) (fun _ h9 => h9) rfl (by decide +kernel) rfl rfl (Nat.le_of_ble_eq_true rfl) d_MON_countChance_50 (fun H locs hP hD hS => ?_)
      have hP : va_P G.1 vwCl [(h0, .inr (4, [.int kd, .int cd, .int ((ru / 2) + 1), .int ((ch / 2) + 1), .int he, .int te]))] H := hP
      have hD : va_D A [(h0, .inr (4, [.int kd, .int cd, .int ((ru / 2) + 1), .int ((ch / 2) + 1), .int he, .int te]))] := hD
      have hw9 : ([(h0, .inr (4, [.int kd, .int cd, .int (ccR ru ch tr), .int (ccC ch), .int he, .int te]))] : va_W) = [(h0, .inr (4, [.int kd, .int cd, .int ((ru / 2) + 1), .int ((ch / 2) + 1), .int he, .int te]))] := by first | (simp [ccR, ccC, c_6, c_40]; done) | (simp_all [ccR, ccC]; done)
      rw [← hw9] at hP hD
      exact W.vret hx hb hr (fun t ht hW => ⟨⟨rfl, by rw [ht]; exact hP, by rw [hAe]; exact hD⟩, by rw [hAe]; exact hS.F ht⟩) hS.2.2 d_MON_countChance_53
set_option maxHeartbeats 4000000 in
set_option maxRecDepth 100000 in
theorem c_hasChance (l : Launch) (G : GG) (sz : Nat) (h0 : Nat) (kd : Int32) (cd : Int32) (ru : Int32) (ch : Int32) (he : Int32) (te : Int32) (cs : Int32)  : Met l y_MON_hasChance w_MON_hasChance ({ frames := 1, cells := 0, slots := 0, locals := 21 }) (va_Pc [.ref h0, .int cs] (Pw G sz [(h0, .inr (4, [.int kd, .int cd, .int ru, .int ch, .int he, .int te]))])) (QW G (some (.int (hcR kd cd he cs))) [(h0, .inr (4, [.int kd, .int cd, .int ru, .int ch, .int he, .int te]))] [(h0, .inr (4, [.int kd, .int cd, .int ru, .int ch, .int (hcH cd he cs), .int te]))] sz) 0 0 (va_A [(h0, .inr (4, [.int kd, .int cd, .int ru, .int ch, .int he, .int te]))] sz) := by
  refine Met.ofW (cc := b_MON_hasChance) (maxL := 3) (ret := (some .boolean)) (by decide) rfl ?_
  intro p e s m args below meth c s₁ B hml hv
  obtain ⟨rfl, hsz, hP, hGK, hD0⟩ := hv
  have hx := B.exec
  have hb := B.bytes
  have hr := B.returns
  have hts := atoms_spec (ws := w_MON_hasChance) B.pre
  have hT : ∀ w ∈ lwG, w.before _ s = true := fun w h => hts w (List.mem_cons_of_mem _ h)
  have hown : s.vm.findClass R_MON = some m.cls := findClass_of_methodNamed B.named
  have hlocks := B.notSynchronized
  have hK := hGK.1
  have hN := hGK.2
  subst hsz
  have hD := hD0.self (sz := s.heap.size)
  generalize hAe : va_A [(h0, .inr (4, [.int kd, .int cd, .int ru, .int ch, .int he, .int te]))] s.heap.size = A at hD ⊢
  have hA : ∀ q : Nat, s.heap.size ≤ q → A q := fun q h => by rw [← hAe]; exact Or.inr h
  have hS : va_S A s.heap s.heap [] := va_S.rf
  have hP : va_P G.1 vwCl [(h0, .inr (4, [.int kd, .int cd, .int ru, .int ch, .int he, .int te]))] s.heap := hP
  have hl := lv_entry ([.ref h0, .int cs]) (n := 3) (Nat.le_of_ble_eq_true rfl)
  rw [lg_entry_eq]
  generalize (lg_sl ([.ref h0, .int cs]) ++ List.replicate (3 - (lg_sl ([.ref h0, .int cs])).length) Slot.unset).toArray = ls at hl ⊢
  have hl : lv_has ls 3 [(0, .ref h0), (1, .int cs)] := hl
  refine lv_iload_n hx hb d_MON_hasChance_0 rfl (lv_at hl 1 rfl) ?_
  refine lv_aload_n hx hb d_MON_hasChance_1 rfl (lv_at hl 0 rfl) ?_
  refine va_get (D := G.1) (ci := 4) (v := .int cd) (C := R_MON) (T := T_MON) (N := 6) hx hb hT in_MON hown hK hP 0 rfl rfl 1 (by decide) (hT _ wd_169) (fun _ h9 => h9) rfl d_MON_hasChance_2 ?_
  refine bx_callV ((va_runSN (As := [.int cs, .int cd]) (rest := []) ⟨hx, hb, hml, hown, hts⟩ (c_isBitSet l G cs cd) ⟨(va_cnB 2 hts (gi_all wd_271) rfl rfl rfl (hN (.methodLinkNest "EmissionRows$Monitor" 39 ⟨"EmissionRows", "isBitSet", "(II)Z"⟩ "EmissionRows") nw_280) (hT _ wd_45) (by decide +kernel) ⟨Nat.le_of_ble_eq_true rfl, Nat.le_of_ble_eq_true rfl⟩), (hT _ wd_270), trivial⟩ (psR bx_nil hGK) rfl rfl hl.1 rfl (lv_room (Nat.le_of_ble_eq_true rfl)) d_MON_hasChance_5 ⟨Nat.le_of_ble_eq_true rfl, Nat.le_of_ble_eq_true rfl⟩)).run ?_
  refine lv_istore_n (lv' := [(2, .int (bitF cs cd)), (0, .ref h0), (1, .int cs)]) hx hb d_MON_hasChance_8 rfl hl (by decide) rfl (fun ls hl => ?_)
  refine lv_iload_n hx hb d_MON_hasChance_9 rfl (lv_at hl 0 rfl) ?_
  refine lv_if_eq (tgt := 23) hx hb d_MON_hasChance_10 (by decide) (fun c_10 => ?_) (fun c_10 => ?_)
  · refine lv_aload_n hx hb d_MON_hasChance_23 rfl (lv_at hl 1 rfl) ?_
    refine va_get (D := G.1) (ci := 4) (v := .int kd) (C := R_MON) (T := T_MON) (N := 6) hx hb hT in_MON hown hK hP 0 rfl rfl 0 (by decide) (hT _ wd_167) (fun _ h9 => h9) rfl d_MON_hasChance_24 ?_
    rcases Decidable.em (kd = 1) with c_27_1 | c_27_1
    · refine lv_tableIn (off := 25) (tgt := 52) hx hb d_MON_hasChance_27 (by rw [c_27_1]; decide) (by rw [c_27_1]; decide) (by rw [c_27_1]; decide) (by decide) ?_
      refine lv_iload_n hx hb d_MON_hasChance_52 rfl (lv_at hl 0 rfl) ?_
      refine lv_if_eq (tgt := 76) hx hb d_MON_hasChance_53 (by decide) (fun c_53 => ?_) (fun c_53 => ?_)
      · refine lv_iconst (v := 0) hx hb d_MON_hasChance_76 (by decide) ?_
        have hw9 : ([(h0, .inr (4, [.int kd, .int cd, .int ru, .int ch, .int (hcH cd he cs), .int te]))] : va_W) = [(h0, .inr (4, [.int kd, .int cd, .int ru, .int ch, .int he, .int te]))] := by first | (simp [hcR, hcH, c_10, c_27_1, c_53]; done) | (simp_all [hcR, hcH]; done)
        rw [← hw9] at hP hD
        have hq9 : (.int (hcR kd cd he cs)) = (.int 0 : Value) := by first | (simp [hcR, hcH, c_10, c_27_1, c_53]; done) | (simp_all [hcR, hcH]; done)
        exact W.zret (v := 0) hx hb hr rfl (fun t ht hW => ⟨⟨by rw [hq9], by rw [ht]; exact hP, by rw [hAe]; exact hD⟩, by rw [hAe]; exact hS.F ht⟩) hS.2.2 d_MON_hasChance_77
      · refine lv_iload_n hx hb d_MON_hasChance_56 rfl (lv_at hl 2 rfl) ?_
        refine lv_aload_n hx hb d_MON_hasChance_57 rfl (lv_at hl 1 rfl) ?_
        refine va_get (D := G.1) (ci := 4) (v := .int cd) (C := R_MON) (T := T_MON) (N := 6) hx hb hT in_MON hown hK hP 0 rfl rfl 1 (by decide) (hT _ wd_169) (fun _ h9 => h9) rfl d_MON_hasChance_58 ?_
        refine lv_iconst (v := 1) hx hb d_MON_hasChance_61 (by decide) ?_
        refine lv_iadd hx hb d_MON_hasChance_62 ?_
        refine lv_bipush (v := 8) hx hb d_MON_hasChance_63 (by decide) ?_
        refine lv_irem hx hb d_MON_hasChance_65 (by decide) ?_
        refine bx_callV ((va_runSN (As := [.int cs, .int ((cd + 1) - (cd + 1) / 8 * 8)]) (rest := []) ⟨hx, hb, hml, hown, hts⟩ (c_isBitSet l G cs ((cd + 1) - (cd + 1) / 8 * 8)) ⟨(va_cnB 2 hts (gi_all wd_271) rfl rfl rfl (hN (.methodLinkNest "EmissionRows$Monitor" 39 ⟨"EmissionRows", "isBitSet", "(II)Z"⟩ "EmissionRows") nw_280) (hT _ wd_45) (by decide +kernel) ⟨Nat.le_of_ble_eq_true rfl, Nat.le_of_ble_eq_true rfl⟩), (hT _ wd_270), trivial⟩ (psR bx_nil hGK) rfl rfl hl.1 rfl (lv_room (Nat.le_of_ble_eq_true rfl)) d_MON_hasChance_66 ⟨Nat.le_of_ble_eq_true rfl, Nat.le_of_ble_eq_true rfl⟩)).run ?_
        refine lv_if_eq (tgt := 76) hx hb d_MON_hasChance_69 (by decide) (fun c_69 => ?_) (fun c_69 => ?_)
        · refine lv_iconst (v := 0) hx hb d_MON_hasChance_76 (by decide) ?_
          have hw9 : ([(h0, .inr (4, [.int kd, .int cd, .int ru, .int ch, .int (hcH cd he cs), .int te]))] : va_W) = [(h0, .inr (4, [.int kd, .int cd, .int ru, .int ch, .int he, .int te]))] := by first | (simp [hcR, hcH, c_10, c_27_1, c_53, c_69]; done) | (simp_all [hcR, hcH]; done)
          rw [← hw9] at hP hD
          have hq9 : (.int (hcR kd cd he cs)) = (.int 0 : Value) := by first | (simp [hcR, hcH, c_10, c_27_1, c_53, c_69]; done) | (simp_all [hcR, hcH]; done)
          exact W.zret (v := 0) hx hb hr rfl (fun t ht hW => ⟨⟨by rw [hq9], by rw [ht]; exact hP, by rw [hAe]; exact hD⟩, by rw [hAe]; exact hS.F ht⟩) hS.2.2 d_MON_hasChance_77
        · refine lv_iconst (v := 1) hx hb d_MON_hasChance_72 (by decide) ?_
          refine lv_goto (tgt := 77) hx hb d_MON_hasChance_73 (by decide) ?_
          have hw9 : ([(h0, .inr (4, [.int kd, .int cd, .int ru, .int ch, .int (hcH cd he cs), .int te]))] : va_W) = [(h0, .inr (4, [.int kd, .int cd, .int ru, .int ch, .int he, .int te]))] := by first | (simp [hcR, hcH, c_10, c_27_1, c_53, c_69]; done) | (simp_all [hcR, hcH]; done)
          rw [← hw9] at hP hD
          have hq9 : (.int (hcR kd cd he cs)) = (.int 1 : Value) := by first | (simp [hcR, hcH, c_10, c_27_1, c_53, c_69]; done) | (simp_all [hcR, hcH]; done)
          exact W.zret (v := 1) hx hb hr rfl (fun t ht hW => ⟨⟨by rw [hq9], by rw [ht]; exact hP, by rw [hAe]; exact hD⟩, by rw [hAe]; exact hS.F ht⟩) hS.2.2 d_MON_hasChance_77
    rcases Decidable.em (kd = 2) with c_27_2 | c_27_2
    · refine lv_tableIn (off := 51) (tgt := 78) hx hb d_MON_hasChance_27 (by rw [c_27_2]; decide) (by rw [c_27_2]; decide) (by rw [c_27_2]; decide) (by decide) ?_
      refine lv_iload_n hx hb d_MON_hasChance_78 rfl (lv_at hl 0 rfl) ?_
      refine lv_if_eq (tgt := 95) hx hb d_MON_hasChance_79 (by decide) (fun c_79 => ?_) (fun c_79 => ?_)
      · refine lv_iconst (v := 0) hx hb d_MON_hasChance_95 (by decide) ?_
        have hw9 : ([(h0, .inr (4, [.int kd, .int cd, .int ru, .int ch, .int (hcH cd he cs), .int te]))] : va_W) = [(h0, .inr (4, [.int kd, .int cd, .int ru, .int ch, .int he, .int te]))] := by first | (simp [hcR, hcH, c_10, c_27_1, c_27_2, c_79]; done) | (simp_all [hcR, hcH]; done)
        rw [← hw9] at hP hD
        have hq9 : (.int (hcR kd cd he cs)) = (.int 0 : Value) := by first | (simp [hcR, hcH, c_10, c_27_1, c_27_2, c_79]; done) | (simp_all [hcR, hcH]; done)
        exact W.zret (v := 0) hx hb hr rfl (fun t ht hW => ⟨⟨by rw [hq9], by rw [ht]; exact hP, by rw [hAe]; exact hD⟩, by rw [hAe]; exact hS.F ht⟩) hS.2.2 d_MON_hasChance_96
      · refine lv_aload_n hx hb d_MON_hasChance_82 rfl (lv_at hl 1 rfl) ?_
        refine va_get (D := G.1) (ci := 4) (v := .int he) (C := R_MON) (T := T_MON) (N := 6) hx hb hT in_MON hown hK hP 0 rfl rfl 4 (by decide) (hT _ wd_174) (fun _ h9 => h9) rfl d_MON_hasChance_83 ?_
        refine lv_iconst (v := 2) hx hb d_MON_hasChance_86 (by decide) ?_
        refine lv_irem hx hb d_MON_hasChance_87 (by decide) ?_
        refine lv_if_ne (tgt := 95) hx hb d_MON_hasChance_88 (by decide) (fun c_88 => ?_) (fun c_88 => ?_)
        · refine lv_iconst (v := 0) hx hb d_MON_hasChance_95 (by decide) ?_
          have hw9 : ([(h0, .inr (4, [.int kd, .int cd, .int ru, .int ch, .int (hcH cd he cs), .int te]))] : va_W) = [(h0, .inr (4, [.int kd, .int cd, .int ru, .int ch, .int he, .int te]))] := by first | (simp [hcR, hcH, c_10, c_27_1, c_27_2, c_79, c_88]; done) | (simp_all [hcR, hcH]; done)
          rw [← hw9] at hP hD
          have hq9 : (.int (hcR kd cd he cs)) = (.int 0 : Value) := by first | (simp [hcR, hcH, c_10, c_27_1, c_27_2, c_79, c_88]; done) | (simp_all [hcR, hcH]; done)
          exact W.zret (v := 0) hx hb hr rfl (fun t ht hW => ⟨⟨by rw [hq9], by rw [ht]; exact hP, by rw [hAe]; exact hD⟩, by rw [hAe]; exact hS.F ht⟩) hS.2.2 d_MON_hasChance_96
        · refine lv_iconst (v := 1) hx hb d_MON_hasChance_91 (by decide) ?_
          refine lv_goto (tgt := 96) hx hb d_MON_hasChance_92 (by decide) ?_
          have hw9 : ([(h0, .inr (4, [.int kd, .int cd, .int ru, .int ch, .int (hcH cd he cs), .int te]))] : va_W) = [(h0, .inr (4, [.int kd, .int cd, .int ru, .int ch, .int he, .int te]))] := by first | (simp [hcR, hcH, c_10, c_27_1, c_27_2, c_79, c_88]; done) | (simp_all [hcR, hcH]; done)
          rw [← hw9] at hP hD
          have hq9 : (.int (hcR kd cd he cs)) = (.int 1 : Value) := by first | (simp [hcR, hcH, c_10, c_27_1, c_27_2, c_79, c_88]; done) | (simp_all [hcR, hcH]; done)
          exact W.zret (v := 1) hx hb hr rfl (fun t ht hW => ⟨⟨by rw [hq9], by rw [ht]; exact hP, by rw [hAe]; exact hD⟩, by rw [hAe]; exact hS.F ht⟩) hS.2.2 d_MON_hasChance_96
    rcases Decidable.em (kd = 3) with c_27_3 | c_27_3
    · refine lv_tableIn (off := 70) (tgt := 97) hx hb d_MON_hasChance_27 (by rw [c_27_3]; decide) (by rw [c_27_3]; decide) (by rw [c_27_3]; decide) (by decide) ?_
      refine lv_iload_n hx hb d_MON_hasChance_97 rfl (lv_at hl 0 rfl) ?_
      refine lv_if_ne (tgt := 105) hx hb d_MON_hasChance_98 (by decide) (fun c_98 => ?_) (fun c_98 => ?_)
      · refine lv_iconst (v := 0) hx hb d_MON_hasChance_105 (by decide) ?_
        have hw9 : ([(h0, .inr (4, [.int kd, .int cd, .int ru, .int ch, .int (hcH cd he cs), .int te]))] : va_W) = [(h0, .inr (4, [.int kd, .int cd, .int ru, .int ch, .int he, .int te]))] := by first | (simp [hcR, hcH, c_10, c_27_1, c_27_2, c_27_3, c_98]; done) | (simp_all [hcR, hcH]; done)
        rw [← hw9] at hP hD
        have hq9 : (.int (hcR kd cd he cs)) = (.int 0 : Value) := by first | (simp [hcR, hcH, c_10, c_27_1, c_27_2, c_27_3, c_98]; done) | (simp_all [hcR, hcH]; done)
        exact W.zret (v := 0) hx hb hr rfl (fun t ht hW => ⟨⟨by rw [hq9], by rw [ht]; exact hP, by rw [hAe]; exact hD⟩, by rw [hAe]; exact hS.F ht⟩) hS.2.2 d_MON_hasChance_106
      · refine lv_iconst (v := 1) hx hb d_MON_hasChance_101 (by decide) ?_
        refine lv_goto (tgt := 106) hx hb d_MON_hasChance_102 (by decide) ?_
        have hw9 : ([(h0, .inr (4, [.int kd, .int cd, .int ru, .int ch, .int (hcH cd he cs), .int te]))] : va_W) = [(h0, .inr (4, [.int kd, .int cd, .int ru, .int ch, .int he, .int te]))] := by first | (simp [hcR, hcH, c_10, c_27_1, c_27_2, c_27_3, c_98]; done) | (simp_all [hcR, hcH]; done)
        rw [← hw9] at hP hD
        have hq9 : (.int (hcR kd cd he cs)) = (.int 1 : Value) := by first | (simp [hcR, hcH, c_10, c_27_1, c_27_2, c_27_3, c_98]; done) | (simp_all [hcR, hcH]; done)
        exact W.zret (v := 1) hx hb hr rfl (fun t ht hW => ⟨⟨by rw [hq9], by rw [ht]; exact hP, by rw [hAe]; exact hD⟩, by rw [hAe]; exact hS.F ht⟩) hS.2.2 d_MON_hasChance_106
    have hsw : kd.toInt < 1 ∨ 3 < kd.toInt := by
      have nc_27_1 := lv_neT (a := 1) c_27_1 (by decide)
      have nc_27_2 := lv_neT (a := 2) c_27_2 (by decide)
      have nc_27_3 := lv_neT (a := 3) c_27_3 (by decide)
      omega
    refine lv_tableOut (tgt := 107) hx hb d_MON_hasChance_27 hsw (by decide) ?_
    refine lv_iload_n hx hb d_MON_hasChance_107 rfl (lv_at hl 0 rfl) ?_
    have hw9 : ([(h0, .inr (4, [.int kd, .int cd, .int ru, .int ch, .int (hcH cd he cs), .int te]))] : va_W) = [(h0, .inr (4, [.int kd, .int cd, .int ru, .int ch, .int he, .int te]))] := by first | (simp [hcR, hcH, c_10, c_27_1, c_27_2, c_27_3]; done) | (simp_all [hcR, hcH]; done)
    rw [← hw9] at hP hD
    have hq9 : (.int (hcR kd cd he cs)) = (.int (bitF cs cd) : Value) := by first | (simp [hcR, hcH, c_10, c_27_1, c_27_2, c_27_3]; done) | (simp_all [hcR, hcH]; done)
    exact W.zret (v := bitF cs cd) hx hb hr (bitF_bz _ _).n (fun t ht hW => ⟨⟨by rw [hq9], by rw [ht]; exact hP, by rw [hAe]; exact hD⟩, by rw [hAe]; exact hS.F ht⟩) hS.2.2 d_MON_hasChance_108
  · refine lv_aload_n hx hb d_MON_hasChance_13 rfl (lv_at hl 1 rfl) ?_
    refine lv_dup hx hb d_MON_hasChance_14 rfl ?_
    refine va_get (D := G.1) (ci := 4) (v := .int he) (C := R_MON) (T := T_MON) (N := 6) hx hb hT in_MON hown hK hP 0 rfl rfl 4 (by decide) (hT _ wd_174) (fun _ h9 => h9) rfl d_MON_hasChance_15 ?_
    refine lv_iconst (v := 1) hx hb d_MON_hasChance_18 (by decide) ?_
    refine lv_iadd hx hb d_MON_hasChance_19 ?_
    refine va_put (D := G.1) (ci := 4) (v := .int (he + 1)) (ty := .int) (C := R_MON) (T := T_MON) (N := 6) hx hb hT in_MON t_MON tok_MON nok_MON hown hK hP hD hS 0 rfl rfl 4 (by decide) (hT _ wd_174) (fun _ h9 => h9) rfl (by decide +kernel) rfl rfl (Nat.le_of_ble_eq_true rfl) d_MON_hasChance_20 (fun H locs hP hD hS => ?_)
    have hP : va_P G.1 vwCl [(h0, .inr (4, [.int kd, .int cd, .int ru, .int ch, .int (he + 1), .int te]))] H := hP
    have hD : va_D A [(h0, .inr (4, [.int kd, .int cd, .int ru, .int ch, .int (he + 1), .int te]))] := hD
    refine lv_aload_n hx hb d_MON_hasChance_23 rfl (lv_at hl 1 rfl) ?_
    refine va_get (D := G.1) (ci := 4) (v := .int kd) (C := R_MON) (T := T_MON) (N := 6) hx hb hT in_MON hown hK hP 0 rfl rfl 0 (by decide) (hT _ wd_167) (fun _ h9 => h9) rfl d_MON_hasChance_24 ?_
    rcases Decidable.em (kd = 1) with c_27_1 | c_27_1
    · refine lv_tableIn (off := 25) (tgt := 52) hx hb d_MON_hasChance_27 (by rw [c_27_1]; decide) (by rw [c_27_1]; decide) (by rw [c_27_1]; decide) (by decide) ?_
      refine lv_iload_n hx hb d_MON_hasChance_52 rfl (lv_at hl 0 rfl) ?_
      refine lv_if_eq (tgt := 76) hx hb d_MON_hasChance_53 (by decide) (fun c_53 => ?_) (fun c_53 => ?_)
      · refine lv_iconst (v := 0) hx hb d_MON_hasChance_76 (by decide) ?_
        have hw9 : ([(h0, .inr (4, [.int kd, .int cd, .int ru, .int ch, .int (hcH cd he cs), .int te]))] : va_W) = [(h0, .inr (4, [.int kd, .int cd, .int ru, .int ch, .int (he + 1), .int te]))] := by first | (simp [hcR, hcH, c_10, c_27_1, c_53]; done) | (simp_all [hcR, hcH]; done)
        rw [← hw9] at hP hD
        have hq9 : (.int (hcR kd cd he cs)) = (.int 0 : Value) := by first | (simp [hcR, hcH, c_10, c_27_1, c_53]; done) | (simp_all [hcR, hcH]; done)
        exact W.zret (v := 0) hx hb hr rfl (fun t ht hW => ⟨⟨by rw [hq9], by rw [ht]; exact hP, by rw [hAe]; exact hD⟩, by rw [hAe]; exact hS.F ht⟩) hS.2.2 d_MON_hasChance_77
      · refine lv_iload_n hx hb d_MON_hasChance_56 rfl (lv_at hl 2 rfl) ?_
        refine lv_aload_n hx hb d_MON_hasChance_57 rfl (lv_at hl 1 rfl) ?_
        refine va_get (D := G.1) (ci := 4) (v := .int cd) (C := R_MON) (T := T_MON) (N := 6) hx hb hT in_MON hown hK hP 0 rfl rfl 1 (by decide) (hT _ wd_169) (fun _ h9 => h9) rfl d_MON_hasChance_58 ?_
        refine lv_iconst (v := 1) hx hb d_MON_hasChance_61 (by decide) ?_
        refine lv_iadd hx hb d_MON_hasChance_62 ?_
        refine lv_bipush (v := 8) hx hb d_MON_hasChance_63 (by decide) ?_
        refine lv_irem hx hb d_MON_hasChance_65 (by decide) ?_
        refine bx_callV ((va_runSN (As := [.int cs, .int ((cd + 1) - (cd + 1) / 8 * 8)]) (rest := []) ⟨hx, hb, hml, hown, hts⟩ (c_isBitSet l G cs ((cd + 1) - (cd + 1) / 8 * 8)) ⟨(va_cnB 2 hts (gi_all wd_271) rfl rfl rfl (hN (.methodLinkNest "EmissionRows$Monitor" 39 ⟨"EmissionRows", "isBitSet", "(II)Z"⟩ "EmissionRows") nw_280) (hT _ wd_45) (by decide +kernel) ⟨Nat.le_of_ble_eq_true rfl, Nat.le_of_ble_eq_true rfl⟩), (hT _ wd_270), trivial⟩ (psR bx_nil hGK) rfl rfl hl.1 rfl (lv_room (Nat.le_of_ble_eq_true rfl)) d_MON_hasChance_66 ⟨Nat.le_of_ble_eq_true rfl, Nat.le_of_ble_eq_true rfl⟩)).run ?_
        refine lv_if_eq (tgt := 76) hx hb d_MON_hasChance_69 (by decide) (fun c_69 => ?_) (fun c_69 => ?_)
        · refine lv_iconst (v := 0) hx hb d_MON_hasChance_76 (by decide) ?_
          have hw9 : ([(h0, .inr (4, [.int kd, .int cd, .int ru, .int ch, .int (hcH cd he cs), .int te]))] : va_W) = [(h0, .inr (4, [.int kd, .int cd, .int ru, .int ch, .int (he + 1), .int te]))] := by first | (simp [hcR, hcH, c_10, c_27_1, c_53, c_69]; done) | (simp_all [hcR, hcH]; done)
          rw [← hw9] at hP hD
          have hq9 : (.int (hcR kd cd he cs)) = (.int 0 : Value) := by first | (simp [hcR, hcH, c_10, c_27_1, c_53, c_69]; done) | (simp_all [hcR, hcH]; done)
          exact W.zret (v := 0) hx hb hr rfl (fun t ht hW => ⟨⟨by rw [hq9], by rw [ht]; exact hP, by rw [hAe]; exact hD⟩, by rw [hAe]; exact hS.F ht⟩) hS.2.2 d_MON_hasChance_77
        · refine lv_iconst (v := 1) hx hb d_MON_hasChance_72 (by decide) ?_
          refine lv_goto (tgt := 77) hx hb d_MON_hasChance_73 (by decide) ?_
          have hw9 : ([(h0, .inr (4, [.int kd, .int cd, .int ru, .int ch, .int (hcH cd he cs), .int te]))] : va_W) = [(h0, .inr (4, [.int kd, .int cd, .int ru, .int ch, .int (he + 1), .int te]))] := by first | (simp [hcR, hcH, c_10, c_27_1, c_53, c_69]; done) | (simp_all [hcR, hcH]; done)
          rw [← hw9] at hP hD
          have hq9 : (.int (hcR kd cd he cs)) = (.int 1 : Value) := by first | (simp [hcR, hcH, c_10, c_27_1, c_53, c_69]; done) | (simp_all [hcR, hcH]; done)
          exact W.zret (v := 1) hx hb hr rfl (fun t ht hW => ⟨⟨by rw [hq9], by rw [ht]; exact hP, by rw [hAe]; exact hD⟩, by rw [hAe]; exact hS.F ht⟩) hS.2.2 d_MON_hasChance_77
    rcases Decidable.em (kd = 2) with c_27_2 | c_27_2
    · refine lv_tableIn (off := 51) (tgt := 78) hx hb d_MON_hasChance_27 (by rw [c_27_2]; decide) (by rw [c_27_2]; decide) (by rw [c_27_2]; decide) (by decide) ?_
      refine lv_iload_n hx hb d_MON_hasChance_78 rfl (lv_at hl 0 rfl) ?_
      refine lv_if_eq (tgt := 95) hx hb d_MON_hasChance_79 (by decide) (fun c_79 => ?_) (fun c_79 => ?_)
      · refine lv_iconst (v := 0) hx hb d_MON_hasChance_95 (by decide) ?_
        have hw9 : ([(h0, .inr (4, [.int kd, .int cd, .int ru, .int ch, .int (hcH cd he cs), .int te]))] : va_W) = [(h0, .inr (4, [.int kd, .int cd, .int ru, .int ch, .int (he + 1), .int te]))] := by first | (simp [hcR, hcH, c_10, c_27_1, c_27_2, c_79]; done) | (simp_all [hcR, hcH]; done)
        rw [← hw9] at hP hD
        have hq9 : (.int (hcR kd cd he cs)) = (.int 0 : Value) := by first | (simp [hcR, hcH, c_10, c_27_1, c_27_2, c_79]; done) | (simp_all [hcR, hcH]; done)
        exact W.zret (v := 0) hx hb hr rfl (fun t ht hW => ⟨⟨by rw [hq9], by rw [ht]; exact hP, by rw [hAe]; exact hD⟩, by rw [hAe]; exact hS.F ht⟩) hS.2.2 d_MON_hasChance_96
      · refine lv_aload_n hx hb d_MON_hasChance_82 rfl (lv_at hl 1 rfl) ?_
        refine va_get (D := G.1) (ci := 4) (v := .int (he + 1)) (C := R_MON) (T := T_MON) (N := 6) hx hb hT in_MON hown hK hP 0 rfl rfl 4 (by decide) (hT _ wd_174) (fun _ h9 => h9) rfl d_MON_hasChance_83 ?_
        refine lv_iconst (v := 2) hx hb d_MON_hasChance_86 (by decide) ?_
        refine lv_irem hx hb d_MON_hasChance_87 (by decide) ?_
        refine lv_if_ne (tgt := 95) hx hb d_MON_hasChance_88 (by decide) (fun c_88 => ?_) (fun c_88 => ?_)
        · refine lv_iconst (v := 0) hx hb d_MON_hasChance_95 (by decide) ?_
          have hw9 : ([(h0, .inr (4, [.int kd, .int cd, .int ru, .int ch, .int (hcH cd he cs), .int te]))] : va_W) = [(h0, .inr (4, [.int kd, .int cd, .int ru, .int ch, .int (he + 1), .int te]))] := by first | (simp [hcR, hcH, c_10, c_27_1, c_27_2, c_79, c_88]; done) | (simp_all [hcR, hcH]; done)
          rw [← hw9] at hP hD
          have hq9 : (.int (hcR kd cd he cs)) = (.int 0 : Value) := by first | (simp [hcR, hcH, c_10, c_27_1, c_27_2, c_79, c_88]; done) | (simp_all [hcR, hcH]; done)
          exact W.zret (v := 0) hx hb hr rfl (fun t ht hW => ⟨⟨by rw [hq9], by rw [ht]; exact hP, by rw [hAe]; exact hD⟩, by rw [hAe]; exact hS.F ht⟩) hS.2.2 d_MON_hasChance_96
        · refine lv_iconst (v := 1) hx hb d_MON_hasChance_91 (by decide) ?_
          refine lv_goto (tgt := 96) hx hb d_MON_hasChance_92 (by decide) ?_
          have hw9 : ([(h0, .inr (4, [.int kd, .int cd, .int ru, .int ch, .int (hcH cd he cs), .int te]))] : va_W) = [(h0, .inr (4, [.int kd, .int cd, .int ru, .int ch, .int (he + 1), .int te]))] := by first | (simp [hcR, hcH, c_10, c_27_1, c_27_2, c_79, c_88]; done) | (simp_all [hcR, hcH]; done)
          rw [← hw9] at hP hD
          have hq9 : (.int (hcR kd cd he cs)) = (.int 1 : Value) := by first | (simp [hcR, hcH, c_10, c_27_1, c_27_2, c_79, c_88]; done) | (simp_all [hcR, hcH]; done)
          exact W.zret (v := 1) hx hb hr rfl (fun t ht hW => ⟨⟨by rw [hq9], by rw [ht]; exact hP, by rw [hAe]; exact hD⟩, by rw [hAe]; exact hS.F ht⟩) hS.2.2 d_MON_hasChance_96
    rcases Decidable.em (kd = 3) with c_27_3 | c_27_3
    · refine lv_tableIn (off := 70) (tgt := 97) hx hb d_MON_hasChance_27 (by rw [c_27_3]; decide) (by rw [c_27_3]; decide) (by rw [c_27_3]; decide) (by decide) ?_
      refine lv_iload_n hx hb d_MON_hasChance_97 rfl (lv_at hl 0 rfl) ?_
      refine lv_if_ne (tgt := 105) hx hb d_MON_hasChance_98 (by decide) (fun c_98 => ?_) (fun c_98 => ?_)
      · refine lv_iconst (v := 0) hx hb d_MON_hasChance_105 (by decide) ?_
        have hw9 : ([(h0, .inr (4, [.int kd, .int cd, .int ru, .int ch, .int (hcH cd he cs), .int te]))] : va_W) = [(h0, .inr (4, [.int kd, .int cd, .int ru, .int ch, .int (he + 1), .int te]))] := by first | (simp [hcR, hcH, c_10, c_27_1, c_27_2, c_27_3, c_98]; done) | (simp_all [hcR, hcH]; done)
        rw [← hw9] at hP hD
        have hq9 : (.int (hcR kd cd he cs)) = (.int 0 : Value) := by first | (simp [hcR, hcH, c_10, c_27_1, c_27_2, c_27_3, c_98]; done) | (simp_all [hcR, hcH]; done)
        exact W.zret (v := 0) hx hb hr rfl (fun t ht hW => ⟨⟨by rw [hq9], by rw [ht]; exact hP, by rw [hAe]; exact hD⟩, by rw [hAe]; exact hS.F ht⟩) hS.2.2 d_MON_hasChance_106
      · refine lv_iconst (v := 1) hx hb d_MON_hasChance_101 (by decide) ?_
        refine lv_goto (tgt := 106) hx hb d_MON_hasChance_102 (by decide) ?_
        have hw9 : ([(h0, .inr (4, [.int kd, .int cd, .int ru, .int ch, .int (hcH cd he cs), .int te]))] : va_W) = [(h0, .inr (4, [.int kd, .int cd, .int ru, .int ch, .int (he + 1), .int te]))] := by first | (simp [hcR, hcH, c_10, c_27_1, c_27_2, c_27_3, c_98]; done) | (simp_all [hcR, hcH]; done)
        rw [← hw9] at hP hD
        have hq9 : (.int (hcR kd cd he cs)) = (.int 1 : Value) := by first | (simp [hcR, hcH, c_10, c_27_1, c_27_2, c_27_3, c_98]; done) | (simp_all [hcR, hcH]; done)
        exact W.zret (v := 1) hx hb hr rfl (fun t ht hW => ⟨⟨by rw [hq9], by rw [ht]; exact hP, by rw [hAe]; exact hD⟩, by rw [hAe]; exact hS.F ht⟩) hS.2.2 d_MON_hasChance_106
    have hsw : kd.toInt < 1 ∨ 3 < kd.toInt := by
      have nc_27_1 := lv_neT (a := 1) c_27_1 (by decide)
      have nc_27_2 := lv_neT (a := 2) c_27_2 (by decide)
      have nc_27_3 := lv_neT (a := 3) c_27_3 (by decide)
      omega
    refine lv_tableOut (tgt := 107) hx hb d_MON_hasChance_27 hsw (by decide) ?_
    refine lv_iload_n hx hb d_MON_hasChance_107 rfl (lv_at hl 0 rfl) ?_
    have hw9 : ([(h0, .inr (4, [.int kd, .int cd, .int ru, .int ch, .int (hcH cd he cs), .int te]))] : va_W) = [(h0, .inr (4, [.int kd, .int cd, .int ru, .int ch, .int (he + 1), .int te]))] := by first | (simp [hcR, hcH, c_10, c_27_1, c_27_2, c_27_3]; done) | (simp_all [hcR, hcH]; done)
    rw [← hw9] at hP hD
    have hq9 : (.int (hcR kd cd he cs)) = (.int (bitF cs cd) : Value) := by first | (simp [hcR, hcH, c_10, c_27_1, c_27_2, c_27_3]; done) | (simp_all [hcR, hcH]; done)
    exact W.zret (v := bitF cs cd) hx hb hr (bitF_bz _ _).n (fun t ht hW => ⟨⟨by rw [hq9], by rw [ht]; exact hP, by rw [hAe]; exact hD⟩, by rw [hAe]; exact hS.F ht⟩) hS.2.2 d_MON_hasChance_108
set_option maxHeartbeats 4000000 in
set_option maxRecDepth 100000 in
theorem c_endCycle (l : Launch) (G : GG) (sz : Nat) (h0 : Nat) (kd : Int32) (cd : Int32) (ru : Int32) (ch : Int32) (he : Int32) (te : Int32) (cs : Int32) (tr : Int32)  : Met l y_MON_endCycle w_MON_endCycle ({ frames := 2, cells := 0, slots := 0, locals := 43 }) (va_Pc [.ref h0, .int cs, .int tr] (Pw G sz [(h0, .inr (4, [.int kd, .int cd, .int ru, .int ch, .int he, .int te]))])) (QW G (some (.int (hcR kd cd he cs))) [(h0, .inr (4, [.int kd, .int cd, .int ru, .int ch, .int he, .int te]))] [(h0, .inr (4, [.int kd, .int cd, .int (ecR kd cd ru ch he cs tr), .int (ecC kd cd ch he cs), .int (hcH cd he cs), .int (ecT te tr)]))] sz) 0 0 (va_A [(h0, .inr (4, [.int kd, .int cd, .int ru, .int ch, .int he, .int te]))] sz) := by
  refine Met.ofW (cc := b_MON_endCycle) (maxL := 4) (ret := (some .boolean)) (by decide) rfl ?_
  intro p e s m args below meth c s₁ B hml hv
  obtain ⟨rfl, hsz, hP, hGK, hD0⟩ := hv
  have hx := B.exec
  have hb := B.bytes
  have hr := B.returns
  have hts := atoms_spec (ws := w_MON_endCycle) B.pre
  have hT : ∀ w ∈ lwG, w.before _ s = true := fun w h => hts w (List.mem_cons_of_mem _ h)
  have hown : s.vm.findClass R_MON = some m.cls := findClass_of_methodNamed B.named
  have hlocks := B.notSynchronized
  have hK := hGK.1
  have hN := hGK.2
  subst hsz
  have hD := hD0.self (sz := s.heap.size)
  generalize hAe : va_A [(h0, .inr (4, [.int kd, .int cd, .int ru, .int ch, .int he, .int te]))] s.heap.size = A at hD ⊢
  have hA : ∀ q : Nat, s.heap.size ≤ q → A q := fun q h => by rw [← hAe]; exact Or.inr h
  have hS : va_S A s.heap s.heap [] := va_S.rf
  have hP : va_P G.1 vwCl [(h0, .inr (4, [.int kd, .int cd, .int ru, .int ch, .int he, .int te]))] s.heap := hP
  have hl := lv_entry ([.ref h0, .int cs, .int tr]) (n := 4) (Nat.le_of_ble_eq_true rfl)
  rw [lg_entry_eq]
  generalize (lg_sl ([.ref h0, .int cs, .int tr]) ++ List.replicate (4 - (lg_sl ([.ref h0, .int cs, .int tr])).length) Slot.unset).toArray = ls at hl ⊢
  have hl : lv_has ls 4 [(0, .ref h0), (1, .int cs), (2, .int tr)] := hl
  refine lv_aload_n hx hb d_MON_endCycle_0 rfl (lv_at hl 0 rfl) ?_
  refine lv_iload_n hx hb d_MON_endCycle_1 rfl (lv_at hl 1 rfl) ?_
  have hPc := hP.sub (ws' := [(h0, .inr (4, [.int kd, .int cd, .int ru, .int ch, .int he, .int te]))]) [0] rfl
  have hDc := hD.sub (ws' := [(h0, .inr (4, [.int kd, .int cd, .int ru, .int ch, .int he, .int te]))]) [0] (by decide) rfl
  refine bx_callKr [0] (va_runV (As := [.int cs]) (rest := []) ⟨hx, hb, hml, hown, hts⟩ (c_hasChance l G s.heap.size h0 kd cd ru ch he te cs) ⟨(callB_of 1 hts (gi_all wd_279) rfl rfl rfl (hT _ wd_52) (hT _ wd_276) (by decide +kernel) ⟨Nat.le_of_ble_eq_true rfl, Nat.le_of_ble_eq_true rfl⟩), (hT _ wd_278), (hT _ wd_5)⟩ (pvW hPc hGK hDc (va_recv hK hPc (ci := 4) (q0 := 0) rfl rfl)) rfl rfl hl.1 rfl (lv_room (Nat.le_of_ble_eq_true rfl)) d_MON_endCycle_2 ⟨Nat.le_of_ble_eq_true rfl, Nat.le_of_ble_eq_true rfl⟩) hP hD hS hA rfl rfl rfl (fun H locs hP hD hS => ?_)
  have hP : va_P G.1 vwCl [(h0, .inr (4, [.int kd, .int cd, .int ru, .int ch, .int (hcH cd he cs), .int te]))] H := hP
  have hD : va_D A [(h0, .inr (4, [.int kd, .int cd, .int ru, .int ch, .int (hcH cd he cs), .int te]))] := hD
  refine lv_istore_n (lv' := [(3, .int (hcR kd cd he cs)), (0, .ref h0), (1, .int cs), (2, .int tr)]) hx hb d_MON_endCycle_5 rfl hl (by decide) rfl (fun ls hl => ?_)
  refine lv_iload_n hx hb d_MON_endCycle_6 rfl (lv_at hl 0 rfl) ?_
  refine lv_if_eq (tgt := 15) hx hb d_MON_endCycle_7 (by decide) (fun c_7 => ?_) (fun c_7 => ?_)
  · refine lv_iload_n hx hb d_MON_endCycle_15 rfl (lv_at hl 3 rfl) ?_
    refine lv_if_eq (tgt := 24) hx hb d_MON_endCycle_16 (by decide) (fun c_16 => ?_) (fun c_16 => ?_)
    · refine lv_iload_n hx hb d_MON_endCycle_24 rfl (lv_at hl 0 rfl) ?_
      have hw9 : ([(h0, .inr (4, [.int kd, .int cd, .int (ecR kd cd ru ch he cs tr), .int (ecC kd cd ch he cs), .int (hcH cd he cs), .int (ecT te tr)]))] : va_W) = [(h0, .inr (4, [.int kd, .int cd, .int ru, .int ch, .int (hcH cd he cs), .int te]))] := by first | (simp [ecR, ecC, ecT, c_7, c_16]; done) | (simp_all [ecR, ecC, ecT]; done)
      rw [← hw9] at hP hD
      exact W.zret (v := hcR kd cd he cs) hx hb hr (hcR_bz _ _ _ _).n (fun t ht hW => ⟨⟨rfl, by rw [ht]; exact hP, by rw [hAe]; exact hD⟩, by rw [hAe]; exact hS.F ht⟩) hS.2.2 d_MON_endCycle_25
    · refine lv_aload_n hx hb d_MON_endCycle_19 rfl (lv_at hl 1 rfl) ?_
      refine lv_iconst (v := 1) hx hb d_MON_endCycle_20 (by decide) ?_
      refine va_put (D := G.1) (ci := 4) (v := .int 1) (ty := .boolean) (C := R_MON) (T := T_MON) (N := 6) hx hb hT in_MON t_MON tok_MON nok_MON hown hK hP hD hS 0 rfl rfl 5 (by decide) (hT _ wd_175) (fun _ h9 => h9) rfl (by decide +kernel) rfl rfl (Nat.le_of_ble_eq_true rfl) d_MON_endCycle_21 (fun H locs hP hD hS => ?_)
      have hP : va_P G.1 vwCl [(h0, .inr (4, [.int kd, .int cd, .int ru, .int ch, .int (hcH cd he cs), .int 1]))] H := hP
      have hD : va_D A [(h0, .inr (4, [.int kd, .int cd, .int ru, .int ch, .int (hcH cd he cs), .int 1]))] := hD
      refine lv_iload_n hx hb d_MON_endCycle_24 rfl (lv_at hl 0 rfl) ?_
      have hw9 : ([(h0, .inr (4, [.int kd, .int cd, .int (ecR kd cd ru ch he cs tr), .int (ecC kd cd ch he cs), .int (hcH cd he cs), .int (ecT te tr)]))] : va_W) = [(h0, .inr (4, [.int kd, .int cd, .int ru, .int ch, .int (hcH cd he cs), .int 1]))] := by first | (simp [ecR, ecC, ecT, c_7, c_16]; done) | (simp_all [ecR, ecC, ecT]; done)
      rw [← hw9] at hP hD
      exact W.zret (v := hcR kd cd he cs) hx hb hr (hcR_bz _ _ _ _).n (fun t ht hW => ⟨⟨rfl, by rw [ht]; exact hP, by rw [hAe]; exact hD⟩, by rw [hAe]; exact hS.F ht⟩) hS.2.2 d_MON_endCycle_25
  · refine lv_aload_n hx hb d_MON_endCycle_10 rfl (lv_at hl 1 rfl) ?_
    refine lv_iload_n hx hb d_MON_endCycle_11 rfl (lv_at hl 3 rfl) ?_
    have hPc := hP.sub (ws' := [(h0, .inr (4, [.int kd, .int cd, .int ru, .int ch, .int (hcH cd he cs), .int te]))]) [0] rfl
    have hDc := hD.sub (ws' := [(h0, .inr (4, [.int kd, .int cd, .int ru, .int ch, .int (hcH cd he cs), .int te]))]) [0] (by decide) rfl
    refine bx_callKv [0] (va_runV (As := [.int tr]) (rest := []) ⟨hx, hb, hml, hown, hts⟩ (c_countChance l G H.size h0 kd cd ru ch (hcH cd he cs) te tr) ⟨(callB_of 1 hts (gi_all wd_284) rfl rfl rfl (hT _ wd_52) (hT _ wd_281) (by decide +kernel) ⟨Nat.le_of_ble_eq_true rfl, Nat.le_of_ble_eq_true rfl⟩), (hT _ wd_283), (hT _ wd_6)⟩ (pvW hPc hGK hDc (va_recv hK hPc (ci := 4) (q0 := 0) rfl rfl)) rfl rfl hl.1 rfl (lv_room (Nat.le_of_ble_eq_true rfl)) d_MON_endCycle_12 ⟨Nat.le_of_ble_eq_true rfl, Nat.le_of_ble_eq_true rfl⟩) hP hD hS hA rfl rfl rfl (fun H locs hP hD hS => ?_)
    have hP : va_P G.1 vwCl [(h0, .inr (4, [.int kd, .int cd, .int (ccR ru ch tr), .int (ccC ch), .int (hcH cd he cs), .int te]))] H := hP
    have hD : va_D A [(h0, .inr (4, [.int kd, .int cd, .int (ccR ru ch tr), .int (ccC ch), .int (hcH cd he cs), .int te]))] := hD
    refine lv_iload_n hx hb d_MON_endCycle_15 rfl (lv_at hl 3 rfl) ?_
    refine lv_if_eq (tgt := 24) hx hb d_MON_endCycle_16 (by decide) (fun c_16 => ?_) (fun c_16 => ?_)
    · refine lv_iload_n hx hb d_MON_endCycle_24 rfl (lv_at hl 0 rfl) ?_
      have hw9 : ([(h0, .inr (4, [.int kd, .int cd, .int (ecR kd cd ru ch he cs tr), .int (ecC kd cd ch he cs), .int (hcH cd he cs), .int (ecT te tr)]))] : va_W) = [(h0, .inr (4, [.int kd, .int cd, .int (ccR ru ch tr), .int (ccC ch), .int (hcH cd he cs), .int te]))] := by first | (simp [ecR, ecC, ecT, c_7, c_16]; done) | (simp_all [ecR, ecC, ecT]; done)
      rw [← hw9] at hP hD
      exact W.zret (v := hcR kd cd he cs) hx hb hr (hcR_bz _ _ _ _).n (fun t ht hW => ⟨⟨rfl, by rw [ht]; exact hP, by rw [hAe]; exact hD⟩, by rw [hAe]; exact hS.F ht⟩) hS.2.2 d_MON_endCycle_25
    · refine lv_aload_n hx hb d_MON_endCycle_19 rfl (lv_at hl 1 rfl) ?_
      refine lv_iconst (v := 1) hx hb d_MON_endCycle_20 (by decide) ?_
      refine va_put (D := G.1) (ci := 4) (v := .int 1) (ty := .boolean) (C := R_MON) (T := T_MON) (N := 6) hx hb hT in_MON t_MON tok_MON nok_MON hown hK hP hD hS 0 rfl rfl 5 (by decide) (hT _ wd_175) (fun _ h9 => h9) rfl (by decide +kernel) rfl rfl (Nat.le_of_ble_eq_true rfl) d_MON_endCycle_21 (fun H locs hP hD hS => ?_)
      have hP : va_P G.1 vwCl [(h0, .inr (4, [.int kd, .int cd, .int (ccR ru ch tr), .int (ccC ch), .int (hcH cd he cs), .int 1]))] H := hP
      have hD : va_D A [(h0, .inr (4, [.int kd, .int cd, .int (ccR ru ch tr), .int (ccC ch), .int (hcH cd he cs), .int 1]))] := hD
      refine lv_iload_n hx hb d_MON_endCycle_24 rfl (lv_at hl 0 rfl) ?_
      have hw9 : ([(h0, .inr (4, [.int kd, .int cd, .int (ecR kd cd ru ch he cs tr), .int (ecC kd cd ch he cs), .int (hcH cd he cs), .int (ecT te tr)]))] : va_W) = [(h0, .inr (4, [.int kd, .int cd, .int (ccR ru ch tr), .int (ccC ch), .int (hcH cd he cs), .int 1]))] := by first | (simp [ecR, ecC, ecT, c_7, c_16]; done) | (simp_all [ecR, ecC, ecT]; done)
      rw [← hw9] at hP hD
      exact W.zret (v := hcR kd cd he cs) hx hb hr (hcR_bz _ _ _ _).n (fun t ht hW => ⟨⟨rfl, by rw [ht]; exact hP, by rw [hAe]; exact hD⟩, by rw [hAe]; exact hS.F ht⟩) hS.2.2 d_MON_endCycle_25
set_option maxHeartbeats 4000000 in
set_option maxRecDepth 100000 in
theorem c_Code_init (l : Launch) (G : GG) (sz : Nat) (h0 : Nat) (nu : Int32) (onn : Int32) (pe : Int32) (co : Int32) (la : Int32) (ofr : Int32) (oz : Int32) (fc : Int32) (fd : Int32) (na : Int32) (oa : Int32) (hoa : bz oa) : Met l y_COD_init w_COD_init ({ frames := 1, cells := 0, slots := 0, locals := 12 }) (va_Pc [.ref h0, .int na, .int oa] (Pw G sz [(h0, .inr (5, [.int nu, .int onn, .int pe, .int co, .int la, .int ofr, .int oz, .int fc, .int fd]))])) (QW G none [(h0, .inr (5, [.int nu, .int onn, .int pe, .int co, .int la, .int ofr, .int oz, .int fc, .int fd]))] [(h0, .inr (5, [.int na, .int oa, .int 0, .int 0, .int 0, .int 0, .int 0, .int 0, .int 0]))] sz) 0 0 (va_A [(h0, .inr (5, [.int nu, .int onn, .int pe, .int co, .int la, .int ofr, .int oz, .int fc, .int fd]))] sz) := by
  refine Met.ofW (cc := b_COD_init) (maxL := 3) (ret := none) (by decide) rfl ?_
  intro p e s m args below meth c s₁ B hml hv
  obtain ⟨rfl, hsz, hP, hGK, hD0⟩ := hv
  have hx := B.exec
  have hb := B.bytes
  have hr := B.returns
  have hts := atoms_spec (ws := w_COD_init) B.pre
  have hT : ∀ w ∈ lwG, w.before _ s = true := fun w h => hts w (List.mem_cons_of_mem _ h)
  have hown : s.vm.findClass R_COD = some m.cls := findClass_of_methodNamed B.named
  have hlocks := B.notSynchronized
  have hK := hGK.1
  have hN := hGK.2
  have hin : meth.name = "<init>" := (name_of_methodNamed B.named B.method).1
  subst hsz
  have hD := hD0.self (sz := s.heap.size)
  generalize hAe : va_A [(h0, .inr (5, [.int nu, .int onn, .int pe, .int co, .int la, .int ofr, .int oz, .int fc, .int fd]))] s.heap.size = A at hD ⊢
  have hA : ∀ q : Nat, s.heap.size ≤ q → A q := fun q h => by rw [← hAe]; exact Or.inr h
  have hS : va_S A s.heap s.heap [] := va_S.rf
  have hP : va_P G.1 vwCl [(h0, .inr (5, [.int nu, .int onn, .int pe, .int co, .int la, .int ofr, .int oz, .int fc, .int fd]))] s.heap := hP
  have hl := lv_entry ([.ref h0, .int na, .int oa]) (n := 3) (Nat.le_of_ble_eq_true rfl)
  rw [lg_entry_eq]
  generalize (lg_sl ([.ref h0, .int na, .int oa]) ++ List.replicate (3 - (lg_sl ([.ref h0, .int na, .int oa])).length) Slot.unset).toArray = ls at hl ⊢
  have hl : lv_has ls 3 [(0, .ref h0), (1, .int na), (2, .int oa)] := hl
  refine lv_aload_n hx hb d_COD_init_0 rfl (lv_at hl 0 rfl) ?_
  refine W.objInit hx hb hown (hT _ wd_343) (hT _ wd_71) (hT _ wd_72) rfl (by rw [hml]; exact hl.1) rfl d_COD_init_1 (Nat.le_of_ble_eq_true rfl) (Nat.le_of_ble_eq_true rfl) ?_
  refine W.eq (g2 := F0 m 4 ls []) rfl ?_
  refine lv_aload_n hx hb d_COD_init_4 rfl (lv_at hl 0 rfl) ?_
  refine lv_iconst (v := 0) hx hb d_COD_init_5 (by decide) ?_
  refine va_put (D := G.1) (ci := 5) (v := .int 0) (ty := .boolean) (C := R_COD) (T := T_COD) (N := 9) hx hb hT in_COD t_COD tok_COD nok_COD hown hK hP hD hS 0 rfl rfl 2 (by decide) (hT _ wd_348) (fun _ h9 => h9) rfl (by decide +kernel) rfl rfl (Nat.le_of_ble_eq_true rfl) d_COD_init_6 (fun H locs hP hD hS => ?_)
  have hP : va_P G.1 vwCl [(h0, .inr (5, [.int nu, .int onn, .int 0, .int co, .int la, .int ofr, .int oz, .int fc, .int fd]))] H := hP
  have hD : va_D A [(h0, .inr (5, [.int nu, .int onn, .int 0, .int co, .int la, .int ofr, .int oz, .int fc, .int fd]))] := hD
  refine lv_aload_n hx hb d_COD_init_9 rfl (lv_at hl 0 rfl) ?_
  refine lv_iconst (v := 0) hx hb d_COD_init_10 (by decide) ?_
  refine va_put (D := G.1) (ci := 5) (v := .int 0) (ty := .boolean) (C := R_COD) (T := T_COD) (N := 9) hx hb hT in_COD t_COD tok_COD nok_COD hown hK hP hD hS 0 rfl rfl 3 (by decide) (hT _ wd_349) (fun _ h9 => h9) rfl (by decide +kernel) rfl rfl (Nat.le_of_ble_eq_true rfl) d_COD_init_11 (fun H locs hP hD hS => ?_)
  have hP : va_P G.1 vwCl [(h0, .inr (5, [.int nu, .int onn, .int 0, .int 0, .int la, .int ofr, .int oz, .int fc, .int fd]))] H := hP
  have hD : va_D A [(h0, .inr (5, [.int nu, .int onn, .int 0, .int 0, .int la, .int ofr, .int oz, .int fc, .int fd]))] := hD
  refine lv_aload_n hx hb d_COD_init_14 rfl (lv_at hl 0 rfl) ?_
  refine lv_iconst (v := 0) hx hb d_COD_init_15 (by decide) ?_
  refine va_put (D := G.1) (ci := 5) (v := .int 0) (ty := .boolean) (C := R_COD) (T := T_COD) (N := 9) hx hb hT in_COD t_COD tok_COD nok_COD hown hK hP hD hS 0 rfl rfl 4 (by decide) (hT _ wd_351) (fun _ h9 => h9) rfl (by decide +kernel) rfl rfl (Nat.le_of_ble_eq_true rfl) d_COD_init_16 (fun H locs hP hD hS => ?_)
  have hP : va_P G.1 vwCl [(h0, .inr (5, [.int nu, .int onn, .int 0, .int 0, .int 0, .int ofr, .int oz, .int fc, .int fd]))] H := hP
  have hD : va_D A [(h0, .inr (5, [.int nu, .int onn, .int 0, .int 0, .int 0, .int ofr, .int oz, .int fc, .int fd]))] := hD
  refine lv_aload_n hx hb d_COD_init_19 rfl (lv_at hl 0 rfl) ?_
  refine lv_iconst (v := 0) hx hb d_COD_init_20 (by decide) ?_
  refine va_put (D := G.1) (ci := 5) (v := .int 0) (ty := .int) (C := R_COD) (T := T_COD) (N := 9) hx hb hT in_COD t_COD tok_COD nok_COD hown hK hP hD hS 0 rfl rfl 5 (by decide) (hT _ wd_353) (fun _ h9 => h9) rfl (by decide +kernel) rfl rfl (Nat.le_of_ble_eq_true rfl) d_COD_init_21 (fun H locs hP hD hS => ?_)
  have hP : va_P G.1 vwCl [(h0, .inr (5, [.int nu, .int onn, .int 0, .int 0, .int 0, .int 0, .int oz, .int fc, .int fd]))] H := hP
  have hD : va_D A [(h0, .inr (5, [.int nu, .int onn, .int 0, .int 0, .int 0, .int 0, .int oz, .int fc, .int fd]))] := hD
  refine lv_aload_n hx hb d_COD_init_24 rfl (lv_at hl 0 rfl) ?_
  refine lv_iconst (v := 0) hx hb d_COD_init_25 (by decide) ?_
  refine va_put (D := G.1) (ci := 5) (v := .int 0) (ty := .int) (C := R_COD) (T := T_COD) (N := 9) hx hb hT in_COD t_COD tok_COD nok_COD hown hK hP hD hS 0 rfl rfl 6 (by decide) (hT _ wd_354) (fun _ h9 => h9) rfl (by decide +kernel) rfl rfl (Nat.le_of_ble_eq_true rfl) d_COD_init_26 (fun H locs hP hD hS => ?_)
  have hP : va_P G.1 vwCl [(h0, .inr (5, [.int nu, .int onn, .int 0, .int 0, .int 0, .int 0, .int 0, .int fc, .int fd]))] H := hP
  have hD : va_D A [(h0, .inr (5, [.int nu, .int onn, .int 0, .int 0, .int 0, .int 0, .int 0, .int fc, .int fd]))] := hD
  refine lv_aload_n hx hb d_COD_init_29 rfl (lv_at hl 0 rfl) ?_
  refine lv_iconst (v := 0) hx hb d_COD_init_30 (by decide) ?_
  refine va_put (D := G.1) (ci := 5) (v := .int 0) (ty := .int) (C := R_COD) (T := T_COD) (N := 9) hx hb hT in_COD t_COD tok_COD nok_COD hown hK hP hD hS 0 rfl rfl 7 (by decide) (hT _ wd_355) (fun _ h9 => h9) rfl (by decide +kernel) rfl rfl (Nat.le_of_ble_eq_true rfl) d_COD_init_31 (fun H locs hP hD hS => ?_)
  have hP : va_P G.1 vwCl [(h0, .inr (5, [.int nu, .int onn, .int 0, .int 0, .int 0, .int 0, .int 0, .int 0, .int fd]))] H := hP
  have hD : va_D A [(h0, .inr (5, [.int nu, .int onn, .int 0, .int 0, .int 0, .int 0, .int 0, .int 0, .int fd]))] := hD
  refine lv_aload_n hx hb d_COD_init_34 rfl (lv_at hl 0 rfl) ?_
  refine lv_iconst (v := 0) hx hb d_COD_init_35 (by decide) ?_
  refine va_put (D := G.1) (ci := 5) (v := .int 0) (ty := .int) (C := R_COD) (T := T_COD) (N := 9) hx hb hT in_COD t_COD tok_COD nok_COD hown hK hP hD hS 0 rfl rfl 8 (by decide) (hT _ wd_357) (fun _ h9 => h9) rfl (by decide +kernel) rfl rfl (Nat.le_of_ble_eq_true rfl) d_COD_init_36 (fun H locs hP hD hS => ?_)
  have hP : va_P G.1 vwCl [(h0, .inr (5, [.int nu, .int onn, .int 0, .int 0, .int 0, .int 0, .int 0, .int 0, .int 0]))] H := hP
  have hD : va_D A [(h0, .inr (5, [.int nu, .int onn, .int 0, .int 0, .int 0, .int 0, .int 0, .int 0, .int 0]))] := hD
  refine lv_aload_n hx hb d_COD_init_39 rfl (lv_at hl 0 rfl) ?_
  refine lv_iload_n hx hb d_COD_init_40 rfl (lv_at hl 1 rfl) ?_
  refine va_putF (D := G.1) (ci := 5) (v := .int na) (ty := .int) (C := R_COD) (T := T_COD) (N := 9) hx hb hT in_COD t_COD tok_COD nok_COD hown hK hP hD hS 0 rfl rfl 0 (by decide) (hT _ wd_344) (fun _ h9 => h9) rfl hin rfl (by decide +kernel) rfl rfl (Nat.le_of_ble_eq_true rfl) d_COD_init_41 (fun H locs hP hD hS => ?_)
  have hP : va_P G.1 vwCl [(h0, .inr (5, [.int na, .int onn, .int 0, .int 0, .int 0, .int 0, .int 0, .int 0, .int 0]))] H := hP
  have hD : va_D A [(h0, .inr (5, [.int na, .int onn, .int 0, .int 0, .int 0, .int 0, .int 0, .int 0, .int 0]))] := hD
  refine lv_aload_n hx hb d_COD_init_44 rfl (lv_at hl 0 rfl) ?_
  refine lv_iload_n hx hb d_COD_init_45 rfl (lv_at hl 2 rfl) ?_
  refine va_put (D := G.1) (ci := 5) (v := .int oa) (ty := .boolean) (C := R_COD) (T := T_COD) (N := 9) hx hb hT in_COD t_COD tok_COD nok_COD hown hK hP hD hS 0 rfl rfl 1 (by decide) (hT _ wd_346) (fun _ h9 => h9) rfl (by decide +kernel) (bz.n (by assumption)) (bz.f (by assumption)) (Nat.le_of_ble_eq_true rfl) d_COD_init_46 (fun H locs hP hD hS => ?_)
  have hP : va_P G.1 vwCl [(h0, .inr (5, [.int na, .int oa, .int 0, .int 0, .int 0, .int 0, .int 0, .int 0, .int 0]))] H := hP
  have hD : va_D A [(h0, .inr (5, [.int na, .int oa, .int 0, .int 0, .int 0, .int 0, .int 0, .int 0, .int 0]))] := hD
  exact W.vret hx hb hr (fun t ht hW => ⟨⟨rfl, by rw [ht]; exact hP, by rw [hAe]; exact hD⟩, by rw [hAe]; exact hS.F ht⟩) hS.2.2 d_COD_init_49
set_option maxHeartbeats 4000000 in
set_option maxRecDepth 100000 in
theorem c_endCycleOn (l : Launch) (G : GG) (sz : Nat) (h0 : Nat) (nu : Int32) (onn : Int32) (pe : Int32) (co : Int32) (la : Int32) (ofr : Int32) (oz : Int32) (fc : Int32) (fd : Int32) (cy : Int32) (cs : Int32)  : Met l y_COD_endCycleOn w_COD_endCycleOn ({ frames := 0, cells := 0, slots := 0, locals := 0 }) (va_Pc [.ref h0, .int cy, .int cs] (Pw G sz [(h0, .inr (5, [.int nu, .int onn, .int pe, .int co, .int la, .int ofr, .int oz, .int fc, .int fd]))])) (QW G none [(h0, .inr (5, [.int nu, .int onn, .int pe, .int co, .int la, .int ofr, .int oz, .int fc, .int fd]))] [(h0, .inr (5, [.int nu, .int onn, .int (onP pe co), .int (onK pe co), .int (onK pe la), .int 0, .int 0, .int (onF pe co fc cy), .int (onF pe co fd cs)]))] sz) 0 0 (va_A [(h0, .inr (5, [.int nu, .int onn, .int pe, .int co, .int la, .int ofr, .int oz, .int fc, .int fd]))] sz) := by
  refine Met.ofW (cc := b_COD_endCycleOn) (maxL := 3) (ret := none) (by decide) rfl ?_
  intro p e s m args below meth c s₁ B hml hv
  obtain ⟨rfl, hsz, hP, hGK, hD0⟩ := hv
  have hx := B.exec
  have hb := B.bytes
  have hr := B.returns
  have hts := atoms_spec (ws := w_COD_endCycleOn) B.pre
  have hT : ∀ w ∈ lwG, w.before _ s = true := fun w h => hts w (List.mem_cons_of_mem _ h)
  have hown : s.vm.findClass R_COD = some m.cls := findClass_of_methodNamed B.named
  have hlocks := B.notSynchronized
  have hK := hGK.1
  have hN := hGK.2
  subst hsz
  have hD := hD0.self (sz := s.heap.size)
  generalize hAe : va_A [(h0, .inr (5, [.int nu, .int onn, .int pe, .int co, .int la, .int ofr, .int oz, .int fc, .int fd]))] s.heap.size = A at hD ⊢
  have hA : ∀ q : Nat, s.heap.size ≤ q → A q := fun q h => by rw [← hAe]; exact Or.inr h
  have hS : va_S A s.heap s.heap [] := va_S.rf
  have hP : va_P G.1 vwCl [(h0, .inr (5, [.int nu, .int onn, .int pe, .int co, .int la, .int ofr, .int oz, .int fc, .int fd]))] s.heap := hP
  have hl := lv_entry ([.ref h0, .int cy, .int cs]) (n := 3) (Nat.le_of_ble_eq_true rfl)
  rw [lg_entry_eq]
  generalize (lg_sl ([.ref h0, .int cy, .int cs]) ++ List.replicate (3 - (lg_sl ([.ref h0, .int cy, .int cs])).length) Slot.unset).toArray = ls at hl ⊢
  have hl : lv_has ls 3 [(0, .ref h0), (1, .int cy), (2, .int cs)] := hl
  refine lv_aload_n hx hb d_COD_endCycleOn_0 rfl (lv_at hl 0 rfl) ?_
  refine lv_iconst (v := 0) hx hb d_COD_endCycleOn_1 (by decide) ?_
  refine va_put (D := G.1) (ci := 5) (v := .int 0) (ty := .int) (C := R_COD) (T := T_COD) (N := 9) hx hb hT in_COD t_COD tok_COD nok_COD hown hK hP hD hS 0 rfl rfl 5 (by decide) (hT _ wd_353) (fun _ h9 => h9) rfl (by decide +kernel) rfl rfl (Nat.le_of_ble_eq_true rfl) d_COD_endCycleOn_2 (fun H locs hP hD hS => ?_)
  have hP : va_P G.1 vwCl [(h0, .inr (5, [.int nu, .int onn, .int pe, .int co, .int la, .int 0, .int oz, .int fc, .int fd]))] H := hP
  have hD : va_D A [(h0, .inr (5, [.int nu, .int onn, .int pe, .int co, .int la, .int 0, .int oz, .int fc, .int fd]))] := hD
  refine lv_aload_n hx hb d_COD_endCycleOn_5 rfl (lv_at hl 0 rfl) ?_
  refine lv_iconst (v := 0) hx hb d_COD_endCycleOn_6 (by decide) ?_
  refine va_put (D := G.1) (ci := 5) (v := .int 0) (ty := .int) (C := R_COD) (T := T_COD) (N := 9) hx hb hT in_COD t_COD tok_COD nok_COD hown hK hP hD hS 0 rfl rfl 6 (by decide) (hT _ wd_354) (fun _ h9 => h9) rfl (by decide +kernel) rfl rfl (Nat.le_of_ble_eq_true rfl) d_COD_endCycleOn_7 (fun H locs hP hD hS => ?_)
  have hP : va_P G.1 vwCl [(h0, .inr (5, [.int nu, .int onn, .int pe, .int co, .int la, .int 0, .int 0, .int fc, .int fd]))] H := hP
  have hD : va_D A [(h0, .inr (5, [.int nu, .int onn, .int pe, .int co, .int la, .int 0, .int 0, .int fc, .int fd]))] := hD
  refine lv_aload_n hx hb d_COD_endCycleOn_10 rfl (lv_at hl 0 rfl) ?_
  refine va_get (D := G.1) (ci := 5) (v := .int pe) (C := R_COD) (T := T_COD) (N := 9) hx hb hT in_COD hown hK hP 0 rfl rfl 2 (by decide) (hT _ wd_348) (fun _ h9 => h9) rfl d_COD_endCycleOn_11 ?_
  refine lv_if_eq (tgt := 35) hx hb d_COD_endCycleOn_14 (by decide) (fun c_14 => ?_) (fun c_14 => ?_)
  · refine lv_aload_n hx hb d_COD_endCycleOn_35 rfl (lv_at hl 0 rfl) ?_
    refine va_get (D := G.1) (ci := 5) (v := .int co) (C := R_COD) (T := T_COD) (N := 9) hx hb hT in_COD hown hK hP 0 rfl rfl 3 (by decide) (hT _ wd_349) (fun _ h9 => h9) rfl d_COD_endCycleOn_36 ?_
    refine lv_if_ne (tgt := 57) hx hb d_COD_endCycleOn_39 (by decide) (fun c_39 => ?_) (fun c_39 => ?_)
    · have hw9 : ([(h0, .inr (5, [.int nu, .int onn, .int (onP pe co), .int (onK pe co), .int (onK pe la), .int 0, .int 0, .int (onF pe co fc cy), .int (onF pe co fd cs)]))] : va_W) = [(h0, .inr (5, [.int nu, .int onn, .int pe, .int co, .int la, .int 0, .int 0, .int fc, .int fd]))] := by first | (simp [onP, onK, onF, c_14, c_39]; done) | (simp_all [onP, onK, onF]; done)
      rw [← hw9] at hP hD
      exact W.vret hx hb hr (fun t ht hW => ⟨⟨rfl, by rw [ht]; exact hP, by rw [hAe]; exact hD⟩, by rw [hAe]; exact hS.F ht⟩) hS.2.2 d_COD_endCycleOn_57
    · refine lv_aload_n hx hb d_COD_endCycleOn_42 rfl (lv_at hl 0 rfl) ?_
      refine lv_iconst (v := 1) hx hb d_COD_endCycleOn_43 (by decide) ?_
      refine va_put (D := G.1) (ci := 5) (v := .int 1) (ty := .boolean) (C := R_COD) (T := T_COD) (N := 9) hx hb hT in_COD t_COD tok_COD nok_COD hown hK hP hD hS 0 rfl rfl 2 (by decide) (hT _ wd_348) (fun _ h9 => h9) rfl (by decide +kernel) rfl rfl (Nat.le_of_ble_eq_true rfl) d_COD_endCycleOn_44 (fun H locs hP hD hS => ?_)
      have hP : va_P G.1 vwCl [(h0, .inr (5, [.int nu, .int onn, .int 1, .int co, .int la, .int 0, .int 0, .int fc, .int fd]))] H := hP
      have hD : va_D A [(h0, .inr (5, [.int nu, .int onn, .int 1, .int co, .int la, .int 0, .int 0, .int fc, .int fd]))] := hD
      refine lv_aload_n hx hb d_COD_endCycleOn_47 rfl (lv_at hl 0 rfl) ?_
      refine lv_iload_n hx hb d_COD_endCycleOn_48 rfl (lv_at hl 1 rfl) ?_
      refine va_put (D := G.1) (ci := 5) (v := .int cy) (ty := .int) (C := R_COD) (T := T_COD) (N := 9) hx hb hT in_COD t_COD tok_COD nok_COD hown hK hP hD hS 0 rfl rfl 7 (by decide) (hT _ wd_355) (fun _ h9 => h9) rfl (by decide +kernel) rfl rfl (Nat.le_of_ble_eq_true rfl) d_COD_endCycleOn_49 (fun H locs hP hD hS => ?_)
      have hP : va_P G.1 vwCl [(h0, .inr (5, [.int nu, .int onn, .int 1, .int co, .int la, .int 0, .int 0, .int cy, .int fd]))] H := hP
      have hD : va_D A [(h0, .inr (5, [.int nu, .int onn, .int 1, .int co, .int la, .int 0, .int 0, .int cy, .int fd]))] := hD
      refine lv_aload_n hx hb d_COD_endCycleOn_52 rfl (lv_at hl 0 rfl) ?_
      refine lv_iload_n hx hb d_COD_endCycleOn_53 rfl (lv_at hl 2 rfl) ?_
      refine va_put (D := G.1) (ci := 5) (v := .int cs) (ty := .int) (C := R_COD) (T := T_COD) (N := 9) hx hb hT in_COD t_COD tok_COD nok_COD hown hK hP hD hS 0 rfl rfl 8 (by decide) (hT _ wd_357) (fun _ h9 => h9) rfl (by decide +kernel) rfl rfl (Nat.le_of_ble_eq_true rfl) d_COD_endCycleOn_54 (fun H locs hP hD hS => ?_)
      have hP : va_P G.1 vwCl [(h0, .inr (5, [.int nu, .int onn, .int 1, .int co, .int la, .int 0, .int 0, .int cy, .int cs]))] H := hP
      have hD : va_D A [(h0, .inr (5, [.int nu, .int onn, .int 1, .int co, .int la, .int 0, .int 0, .int cy, .int cs]))] := hD
      have hw9 : ([(h0, .inr (5, [.int nu, .int onn, .int (onP pe co), .int (onK pe co), .int (onK pe la), .int 0, .int 0, .int (onF pe co fc cy), .int (onF pe co fd cs)]))] : va_W) = [(h0, .inr (5, [.int nu, .int onn, .int 1, .int co, .int la, .int 0, .int 0, .int cy, .int cs]))] := by first | (simp [onP, onK, onF, c_14, c_39]; done) | (simp_all [onP, onK, onF]; done)
      rw [← hw9] at hP hD
      exact W.vret hx hb hr (fun t ht hW => ⟨⟨rfl, by rw [ht]; exact hP, by rw [hAe]; exact hD⟩, by rw [hAe]; exact hS.F ht⟩) hS.2.2 d_COD_endCycleOn_57
  · refine lv_aload_n hx hb d_COD_endCycleOn_17 rfl (lv_at hl 0 rfl) ?_
    refine lv_iconst (v := 0) hx hb d_COD_endCycleOn_18 (by decide) ?_
    refine va_put (D := G.1) (ci := 5) (v := .int 0) (ty := .boolean) (C := R_COD) (T := T_COD) (N := 9) hx hb hT in_COD t_COD tok_COD nok_COD hown hK hP hD hS 0 rfl rfl 2 (by decide) (hT _ wd_348) (fun _ h9 => h9) rfl (by decide +kernel) rfl rfl (Nat.le_of_ble_eq_true rfl) d_COD_endCycleOn_19 (fun H locs hP hD hS => ?_)
    have hP : va_P G.1 vwCl [(h0, .inr (5, [.int nu, .int onn, .int 0, .int co, .int la, .int 0, .int 0, .int fc, .int fd]))] H := hP
    have hD : va_D A [(h0, .inr (5, [.int nu, .int onn, .int 0, .int co, .int la, .int 0, .int 0, .int fc, .int fd]))] := hD
    refine lv_aload_n hx hb d_COD_endCycleOn_22 rfl (lv_at hl 0 rfl) ?_
    refine lv_iconst (v := 1) hx hb d_COD_endCycleOn_23 (by decide) ?_
    refine va_put (D := G.1) (ci := 5) (v := .int 1) (ty := .boolean) (C := R_COD) (T := T_COD) (N := 9) hx hb hT in_COD t_COD tok_COD nok_COD hown hK hP hD hS 0 rfl rfl 3 (by decide) (hT _ wd_349) (fun _ h9 => h9) rfl (by decide +kernel) rfl rfl (Nat.le_of_ble_eq_true rfl) d_COD_endCycleOn_24 (fun H locs hP hD hS => ?_)
    have hP : va_P G.1 vwCl [(h0, .inr (5, [.int nu, .int onn, .int 0, .int 1, .int la, .int 0, .int 0, .int fc, .int fd]))] H := hP
    have hD : va_D A [(h0, .inr (5, [.int nu, .int onn, .int 0, .int 1, .int la, .int 0, .int 0, .int fc, .int fd]))] := hD
    refine lv_aload_n hx hb d_COD_endCycleOn_27 rfl (lv_at hl 0 rfl) ?_
    refine lv_iconst (v := 1) hx hb d_COD_endCycleOn_28 (by decide) ?_
    refine va_put (D := G.1) (ci := 5) (v := .int 1) (ty := .boolean) (C := R_COD) (T := T_COD) (N := 9) hx hb hT in_COD t_COD tok_COD nok_COD hown hK hP hD hS 0 rfl rfl 4 (by decide) (hT _ wd_351) (fun _ h9 => h9) rfl (by decide +kernel) rfl rfl (Nat.le_of_ble_eq_true rfl) d_COD_endCycleOn_29 (fun H locs hP hD hS => ?_)
    have hP : va_P G.1 vwCl [(h0, .inr (5, [.int nu, .int onn, .int 0, .int 1, .int 1, .int 0, .int 0, .int fc, .int fd]))] H := hP
    have hD : va_D A [(h0, .inr (5, [.int nu, .int onn, .int 0, .int 1, .int 1, .int 0, .int 0, .int fc, .int fd]))] := hD
    refine lv_goto (tgt := 57) hx hb d_COD_endCycleOn_32 (by decide) ?_
    have hw9 : ([(h0, .inr (5, [.int nu, .int onn, .int (onP pe co), .int (onK pe co), .int (onK pe la), .int 0, .int 0, .int (onF pe co fc cy), .int (onF pe co fd cs)]))] : va_W) = [(h0, .inr (5, [.int nu, .int onn, .int 0, .int 1, .int 1, .int 0, .int 0, .int fc, .int fd]))] := by first | (simp [onP, onK, onF, c_14]; done) | (simp_all [onP, onK, onF]; done)
    rw [← hw9] at hP hD
    exact W.vret hx hb hr (fun t ht hW => ⟨⟨rfl, by rw [ht]; exact hP, by rw [hAe]; exact hD⟩, by rw [hAe]; exact hS.F ht⟩) hS.2.2 d_COD_endCycleOn_57
set_option maxHeartbeats 4000000 in
set_option maxRecDepth 100000 in
theorem c_forgetFault (l : Launch) (G : GG) (sz : Nat) (h0 : Nat) (nu : Int32) (onn : Int32) (pe : Int32) (co : Int32) (la : Int32) (ofr : Int32) (oz : Int32) (fc : Int32) (fd : Int32)  : Met l y_COD_forgetFault w_COD_forgetFault ({ frames := 0, cells := 0, slots := 0, locals := 0 }) (va_Pc [.ref h0] (Pw G sz [(h0, .inr (5, [.int nu, .int onn, .int pe, .int co, .int la, .int ofr, .int oz, .int fc, .int fd]))])) (QW G none [(h0, .inr (5, [.int nu, .int onn, .int pe, .int co, .int la, .int ofr, .int oz, .int fc, .int fd]))] [(h0, .inr (5, [.int nu, .int onn, .int 0, .int 0, .int la, .int 0, .int oz, .int 0, .int 0]))] sz) 0 0 (va_A [(h0, .inr (5, [.int nu, .int onn, .int pe, .int co, .int la, .int ofr, .int oz, .int fc, .int fd]))] sz) := by
  refine Met.ofW (cc := b_COD_forgetFault) (maxL := 1) (ret := none) (by decide) rfl ?_
  intro p e s m args below meth c s₁ B hml hv
  obtain ⟨rfl, hsz, hP, hGK, hD0⟩ := hv
  have hx := B.exec
  have hb := B.bytes
  have hr := B.returns
  have hts := atoms_spec (ws := w_COD_forgetFault) B.pre
  have hT : ∀ w ∈ lwG, w.before _ s = true := fun w h => hts w (List.mem_cons_of_mem _ h)
  have hown : s.vm.findClass R_COD = some m.cls := findClass_of_methodNamed B.named
  have hlocks := B.notSynchronized
  have hK := hGK.1
  have hN := hGK.2
  subst hsz
  have hD := hD0.self (sz := s.heap.size)
  generalize hAe : va_A [(h0, .inr (5, [.int nu, .int onn, .int pe, .int co, .int la, .int ofr, .int oz, .int fc, .int fd]))] s.heap.size = A at hD ⊢
  have hA : ∀ q : Nat, s.heap.size ≤ q → A q := fun q h => by rw [← hAe]; exact Or.inr h
  have hS : va_S A s.heap s.heap [] := va_S.rf
  have hP : va_P G.1 vwCl [(h0, .inr (5, [.int nu, .int onn, .int pe, .int co, .int la, .int ofr, .int oz, .int fc, .int fd]))] s.heap := hP
  have hl := lv_entry ([.ref h0]) (n := 1) (Nat.le_of_ble_eq_true rfl)
  rw [lg_entry_eq]
  generalize (lg_sl ([.ref h0]) ++ List.replicate (1 - (lg_sl ([.ref h0])).length) Slot.unset).toArray = ls at hl ⊢
  have hl : lv_has ls 1 [(0, .ref h0)] := hl
  refine lv_aload_n hx hb d_COD_forgetFault_0 rfl (lv_at hl 0 rfl) ?_
  refine lv_iconst (v := 0) hx hb d_COD_forgetFault_1 (by decide) ?_
  refine va_put (D := G.1) (ci := 5) (v := .int 0) (ty := .boolean) (C := R_COD) (T := T_COD) (N := 9) hx hb hT in_COD t_COD tok_COD nok_COD hown hK hP hD hS 0 rfl rfl 2 (by decide) (hT _ wd_348) (fun _ h9 => h9) rfl (by decide +kernel) rfl rfl (Nat.le_of_ble_eq_true rfl) d_COD_forgetFault_2 (fun H locs hP hD hS => ?_)
  have hP : va_P G.1 vwCl [(h0, .inr (5, [.int nu, .int onn, .int 0, .int co, .int la, .int ofr, .int oz, .int fc, .int fd]))] H := hP
  have hD : va_D A [(h0, .inr (5, [.int nu, .int onn, .int 0, .int co, .int la, .int ofr, .int oz, .int fc, .int fd]))] := hD
  refine lv_aload_n hx hb d_COD_forgetFault_5 rfl (lv_at hl 0 rfl) ?_
  refine lv_iconst (v := 0) hx hb d_COD_forgetFault_6 (by decide) ?_
  refine va_put (D := G.1) (ci := 5) (v := .int 0) (ty := .boolean) (C := R_COD) (T := T_COD) (N := 9) hx hb hT in_COD t_COD tok_COD nok_COD hown hK hP hD hS 0 rfl rfl 3 (by decide) (hT _ wd_349) (fun _ h9 => h9) rfl (by decide +kernel) rfl rfl (Nat.le_of_ble_eq_true rfl) d_COD_forgetFault_7 (fun H locs hP hD hS => ?_)
  have hP : va_P G.1 vwCl [(h0, .inr (5, [.int nu, .int onn, .int 0, .int 0, .int la, .int ofr, .int oz, .int fc, .int fd]))] H := hP
  have hD : va_D A [(h0, .inr (5, [.int nu, .int onn, .int 0, .int 0, .int la, .int ofr, .int oz, .int fc, .int fd]))] := hD
  refine lv_aload_n hx hb d_COD_forgetFault_10 rfl (lv_at hl 0 rfl) ?_
  refine lv_iconst (v := 0) hx hb d_COD_forgetFault_11 (by decide) ?_
  refine va_put (D := G.1) (ci := 5) (v := .int 0) (ty := .int) (C := R_COD) (T := T_COD) (N := 9) hx hb hT in_COD t_COD tok_COD nok_COD hown hK hP hD hS 0 rfl rfl 5 (by decide) (hT _ wd_353) (fun _ h9 => h9) rfl (by decide +kernel) rfl rfl (Nat.le_of_ble_eq_true rfl) d_COD_forgetFault_12 (fun H locs hP hD hS => ?_)
  have hP : va_P G.1 vwCl [(h0, .inr (5, [.int nu, .int onn, .int 0, .int 0, .int la, .int 0, .int oz, .int fc, .int fd]))] H := hP
  have hD : va_D A [(h0, .inr (5, [.int nu, .int onn, .int 0, .int 0, .int la, .int 0, .int oz, .int fc, .int fd]))] := hD
  refine lv_aload_n hx hb d_COD_forgetFault_15 rfl (lv_at hl 0 rfl) ?_
  refine lv_iconst (v := 0) hx hb d_COD_forgetFault_16 (by decide) ?_
  refine va_put (D := G.1) (ci := 5) (v := .int 0) (ty := .int) (C := R_COD) (T := T_COD) (N := 9) hx hb hT in_COD t_COD tok_COD nok_COD hown hK hP hD hS 0 rfl rfl 7 (by decide) (hT _ wd_355) (fun _ h9 => h9) rfl (by decide +kernel) rfl rfl (Nat.le_of_ble_eq_true rfl) d_COD_forgetFault_17 (fun H locs hP hD hS => ?_)
  have hP : va_P G.1 vwCl [(h0, .inr (5, [.int nu, .int onn, .int 0, .int 0, .int la, .int 0, .int oz, .int 0, .int fd]))] H := hP
  have hD : va_D A [(h0, .inr (5, [.int nu, .int onn, .int 0, .int 0, .int la, .int 0, .int oz, .int 0, .int fd]))] := hD
  refine lv_aload_n hx hb d_COD_forgetFault_20 rfl (lv_at hl 0 rfl) ?_
  refine lv_iconst (v := 0) hx hb d_COD_forgetFault_21 (by decide) ?_
  refine va_put (D := G.1) (ci := 5) (v := .int 0) (ty := .int) (C := R_COD) (T := T_COD) (N := 9) hx hb hT in_COD t_COD tok_COD nok_COD hown hK hP hD hS 0 rfl rfl 8 (by decide) (hT _ wd_357) (fun _ h9 => h9) rfl (by decide +kernel) rfl rfl (Nat.le_of_ble_eq_true rfl) d_COD_forgetFault_22 (fun H locs hP hD hS => ?_)
  have hP : va_P G.1 vwCl [(h0, .inr (5, [.int nu, .int onn, .int 0, .int 0, .int la, .int 0, .int oz, .int 0, .int 0]))] H := hP
  have hD : va_D A [(h0, .inr (5, [.int nu, .int onn, .int 0, .int 0, .int la, .int 0, .int oz, .int 0, .int 0]))] := hD
  exact W.vret hx hb hr (fun t ht hW => ⟨⟨rfl, by rw [ht]; exact hP, by rw [hAe]; exact hD⟩, by rw [hAe]; exact hS.F ht⟩) hS.2.2 d_COD_forgetFault_25
set_option maxHeartbeats 4000000 in
set_option maxRecDepth 100000 in
theorem c_endCycleOff (l : Launch) (G : GG) (sz : Nat) (h0 : Nat) (nu : Int32) (onn : Int32) (pe : Int32) (co : Int32) (la : Int32) (ofr : Int32) (oz : Int32) (fc : Int32) (fd : Int32) (cs : Int32)  : Met l y_COD_endCycleOff w_COD_endCycleOff ({ frames := 1, cells := 0, slots := 0, locals := 21 }) (va_Pc [.ref h0, .int cs] (Pw G sz [(h0, .inr (5, [.int nu, .int onn, .int pe, .int co, .int la, .int ofr, .int oz, .int fc, .int fd]))])) (QW G none [(h0, .inr (5, [.int nu, .int onn, .int pe, .int co, .int la, .int ofr, .int oz, .int fc, .int fd]))] [(h0, .inr (5, [.int nu, .int onn, .int (ofK pe ofr pe), .int (ofK pe ofr co), .int (ofL la oz cs), .int (ofK pe ofr (ofr + 1)), .int (ofZ oz cs), .int (ofK pe ofr fc), .int (ofK pe ofr fd)]))] sz) 0 0 (va_A [(h0, .inr (5, [.int nu, .int onn, .int pe, .int co, .int la, .int ofr, .int oz, .int fc, .int fd]))] sz) := by
  refine Met.ofW (cc := b_COD_endCycleOff) (maxL := 2) (ret := none) (by decide) rfl ?_
  intro p e s m args below meth c s₁ B hml hv
  obtain ⟨rfl, hsz, hP, hGK, hD0⟩ := hv
  have hx := B.exec
  have hb := B.bytes
  have hr := B.returns
  have hts := atoms_spec (ws := w_COD_endCycleOff) B.pre
  have hT : ∀ w ∈ lwG, w.before _ s = true := fun w h => hts w (List.mem_cons_of_mem _ h)
  have hown : s.vm.findClass R_COD = some m.cls := findClass_of_methodNamed B.named
  have hlocks := B.notSynchronized
  have hK := hGK.1
  have hN := hGK.2
  subst hsz
  have hD := hD0.self (sz := s.heap.size)
  generalize hAe : va_A [(h0, .inr (5, [.int nu, .int onn, .int pe, .int co, .int la, .int ofr, .int oz, .int fc, .int fd]))] s.heap.size = A at hD ⊢
  have hA : ∀ q : Nat, s.heap.size ≤ q → A q := fun q h => by rw [← hAe]; exact Or.inr h
  have hS : va_S A s.heap s.heap [] := va_S.rf
  have hP : va_P G.1 vwCl [(h0, .inr (5, [.int nu, .int onn, .int pe, .int co, .int la, .int ofr, .int oz, .int fc, .int fd]))] s.heap := hP
  have hl := lv_entry ([.ref h0, .int cs]) (n := 2) (Nat.le_of_ble_eq_true rfl)
  rw [lg_entry_eq]
  generalize (lg_sl ([.ref h0, .int cs]) ++ List.replicate (2 - (lg_sl ([.ref h0, .int cs])).length) Slot.unset).toArray = ls at hl ⊢
  have hl : lv_has ls 2 [(0, .ref h0), (1, .int cs)] := hl
  refine lv_aload_n hx hb d_COD_endCycleOff_0 rfl (lv_at hl 0 rfl) ?_
  refine lv_dup hx hb d_COD_endCycleOff_1 rfl ?_
  refine va_get (D := G.1) (ci := 5) (v := .int ofr) (C := R_COD) (T := T_COD) (N := 9) hx hb hT in_COD hown hK hP 0 rfl rfl 5 (by decide) (hT _ wd_353) (fun _ h9 => h9) rfl d_COD_endCycleOff_2 ?_
  refine lv_iconst (v := 1) hx hb d_COD_endCycleOff_5 (by decide) ?_
  refine lv_iadd hx hb d_COD_endCycleOff_6 ?_
  refine va_put (D := G.1) (ci := 5) (v := .int (ofr + 1)) (ty := .int) (C := R_COD) (T := T_COD) (N := 9) hx hb hT in_COD t_COD tok_COD nok_COD hown hK hP hD hS 0 rfl rfl 5 (by decide) (hT _ wd_353) (fun _ h9 => h9) rfl (by decide +kernel) rfl rfl (Nat.le_of_ble_eq_true rfl) d_COD_endCycleOff_7 (fun H locs hP hD hS => ?_)
  have hP : va_P G.1 vwCl [(h0, .inr (5, [.int nu, .int onn, .int pe, .int co, .int la, .int (ofr + 1), .int oz, .int fc, .int fd]))] H := hP
  have hD : va_D A [(h0, .inr (5, [.int nu, .int onn, .int pe, .int co, .int la, .int (ofr + 1), .int oz, .int fc, .int fd]))] := hD
  refine lv_iload_n hx hb d_COD_endCycleOff_10 rfl (lv_at hl 1 rfl) ?_
  refine lv_iconst (v := 0) hx hb d_COD_endCycleOff_11 (by decide) ?_
  refine bx_callV ((va_runSN (As := [.int cs, .int 0]) (rest := []) ⟨hx, hb, hml, hown, hts⟩ (c_isBitSet l G cs 0) ⟨(va_cnB 2 hts (gi_all wd_271) rfl rfl rfl (hN (.methodLinkNest "EmissionRows$Code" 40 ⟨"EmissionRows", "isBitSet", "(II)Z"⟩ "EmissionRows") nw_299) (hT _ wd_45) (by decide +kernel) ⟨Nat.le_of_ble_eq_true rfl, Nat.le_of_ble_eq_true rfl⟩), (hT _ wd_270), trivial⟩ (psR bx_nil hGK) rfl rfl hl.1 rfl (lv_room (Nat.le_of_ble_eq_true rfl)) d_COD_endCycleOff_12 ⟨Nat.le_of_ble_eq_true rfl, Nat.le_of_ble_eq_true rfl⟩)).run ?_
  refine lv_if_eq (tgt := 28) hx hb d_COD_endCycleOff_15 (by decide) (fun c_15 => ?_) (fun c_15 => ?_)
  · refine lv_aload_n hx hb d_COD_endCycleOff_28 rfl (lv_at hl 0 rfl) ?_
    refine va_get (D := G.1) (ci := 5) (v := .int pe) (C := R_COD) (T := T_COD) (N := 9) hx hb hT in_COD hown hK hP 0 rfl rfl 2 (by decide) (hT _ wd_348) (fun _ h9 => h9) rfl d_COD_endCycleOff_29 ?_
    refine lv_if_ne (tgt := 43) hx hb d_COD_endCycleOff_32 (by decide) (fun c_32 => ?_) (fun c_32 => ?_)
    · refine lv_aload_n hx hb d_COD_endCycleOff_43 rfl (lv_at hl 0 rfl) ?_
      have hPc := hP.sub (ws' := [(h0, .inr (5, [.int nu, .int onn, .int pe, .int co, .int la, .int (ofr + 1), .int oz, .int fc, .int fd]))]) [0] rfl
      have hDc := hD.sub (ws' := [(h0, .inr (5, [.int nu, .int onn, .int pe, .int co, .int la, .int (ofr + 1), .int oz, .int fc, .int fd]))]) [0] (by decide) rfl
      refine bx_callKv [0] (va_runV (As := []) (rest := []) ⟨hx, hb, hml, hown, hts⟩ (c_forgetFault l G H.size h0 nu onn pe co la (ofr + 1) oz fc fd) ⟨(callB_of 0 hts (gi_all wd_303) rfl rfl rfl (hT _ wd_63) (hT _ wd_300) (by decide +kernel) ⟨Nat.le_of_ble_eq_true rfl, Nat.le_of_ble_eq_true rfl⟩), (hT _ wd_302), (hT _ wd_10)⟩ (pvW hPc hGK hDc (va_recv hK hPc (ci := 5) (q0 := 0) rfl rfl)) rfl rfl hl.1 rfl (lv_room (Nat.le_of_ble_eq_true rfl)) d_COD_endCycleOff_44 ⟨Nat.le_of_ble_eq_true rfl, Nat.le_of_ble_eq_true rfl⟩) hP hD hS hA rfl rfl rfl (fun H locs hP hD hS => ?_)
      have hP : va_P G.1 vwCl [(h0, .inr (5, [.int nu, .int onn, .int 0, .int 0, .int la, .int 0, .int oz, .int 0, .int 0]))] H := hP
      have hD : va_D A [(h0, .inr (5, [.int nu, .int onn, .int 0, .int 0, .int la, .int 0, .int oz, .int 0, .int 0]))] := hD
      refine lv_aload_n hx hb d_COD_endCycleOff_47 rfl (lv_at hl 0 rfl) ?_
      refine va_get (D := G.1) (ci := 5) (v := .int oz) (C := R_COD) (T := T_COD) (N := 9) hx hb hT in_COD hown hK hP 0 rfl rfl 6 (by decide) (hT _ wd_354) (fun _ h9 => h9) rfl d_COD_endCycleOff_48 ?_
      refine lv_iconst (v := 3) hx hb d_COD_endCycleOff_51 (by decide) ?_
      refine lv_icmp_lt (tgt := 60) hx hb d_COD_endCycleOff_52 (by decide) (fun c_52 => ?_) (fun c_52 => ?_)
      · have hw9 : ([(h0, .inr (5, [.int nu, .int onn, .int (ofK pe ofr pe), .int (ofK pe ofr co), .int (ofL la oz cs), .int (ofK pe ofr (ofr + 1)), .int (ofZ oz cs), .int (ofK pe ofr fc), .int (ofK pe ofr fd)]))] : va_W) = [(h0, .inr (5, [.int nu, .int onn, .int 0, .int 0, .int la, .int 0, .int oz, .int 0, .int 0]))] := by first | (simp [ofK, ofL, ofZ, ofG, c_15, c_32, c_52]; done) | (simp_all [ofK, ofL, ofZ, ofG]; done)
        rw [← hw9] at hP hD
        exact W.vret hx hb hr (fun t ht hW => ⟨⟨rfl, by rw [ht]; exact hP, by rw [hAe]; exact hD⟩, by rw [hAe]; exact hS.F ht⟩) hS.2.2 d_COD_endCycleOff_60
      · refine lv_aload_n hx hb d_COD_endCycleOff_55 rfl (lv_at hl 0 rfl) ?_
        refine lv_iconst (v := 0) hx hb d_COD_endCycleOff_56 (by decide) ?_
        refine va_put (D := G.1) (ci := 5) (v := .int 0) (ty := .boolean) (C := R_COD) (T := T_COD) (N := 9) hx hb hT in_COD t_COD tok_COD nok_COD hown hK hP hD hS 0 rfl rfl 4 (by decide) (hT _ wd_351) (fun _ h9 => h9) rfl (by decide +kernel) rfl rfl (Nat.le_of_ble_eq_true rfl) d_COD_endCycleOff_57 (fun H locs hP hD hS => ?_)
        have hP : va_P G.1 vwCl [(h0, .inr (5, [.int nu, .int onn, .int 0, .int 0, .int 0, .int 0, .int oz, .int 0, .int 0]))] H := hP
        have hD : va_D A [(h0, .inr (5, [.int nu, .int onn, .int 0, .int 0, .int 0, .int 0, .int oz, .int 0, .int 0]))] := hD
        have hw9 : ([(h0, .inr (5, [.int nu, .int onn, .int (ofK pe ofr pe), .int (ofK pe ofr co), .int (ofL la oz cs), .int (ofK pe ofr (ofr + 1)), .int (ofZ oz cs), .int (ofK pe ofr fc), .int (ofK pe ofr fd)]))] : va_W) = [(h0, .inr (5, [.int nu, .int onn, .int 0, .int 0, .int 0, .int 0, .int oz, .int 0, .int 0]))] := by first | (simp [ofK, ofL, ofZ, ofG, c_15, c_32, c_52]; done) | (simp_all [ofK, ofL, ofZ, ofG]; done)
        rw [← hw9] at hP hD
        exact W.vret hx hb hr (fun t ht hW => ⟨⟨rfl, by rw [ht]; exact hP, by rw [hAe]; exact hD⟩, by rw [hAe]; exact hS.F ht⟩) hS.2.2 d_COD_endCycleOff_60
    · refine lv_aload_n hx hb d_COD_endCycleOff_35 rfl (lv_at hl 0 rfl) ?_
      refine va_get (D := G.1) (ci := 5) (v := .int (ofr + 1)) (C := R_COD) (T := T_COD) (N := 9) hx hb hT in_COD hown hK hP 0 rfl rfl 5 (by decide) (hT _ wd_353) (fun _ h9 => h9) rfl d_COD_endCycleOff_36 ?_
      refine lv_iconst (v := 3) hx hb d_COD_endCycleOff_39 (by decide) ?_
      refine lv_icmp_lt (tgt := 47) hx hb d_COD_endCycleOff_40 (by decide) (fun c_40 => ?_) (fun c_40 => ?_)
      · refine lv_aload_n hx hb d_COD_endCycleOff_47 rfl (lv_at hl 0 rfl) ?_
        refine va_get (D := G.1) (ci := 5) (v := .int oz) (C := R_COD) (T := T_COD) (N := 9) hx hb hT in_COD hown hK hP 0 rfl rfl 6 (by decide) (hT _ wd_354) (fun _ h9 => h9) rfl d_COD_endCycleOff_48 ?_
        refine lv_iconst (v := 3) hx hb d_COD_endCycleOff_51 (by decide) ?_
        refine lv_icmp_lt (tgt := 60) hx hb d_COD_endCycleOff_52 (by decide) (fun c_52 => ?_) (fun c_52 => ?_)
        · have hw9 : ([(h0, .inr (5, [.int nu, .int onn, .int (ofK pe ofr pe), .int (ofK pe ofr co), .int (ofL la oz cs), .int (ofK pe ofr (ofr + 1)), .int (ofZ oz cs), .int (ofK pe ofr fc), .int (ofK pe ofr fd)]))] : va_W) = [(h0, .inr (5, [.int nu, .int onn, .int pe, .int co, .int la, .int (ofr + 1), .int oz, .int fc, .int fd]))] := by first | (simp [ofK, ofL, ofZ, ofG, c_15, c_32, c_40, c_52]; done) | (simp_all [ofK, ofL, ofZ, ofG]; done)
          rw [← hw9] at hP hD
          exact W.vret hx hb hr (fun t ht hW => ⟨⟨rfl, by rw [ht]; exact hP, by rw [hAe]; exact hD⟩, by rw [hAe]; exact hS.F ht⟩) hS.2.2 d_COD_endCycleOff_60
        · refine lv_aload_n hx hb d_COD_endCycleOff_55 rfl (lv_at hl 0 rfl) ?_
          refine lv_iconst (v := 0) hx hb d_COD_endCycleOff_56 (by decide) ?_
          refine va_put (D := G.1) (ci := 5) (v := .int 0) (ty := .boolean) (C := R_COD) (T := T_COD) (N := 9) hx hb hT in_COD t_COD tok_COD nok_COD hown hK hP hD hS 0 rfl rfl 4 (by decide) (hT _ wd_351) (fun _ h9 => h9) rfl (by decide +kernel) rfl rfl (Nat.le_of_ble_eq_true rfl) d_COD_endCycleOff_57 (fun H locs hP hD hS => ?_)
          have hP : va_P G.1 vwCl [(h0, .inr (5, [.int nu, .int onn, .int pe, .int co, .int 0, .int (ofr + 1), .int oz, .int fc, .int fd]))] H := hP
          have hD : va_D A [(h0, .inr (5, [.int nu, .int onn, .int pe, .int co, .int 0, .int (ofr + 1), .int oz, .int fc, .int fd]))] := hD
          have hw9 : ([(h0, .inr (5, [.int nu, .int onn, .int (ofK pe ofr pe), .int (ofK pe ofr co), .int (ofL la oz cs), .int (ofK pe ofr (ofr + 1)), .int (ofZ oz cs), .int (ofK pe ofr fc), .int (ofK pe ofr fd)]))] : va_W) = [(h0, .inr (5, [.int nu, .int onn, .int pe, .int co, .int 0, .int (ofr + 1), .int oz, .int fc, .int fd]))] := by first | (simp [ofK, ofL, ofZ, ofG, c_15, c_32, c_40, c_52]; done) | (simp_all [ofK, ofL, ofZ, ofG]; done)
          rw [← hw9] at hP hD
          exact W.vret hx hb hr (fun t ht hW => ⟨⟨rfl, by rw [ht]; exact hP, by rw [hAe]; exact hD⟩, by rw [hAe]; exact hS.F ht⟩) hS.2.2 d_COD_endCycleOff_60
      · refine lv_aload_n hx hb d_COD_endCycleOff_43 rfl (lv_at hl 0 rfl) ?_
        have hPc := hP.sub (ws' := [(h0, .inr (5, [.int nu, .int onn, .int pe, .int co, .int la, .int (ofr + 1), .int oz, .int fc, .int fd]))]) [0] rfl
        have hDc := hD.sub (ws' := [(h0, .inr (5, [.int nu, .int onn, .int pe, .int co, .int la, .int (ofr + 1), .int oz, .int fc, .int fd]))]) [0] (by decide) rfl
        refine bx_callKv [0] (va_runV (As := []) (rest := []) ⟨hx, hb, hml, hown, hts⟩ (c_forgetFault l G H.size h0 nu onn pe co la (ofr + 1) oz fc fd) ⟨(callB_of 0 hts (gi_all wd_303) rfl rfl rfl (hT _ wd_63) (hT _ wd_300) (by decide +kernel) ⟨Nat.le_of_ble_eq_true rfl, Nat.le_of_ble_eq_true rfl⟩), (hT _ wd_302), (hT _ wd_10)⟩ (pvW hPc hGK hDc (va_recv hK hPc (ci := 5) (q0 := 0) rfl rfl)) rfl rfl hl.1 rfl (lv_room (Nat.le_of_ble_eq_true rfl)) d_COD_endCycleOff_44 ⟨Nat.le_of_ble_eq_true rfl, Nat.le_of_ble_eq_true rfl⟩) hP hD hS hA rfl rfl rfl (fun H locs hP hD hS => ?_)
        have hP : va_P G.1 vwCl [(h0, .inr (5, [.int nu, .int onn, .int 0, .int 0, .int la, .int 0, .int oz, .int 0, .int 0]))] H := hP
        have hD : va_D A [(h0, .inr (5, [.int nu, .int onn, .int 0, .int 0, .int la, .int 0, .int oz, .int 0, .int 0]))] := hD
        refine lv_aload_n hx hb d_COD_endCycleOff_47 rfl (lv_at hl 0 rfl) ?_
        refine va_get (D := G.1) (ci := 5) (v := .int oz) (C := R_COD) (T := T_COD) (N := 9) hx hb hT in_COD hown hK hP 0 rfl rfl 6 (by decide) (hT _ wd_354) (fun _ h9 => h9) rfl d_COD_endCycleOff_48 ?_
        refine lv_iconst (v := 3) hx hb d_COD_endCycleOff_51 (by decide) ?_
        refine lv_icmp_lt (tgt := 60) hx hb d_COD_endCycleOff_52 (by decide) (fun c_52 => ?_) (fun c_52 => ?_)
        · have hw9 : ([(h0, .inr (5, [.int nu, .int onn, .int (ofK pe ofr pe), .int (ofK pe ofr co), .int (ofL la oz cs), .int (ofK pe ofr (ofr + 1)), .int (ofZ oz cs), .int (ofK pe ofr fc), .int (ofK pe ofr fd)]))] : va_W) = [(h0, .inr (5, [.int nu, .int onn, .int 0, .int 0, .int la, .int 0, .int oz, .int 0, .int 0]))] := by first | (simp [ofK, ofL, ofZ, ofG, c_15, c_32, c_40, c_52]; done) | (simp_all [ofK, ofL, ofZ, ofG]; done)
          rw [← hw9] at hP hD
          exact W.vret hx hb hr (fun t ht hW => ⟨⟨rfl, by rw [ht]; exact hP, by rw [hAe]; exact hD⟩, by rw [hAe]; exact hS.F ht⟩) hS.2.2 d_COD_endCycleOff_60
        · refine lv_aload_n hx hb d_COD_endCycleOff_55 rfl (lv_at hl 0 rfl) ?_
          refine lv_iconst (v := 0) hx hb d_COD_endCycleOff_56 (by decide) ?_
          refine va_put (D := G.1) (ci := 5) (v := .int 0) (ty := .boolean) (C := R_COD) (T := T_COD) (N := 9) hx hb hT in_COD t_COD tok_COD nok_COD hown hK hP hD hS 0 rfl rfl 4 (by decide) (hT _ wd_351) (fun _ h9 => h9) rfl (by decide +kernel) rfl rfl (Nat.le_of_ble_eq_true rfl) d_COD_endCycleOff_57 (fun H locs hP hD hS => ?_)
          have hP : va_P G.1 vwCl [(h0, .inr (5, [.int nu, .int onn, .int 0, .int 0, .int 0, .int 0, .int oz, .int 0, .int 0]))] H := hP
          have hD : va_D A [(h0, .inr (5, [.int nu, .int onn, .int 0, .int 0, .int 0, .int 0, .int oz, .int 0, .int 0]))] := hD
          have hw9 : ([(h0, .inr (5, [.int nu, .int onn, .int (ofK pe ofr pe), .int (ofK pe ofr co), .int (ofL la oz cs), .int (ofK pe ofr (ofr + 1)), .int (ofZ oz cs), .int (ofK pe ofr fc), .int (ofK pe ofr fd)]))] : va_W) = [(h0, .inr (5, [.int nu, .int onn, .int 0, .int 0, .int 0, .int 0, .int oz, .int 0, .int 0]))] := by first | (simp [ofK, ofL, ofZ, ofG, c_15, c_32, c_40, c_52]; done) | (simp_all [ofK, ofL, ofZ, ofG]; done)
          rw [← hw9] at hP hD
          exact W.vret hx hb hr (fun t ht hW => ⟨⟨rfl, by rw [ht]; exact hP, by rw [hAe]; exact hD⟩, by rw [hAe]; exact hS.F ht⟩) hS.2.2 d_COD_endCycleOff_60
  · refine lv_aload_n hx hb d_COD_endCycleOff_18 rfl (lv_at hl 0 rfl) ?_
    refine lv_dup hx hb d_COD_endCycleOff_19 rfl ?_
    refine va_get (D := G.1) (ci := 5) (v := .int oz) (C := R_COD) (T := T_COD) (N := 9) hx hb hT in_COD hown hK hP 0 rfl rfl 6 (by decide) (hT _ wd_354) (fun _ h9 => h9) rfl d_COD_endCycleOff_20 ?_
    refine lv_iconst (v := 1) hx hb d_COD_endCycleOff_23 (by decide) ?_
    refine lv_iadd hx hb d_COD_endCycleOff_24 ?_
    refine va_put (D := G.1) (ci := 5) (v := .int (oz + 1)) (ty := .int) (C := R_COD) (T := T_COD) (N := 9) hx hb hT in_COD t_COD tok_COD nok_COD hown hK hP hD hS 0 rfl rfl 6 (by decide) (hT _ wd_354) (fun _ h9 => h9) rfl (by decide +kernel) rfl rfl (Nat.le_of_ble_eq_true rfl) d_COD_endCycleOff_25 (fun H locs hP hD hS => ?_)
    have hP : va_P G.1 vwCl [(h0, .inr (5, [.int nu, .int onn, .int pe, .int co, .int la, .int (ofr + 1), .int (oz + 1), .int fc, .int fd]))] H := hP
    have hD : va_D A [(h0, .inr (5, [.int nu, .int onn, .int pe, .int co, .int la, .int (ofr + 1), .int (oz + 1), .int fc, .int fd]))] := hD
    refine lv_aload_n hx hb d_COD_endCycleOff_28 rfl (lv_at hl 0 rfl) ?_
    refine va_get (D := G.1) (ci := 5) (v := .int pe) (C := R_COD) (T := T_COD) (N := 9) hx hb hT in_COD hown hK hP 0 rfl rfl 2 (by decide) (hT _ wd_348) (fun _ h9 => h9) rfl d_COD_endCycleOff_29 ?_
    refine lv_if_ne (tgt := 43) hx hb d_COD_endCycleOff_32 (by decide) (fun c_32 => ?_) (fun c_32 => ?_)
    · refine lv_aload_n hx hb d_COD_endCycleOff_43 rfl (lv_at hl 0 rfl) ?_
      have hPc := hP.sub (ws' := [(h0, .inr (5, [.int nu, .int onn, .int pe, .int co, .int la, .int (ofr + 1), .int (oz + 1), .int fc, .int fd]))]) [0] rfl
      have hDc := hD.sub (ws' := [(h0, .inr (5, [.int nu, .int onn, .int pe, .int co, .int la, .int (ofr + 1), .int (oz + 1), .int fc, .int fd]))]) [0] (by decide) rfl
      refine bx_callKv [0] (va_runV (As := []) (rest := []) ⟨hx, hb, hml, hown, hts⟩ (c_forgetFault l G H.size h0 nu onn pe co la (ofr + 1) (oz + 1) fc fd) ⟨(callB_of 0 hts (gi_all wd_303) rfl rfl rfl (hT _ wd_63) (hT _ wd_300) (by decide +kernel) ⟨Nat.le_of_ble_eq_true rfl, Nat.le_of_ble_eq_true rfl⟩), (hT _ wd_302), (hT _ wd_10)⟩ (pvW hPc hGK hDc (va_recv hK hPc (ci := 5) (q0 := 0) rfl rfl)) rfl rfl hl.1 rfl (lv_room (Nat.le_of_ble_eq_true rfl)) d_COD_endCycleOff_44 ⟨Nat.le_of_ble_eq_true rfl, Nat.le_of_ble_eq_true rfl⟩) hP hD hS hA rfl rfl rfl (fun H locs hP hD hS => ?_)
      have hP : va_P G.1 vwCl [(h0, .inr (5, [.int nu, .int onn, .int 0, .int 0, .int la, .int 0, .int (oz + 1), .int 0, .int 0]))] H := hP
      have hD : va_D A [(h0, .inr (5, [.int nu, .int onn, .int 0, .int 0, .int la, .int 0, .int (oz + 1), .int 0, .int 0]))] := hD
      refine lv_aload_n hx hb d_COD_endCycleOff_47 rfl (lv_at hl 0 rfl) ?_
      refine va_get (D := G.1) (ci := 5) (v := .int (oz + 1)) (C := R_COD) (T := T_COD) (N := 9) hx hb hT in_COD hown hK hP 0 rfl rfl 6 (by decide) (hT _ wd_354) (fun _ h9 => h9) rfl d_COD_endCycleOff_48 ?_
      refine lv_iconst (v := 3) hx hb d_COD_endCycleOff_51 (by decide) ?_
      refine lv_icmp_lt (tgt := 60) hx hb d_COD_endCycleOff_52 (by decide) (fun c_52 => ?_) (fun c_52 => ?_)
      · have hw9 : ([(h0, .inr (5, [.int nu, .int onn, .int (ofK pe ofr pe), .int (ofK pe ofr co), .int (ofL la oz cs), .int (ofK pe ofr (ofr + 1)), .int (ofZ oz cs), .int (ofK pe ofr fc), .int (ofK pe ofr fd)]))] : va_W) = [(h0, .inr (5, [.int nu, .int onn, .int 0, .int 0, .int la, .int 0, .int (oz + 1), .int 0, .int 0]))] := by first | (simp [ofK, ofL, ofZ, ofG, c_15, c_32, c_52]; done) | (simp_all [ofK, ofL, ofZ, ofG]; done)
        rw [← hw9] at hP hD
        exact W.vret hx hb hr (fun t ht hW => ⟨⟨rfl, by rw [ht]; exact hP, by rw [hAe]; exact hD⟩, by rw [hAe]; exact hS.F ht⟩) hS.2.2 d_COD_endCycleOff_60
      · refine lv_aload_n hx hb d_COD_endCycleOff_55 rfl (lv_at hl 0 rfl) ?_
        refine lv_iconst (v := 0) hx hb d_COD_endCycleOff_56 (by decide) ?_
        refine va_put (D := G.1) (ci := 5) (v := .int 0) (ty := .boolean) (C := R_COD) (T := T_COD) (N := 9) hx hb hT in_COD t_COD tok_COD nok_COD hown hK hP hD hS 0 rfl rfl 4 (by decide) (hT _ wd_351) (fun _ h9 => h9) rfl (by decide +kernel) rfl rfl (Nat.le_of_ble_eq_true rfl) d_COD_endCycleOff_57 (fun H locs hP hD hS => ?_)
        have hP : va_P G.1 vwCl [(h0, .inr (5, [.int nu, .int onn, .int 0, .int 0, .int 0, .int 0, .int (oz + 1), .int 0, .int 0]))] H := hP
        have hD : va_D A [(h0, .inr (5, [.int nu, .int onn, .int 0, .int 0, .int 0, .int 0, .int (oz + 1), .int 0, .int 0]))] := hD
        have hw9 : ([(h0, .inr (5, [.int nu, .int onn, .int (ofK pe ofr pe), .int (ofK pe ofr co), .int (ofL la oz cs), .int (ofK pe ofr (ofr + 1)), .int (ofZ oz cs), .int (ofK pe ofr fc), .int (ofK pe ofr fd)]))] : va_W) = [(h0, .inr (5, [.int nu, .int onn, .int 0, .int 0, .int 0, .int 0, .int (oz + 1), .int 0, .int 0]))] := by first | (simp [ofK, ofL, ofZ, ofG, c_15, c_32, c_52]; done) | (simp_all [ofK, ofL, ofZ, ofG]; done)
        rw [← hw9] at hP hD
        exact W.vret hx hb hr (fun t ht hW => ⟨⟨rfl, by rw [ht]; exact hP, by rw [hAe]; exact hD⟩, by rw [hAe]; exact hS.F ht⟩) hS.2.2 d_COD_endCycleOff_60
    · refine lv_aload_n hx hb d_COD_endCycleOff_35 rfl (lv_at hl 0 rfl) ?_
      refine va_get (D := G.1) (ci := 5) (v := .int (ofr + 1)) (C := R_COD) (T := T_COD) (N := 9) hx hb hT in_COD hown hK hP 0 rfl rfl 5 (by decide) (hT _ wd_353) (fun _ h9 => h9) rfl d_COD_endCycleOff_36 ?_
      refine lv_iconst (v := 3) hx hb d_COD_endCycleOff_39 (by decide) ?_
      refine lv_icmp_lt (tgt := 47) hx hb d_COD_endCycleOff_40 (by decide) (fun c_40 => ?_) (fun c_40 => ?_)
      · refine lv_aload_n hx hb d_COD_endCycleOff_47 rfl (lv_at hl 0 rfl) ?_
        refine va_get (D := G.1) (ci := 5) (v := .int (oz + 1)) (C := R_COD) (T := T_COD) (N := 9) hx hb hT in_COD hown hK hP 0 rfl rfl 6 (by decide) (hT _ wd_354) (fun _ h9 => h9) rfl d_COD_endCycleOff_48 ?_
        refine lv_iconst (v := 3) hx hb d_COD_endCycleOff_51 (by decide) ?_
        refine lv_icmp_lt (tgt := 60) hx hb d_COD_endCycleOff_52 (by decide) (fun c_52 => ?_) (fun c_52 => ?_)
        · have hw9 : ([(h0, .inr (5, [.int nu, .int onn, .int (ofK pe ofr pe), .int (ofK pe ofr co), .int (ofL la oz cs), .int (ofK pe ofr (ofr + 1)), .int (ofZ oz cs), .int (ofK pe ofr fc), .int (ofK pe ofr fd)]))] : va_W) = [(h0, .inr (5, [.int nu, .int onn, .int pe, .int co, .int la, .int (ofr + 1), .int (oz + 1), .int fc, .int fd]))] := by first | (simp [ofK, ofL, ofZ, ofG, c_15, c_32, c_40, c_52]; done) | (simp_all [ofK, ofL, ofZ, ofG]; done)
          rw [← hw9] at hP hD
          exact W.vret hx hb hr (fun t ht hW => ⟨⟨rfl, by rw [ht]; exact hP, by rw [hAe]; exact hD⟩, by rw [hAe]; exact hS.F ht⟩) hS.2.2 d_COD_endCycleOff_60
        · refine lv_aload_n hx hb d_COD_endCycleOff_55 rfl (lv_at hl 0 rfl) ?_
          refine lv_iconst (v := 0) hx hb d_COD_endCycleOff_56 (by decide) ?_
          refine va_put (D := G.1) (ci := 5) (v := .int 0) (ty := .boolean) (C := R_COD) (T := T_COD) (N := 9) hx hb hT in_COD t_COD tok_COD nok_COD hown hK hP hD hS 0 rfl rfl 4 (by decide) (hT _ wd_351) (fun _ h9 => h9) rfl (by decide +kernel) rfl rfl (Nat.le_of_ble_eq_true rfl) d_COD_endCycleOff_57 (fun H locs hP hD hS => ?_)
          have hP : va_P G.1 vwCl [(h0, .inr (5, [.int nu, .int onn, .int pe, .int co, .int 0, .int (ofr + 1), .int (oz + 1), .int fc, .int fd]))] H := hP
          have hD : va_D A [(h0, .inr (5, [.int nu, .int onn, .int pe, .int co, .int 0, .int (ofr + 1), .int (oz + 1), .int fc, .int fd]))] := hD
          have hw9 : ([(h0, .inr (5, [.int nu, .int onn, .int (ofK pe ofr pe), .int (ofK pe ofr co), .int (ofL la oz cs), .int (ofK pe ofr (ofr + 1)), .int (ofZ oz cs), .int (ofK pe ofr fc), .int (ofK pe ofr fd)]))] : va_W) = [(h0, .inr (5, [.int nu, .int onn, .int pe, .int co, .int 0, .int (ofr + 1), .int (oz + 1), .int fc, .int fd]))] := by first | (simp [ofK, ofL, ofZ, ofG, c_15, c_32, c_40, c_52]; done) | (simp_all [ofK, ofL, ofZ, ofG]; done)
          rw [← hw9] at hP hD
          exact W.vret hx hb hr (fun t ht hW => ⟨⟨rfl, by rw [ht]; exact hP, by rw [hAe]; exact hD⟩, by rw [hAe]; exact hS.F ht⟩) hS.2.2 d_COD_endCycleOff_60
      · refine lv_aload_n hx hb d_COD_endCycleOff_43 rfl (lv_at hl 0 rfl) ?_
        have hPc := hP.sub (ws' := [(h0, .inr (5, [.int nu, .int onn, .int pe, .int co, .int la, .int (ofr + 1), .int (oz + 1), .int fc, .int fd]))]) [0] rfl
        have hDc := hD.sub (ws' := [(h0, .inr (5, [.int nu, .int onn, .int pe, .int co, .int la, .int (ofr + 1), .int (oz + 1), .int fc, .int fd]))]) [0] (by decide) rfl
        refine bx_callKv [0] (va_runV (As := []) (rest := []) ⟨hx, hb, hml, hown, hts⟩ (c_forgetFault l G H.size h0 nu onn pe co la (ofr + 1) (oz + 1) fc fd) ⟨(callB_of 0 hts (gi_all wd_303) rfl rfl rfl (hT _ wd_63) (hT _ wd_300) (by decide +kernel) ⟨Nat.le_of_ble_eq_true rfl, Nat.le_of_ble_eq_true rfl⟩), (hT _ wd_302), (hT _ wd_10)⟩ (pvW hPc hGK hDc (va_recv hK hPc (ci := 5) (q0 := 0) rfl rfl)) rfl rfl hl.1 rfl (lv_room (Nat.le_of_ble_eq_true rfl)) d_COD_endCycleOff_44 ⟨Nat.le_of_ble_eq_true rfl, Nat.le_of_ble_eq_true rfl⟩) hP hD hS hA rfl rfl rfl (fun H locs hP hD hS => ?_)
        have hP : va_P G.1 vwCl [(h0, .inr (5, [.int nu, .int onn, .int 0, .int 0, .int la, .int 0, .int (oz + 1), .int 0, .int 0]))] H := hP
        have hD : va_D A [(h0, .inr (5, [.int nu, .int onn, .int 0, .int 0, .int la, .int 0, .int (oz + 1), .int 0, .int 0]))] := hD
        refine lv_aload_n hx hb d_COD_endCycleOff_47 rfl (lv_at hl 0 rfl) ?_
        refine va_get (D := G.1) (ci := 5) (v := .int (oz + 1)) (C := R_COD) (T := T_COD) (N := 9) hx hb hT in_COD hown hK hP 0 rfl rfl 6 (by decide) (hT _ wd_354) (fun _ h9 => h9) rfl d_COD_endCycleOff_48 ?_
        refine lv_iconst (v := 3) hx hb d_COD_endCycleOff_51 (by decide) ?_
        refine lv_icmp_lt (tgt := 60) hx hb d_COD_endCycleOff_52 (by decide) (fun c_52 => ?_) (fun c_52 => ?_)
        · have hw9 : ([(h0, .inr (5, [.int nu, .int onn, .int (ofK pe ofr pe), .int (ofK pe ofr co), .int (ofL la oz cs), .int (ofK pe ofr (ofr + 1)), .int (ofZ oz cs), .int (ofK pe ofr fc), .int (ofK pe ofr fd)]))] : va_W) = [(h0, .inr (5, [.int nu, .int onn, .int 0, .int 0, .int la, .int 0, .int (oz + 1), .int 0, .int 0]))] := by first | (simp [ofK, ofL, ofZ, ofG, c_15, c_32, c_40, c_52]; done) | (simp_all [ofK, ofL, ofZ, ofG]; done)
          rw [← hw9] at hP hD
          exact W.vret hx hb hr (fun t ht hW => ⟨⟨rfl, by rw [ht]; exact hP, by rw [hAe]; exact hD⟩, by rw [hAe]; exact hS.F ht⟩) hS.2.2 d_COD_endCycleOff_60
        · refine lv_aload_n hx hb d_COD_endCycleOff_55 rfl (lv_at hl 0 rfl) ?_
          refine lv_iconst (v := 0) hx hb d_COD_endCycleOff_56 (by decide) ?_
          refine va_put (D := G.1) (ci := 5) (v := .int 0) (ty := .boolean) (C := R_COD) (T := T_COD) (N := 9) hx hb hT in_COD t_COD tok_COD nok_COD hown hK hP hD hS 0 rfl rfl 4 (by decide) (hT _ wd_351) (fun _ h9 => h9) rfl (by decide +kernel) rfl rfl (Nat.le_of_ble_eq_true rfl) d_COD_endCycleOff_57 (fun H locs hP hD hS => ?_)
          have hP : va_P G.1 vwCl [(h0, .inr (5, [.int nu, .int onn, .int 0, .int 0, .int 0, .int 0, .int (oz + 1), .int 0, .int 0]))] H := hP
          have hD : va_D A [(h0, .inr (5, [.int nu, .int onn, .int 0, .int 0, .int 0, .int 0, .int (oz + 1), .int 0, .int 0]))] := hD
          have hw9 : ([(h0, .inr (5, [.int nu, .int onn, .int (ofK pe ofr pe), .int (ofK pe ofr co), .int (ofL la oz cs), .int (ofK pe ofr (ofr + 1)), .int (ofZ oz cs), .int (ofK pe ofr fc), .int (ofK pe ofr fd)]))] : va_W) = [(h0, .inr (5, [.int nu, .int onn, .int 0, .int 0, .int 0, .int 0, .int (oz + 1), .int 0, .int 0]))] := by first | (simp [ofK, ofL, ofZ, ofG, c_15, c_32, c_40, c_52]; done) | (simp_all [ofK, ofL, ofZ, ofG]; done)
          rw [← hw9] at hP hD
          exact W.vret hx hb hr (fun t ht hW => ⟨⟨rfl, by rw [ht]; exact hP, by rw [hAe]; exact hD⟩, by rw [hAe]; exact hS.F ht⟩) hS.2.2 d_COD_endCycleOff_60
set_option maxHeartbeats 4000000 in
set_option maxRecDepth 100000 in
theorem c_hasFrozenRow (l : Launch) (G : GG) (h0 : Nat) (nu : Int32) (onn : Int32) (pe : Int32) (co : Int32) (la : Int32) (ofr : Int32) (oz : Int32) (fc : Int32) (fd : Int32)  : Met l y_COD_hasFrozenRow w_COD_hasFrozenRow ({ frames := 0, cells := 0, slots := 0, locals := 0 }) (va_Pc [.ref h0] (Rw G [(h0, .inr (5, [.int nu, .int onn, .int pe, .int co, .int la, .int ofr, .int oz, .int fc, .int fd]))])) (k2_QcV (.int (frF fc))) 0 0 (fun _ => False) := by
  refine Met.ofW (cc := b_COD_hasFrozenRow) (maxL := 1) (ret := (some .boolean)) (by decide) rfl ?_
  intro p e s m args below meth c s₁ B hml hv
  obtain ⟨rfl, hP, hGK⟩ := hv
  have hx := B.exec
  have hb := B.bytes
  have hr := B.returns
  have hts := atoms_spec (ws := w_COD_hasFrozenRow) B.pre
  have hT : ∀ w ∈ lwG, w.before _ s = true := fun w h => hts w (List.mem_cons_of_mem _ h)
  have hown : s.vm.findClass R_COD = some m.cls := findClass_of_methodNamed B.named
  have hlocks := B.notSynchronized
  have hK := hGK.1
  have hN := hGK.2
  have hP : va_P G.1 vwCl [(h0, .inr (5, [.int nu, .int onn, .int pe, .int co, .int la, .int ofr, .int oz, .int fc, .int fd]))] s.heap := hP
  have hl := lv_entry ([.ref h0]) (n := 1) (Nat.le_of_ble_eq_true rfl)
  rw [lg_entry_eq]
  generalize (lg_sl ([.ref h0]) ++ List.replicate (1 - (lg_sl ([.ref h0])).length) Slot.unset).toArray = ls at hl ⊢
  have hl : lv_has ls 1 [(0, .ref h0)] := hl
  generalize hHe : s.heap = H at hP ⊢
  refine lv_aload_n hx hb d_COD_hasFrozenRow_0 rfl (lv_at hl 0 rfl) ?_
  refine va_get (D := G.1) (ci := 5) (v := .int fc) (C := R_COD) (T := T_COD) (N := 9) hx hb hT in_COD hown hK hP 0 rfl rfl 7 (by decide) (hT _ wd_355) (fun _ h9 => h9) rfl d_COD_hasFrozenRow_1 ?_
  refine lv_if_eq (tgt := 11) hx hb d_COD_hasFrozenRow_4 (by decide) (fun c_4 => ?_) (fun c_4 => ?_)
  · refine lv_iconst (v := 0) hx hb d_COD_hasFrozenRow_11 (by decide) ?_
    have hq9 : (.int (frF fc)) = (.int 0 : Value) := by first | (simp [frF, c_4]; done) | (simp_all [frF]; done)
    exact W.zret (v := 0) hx hb hr rfl (fun t ht _ => ⟨by rw [hq9], ht.trans hHe.symm⟩) (fun _ h => by cases h) d_COD_hasFrozenRow_12
  · refine lv_iconst (v := 1) hx hb d_COD_hasFrozenRow_7 (by decide) ?_
    refine lv_goto (tgt := 12) hx hb d_COD_hasFrozenRow_8 (by decide) ?_
    have hq9 : (.int (frF fc)) = (.int 1 : Value) := by first | (simp [frF, c_4]; done) | (simp_all [frF]; done)
    exact W.zret (v := 1) hx hb hr rfl (fun t ht _ => ⟨by rw [hq9], ht.trans hHe.symm⟩) (fun _ h => by cases h) d_COD_hasFrozenRow_12
set_option maxHeartbeats 4000000 in
set_option maxRecDepth 100000 in
theorem c_isToldIn (l : Launch) (G : GG) (h0 : Nat) (nu : Int32) (onn : Int32) (pe : Int32) (co : Int32) (la : Int32) (ofr : Int32) (oz : Int32) (fc : Int32) (fd : Int32) (md : Int32) (hpe : bz pe) (hco : bz co) (hla : bz la) : Met l y_COD_isToldIn w_COD_isToldIn ({ frames := 0, cells := 0, slots := 0, locals := 0 }) (va_Pc [.ref h0, .int md] (Rw G [(h0, .inr (5, [.int nu, .int onn, .int pe, .int co, .int la, .int ofr, .int oz, .int fc, .int fd]))])) (k2_QcV (.int (toldF md pe co la))) 0 0 (fun _ => False) := by
  refine Met.ofW (cc := b_COD_isToldIn) (maxL := 2) (ret := (some .boolean)) (by decide) rfl ?_
  intro p e s m args below meth c s₁ B hml hv
  obtain ⟨rfl, hP, hGK⟩ := hv
  have hx := B.exec
  have hb := B.bytes
  have hr := B.returns
  have hts := atoms_spec (ws := w_COD_isToldIn) B.pre
  have hT : ∀ w ∈ lwG, w.before _ s = true := fun w h => hts w (List.mem_cons_of_mem _ h)
  have hown : s.vm.findClass R_COD = some m.cls := findClass_of_methodNamed B.named
  have hlocks := B.notSynchronized
  have hK := hGK.1
  have hN := hGK.2
  have hP : va_P G.1 vwCl [(h0, .inr (5, [.int nu, .int onn, .int pe, .int co, .int la, .int ofr, .int oz, .int fc, .int fd]))] s.heap := hP
  have hl := lv_entry ([.ref h0, .int md]) (n := 2) (Nat.le_of_ble_eq_true rfl)
  rw [lg_entry_eq]
  generalize (lg_sl ([.ref h0, .int md]) ++ List.replicate (2 - (lg_sl ([.ref h0, .int md])).length) Slot.unset).toArray = ls at hl ⊢
  have hl : lv_has ls 2 [(0, .ref h0), (1, .int md)] := hl
  generalize hHe : s.heap = H at hP ⊢
  refine lv_iload_n hx hb d_COD_isToldIn_0 rfl (lv_at hl 1 rfl) ?_
  rcases Decidable.em (md = 3) with c_1_3 | c_1_3
  · refine lv_lookup (off := 35) (tgt := 36) hx hb d_COD_isToldIn_1 (by decide) (by rw [c_1_3]; decide) (by decide) ?_
    refine lv_aload_n hx hb d_COD_isToldIn_36 rfl (lv_at hl 0 rfl) ?_
    refine va_get (D := G.1) (ci := 5) (v := .int co) (C := R_COD) (T := T_COD) (N := 9) hx hb hT in_COD hown hK hP 0 rfl rfl 3 (by decide) (hT _ wd_349) (fun _ h9 => h9) rfl d_COD_isToldIn_37 ?_
    have hq9 : (.int (toldF md pe co la)) = (.int co : Value) := by first | (simp [toldF, c_1_3]; done) | (simp_all [toldF]; done)
    exact W.zret (v := co) hx hb hr (bz.n (by assumption)) (fun t ht _ => ⟨by rw [hq9], ht.trans hHe.symm⟩) (fun _ h => by cases h) d_COD_isToldIn_40
  rcases Decidable.em (md = 7) with c_1_7 | c_1_7
  · refine lv_lookup (off := 40) (tgt := 41) hx hb d_COD_isToldIn_1 (by decide) (by rw [c_1_7]; decide) (by decide) ?_
    refine lv_aload_n hx hb d_COD_isToldIn_41 rfl (lv_at hl 0 rfl) ?_
    refine va_get (D := G.1) (ci := 5) (v := .int pe) (C := R_COD) (T := T_COD) (N := 9) hx hb hT in_COD hown hK hP 0 rfl rfl 2 (by decide) (hT _ wd_348) (fun _ h9 => h9) rfl d_COD_isToldIn_42 ?_
    have hq9 : (.int (toldF md pe co la)) = (.int pe : Value) := by first | (simp [toldF, c_1_3, c_1_7]; done) | (simp_all [toldF]; done)
    exact W.zret (v := pe) hx hb hr (bz.n (by assumption)) (fun t ht _ => ⟨by rw [hq9], ht.trans hHe.symm⟩) (fun _ h => by cases h) d_COD_isToldIn_45
  rcases Decidable.em (md = 10) with c_1_10 | c_1_10
  · refine lv_lookup (off := 45) (tgt := 46) hx hb d_COD_isToldIn_1 (by decide) (by rw [c_1_10]; decide) (by decide) ?_
    refine lv_aload_n hx hb d_COD_isToldIn_46 rfl (lv_at hl 0 rfl) ?_
    refine va_get (D := G.1) (ci := 5) (v := .int la) (C := R_COD) (T := T_COD) (N := 9) hx hb hT in_COD hown hK hP 0 rfl rfl 4 (by decide) (hT _ wd_351) (fun _ h9 => h9) rfl d_COD_isToldIn_47 ?_
    have hq9 : (.int (toldF md pe co la)) = (.int la : Value) := by first | (simp [toldF, c_1_3, c_1_7, c_1_10]; done) | (simp_all [toldF]; done)
    exact W.zret (v := la) hx hb hr (bz.n (by assumption)) (fun t ht _ => ⟨by rw [hq9], ht.trans hHe.symm⟩) (fun _ h => by cases h) d_COD_isToldIn_50
  refine lv_lookup (off := 50) (tgt := 51) hx hb d_COD_isToldIn_1 (by decide) (by rw [lv_osw c_1_3 (by decide)]; rw [lv_osw c_1_7 (by decide)]; rw [lv_osw c_1_10 (by decide)]; rfl) (by decide) ?_
  refine lv_iconst (v := 0) hx hb d_COD_isToldIn_51 (by decide) ?_
  have hq9 : (.int (toldF md pe co la)) = (.int 0 : Value) := by first | (simp [toldF, c_1_3, c_1_7, c_1_10]; done) | (simp_all [toldF]; done)
  exact W.zret (v := 0) hx hb hr rfl (fun t ht _ => ⟨by rw [hq9], ht.trans hHe.symm⟩) (fun _ h => by cases h) d_COD_isToldIn_52
set_option maxHeartbeats 4000000 in
set_option maxRecDepth 100000 in
theorem c_Lamp_init (l : Launch) (G : GG) (sz : Nat) (h0 : Nat) (li : Int32) (me : Int64) (mi : Int64)  : Met l y_LAMP_init w_LAMP_init ({ frames := 1, cells := 0, slots := 0, locals := 12 }) (va_Pc [.ref h0] (Pw G sz [(h0, .inr (2, [.int li, .long me, .long mi]))])) (QW G none [(h0, .inr (2, [.int li, .long me, .long mi]))] [(h0, .inr (2, [.int 0, .long 0, .long 0]))] sz) 0 0 (va_A [(h0, .inr (2, [.int li, .long me, .long mi]))] sz) := by
  refine Met.ofW (cc := b_LAMP_init) (maxL := 1) (ret := none) (by decide) rfl ?_
  intro p e s m args below meth c s₁ B hml hv
  obtain ⟨rfl, hsz, hP, hGK, hD0⟩ := hv
  have hx := B.exec
  have hb := B.bytes
  have hr := B.returns
  have hts := atoms_spec (ws := w_LAMP_init) B.pre
  have hT : ∀ w ∈ lwG, w.before _ s = true := fun w h => hts w (List.mem_cons_of_mem _ h)
  have hown : s.vm.findClass R_LAMP = some m.cls := findClass_of_methodNamed B.named
  have hlocks := B.notSynchronized
  have hK := hGK.1
  have hN := hGK.2
  have hin : meth.name = "<init>" := (name_of_methodNamed B.named B.method).1
  subst hsz
  have hD := hD0.self (sz := s.heap.size)
  generalize hAe : va_A [(h0, .inr (2, [.int li, .long me, .long mi]))] s.heap.size = A at hD ⊢
  have hA : ∀ q : Nat, s.heap.size ≤ q → A q := fun q h => by rw [← hAe]; exact Or.inr h
  have hS : va_S A s.heap s.heap [] := va_S.rf
  have hP : va_P G.1 vwCl [(h0, .inr (2, [.int li, .long me, .long mi]))] s.heap := hP
  have hl := lv_entry ([.ref h0]) (n := 1) (Nat.le_of_ble_eq_true rfl)
  rw [lg_entry_eq]
  generalize (lg_sl ([.ref h0]) ++ List.replicate (1 - (lg_sl ([.ref h0])).length) Slot.unset).toArray = ls at hl ⊢
  have hl : lv_has ls 1 [(0, .ref h0)] := hl
  refine lv_aload_n hx hb d_LAMP_init_0 rfl (lv_at hl 0 rfl) ?_
  refine W.objInit hx hb hown (hT _ wd_104) (hT _ wd_71) (hT _ wd_72) rfl (by rw [hml]; exact hl.1) rfl d_LAMP_init_1 (Nat.le_of_ble_eq_true rfl) (Nat.le_of_ble_eq_true rfl) ?_
  refine W.eq (g2 := F0 m 4 ls []) rfl ?_
  refine lv_aload_n hx hb d_LAMP_init_4 rfl (lv_at hl 0 rfl) ?_
  refine lv_iconst (v := 0) hx hb d_LAMP_init_5 (by decide) ?_
  refine va_put (D := G.1) (ci := 2) (v := .int 0) (ty := .boolean) (C := R_LAMP) (T := T_LAMP) (N := 3) hx hb hT in_LAMP t_LAMP tok_LAMP nok_LAMP hown hK hP hD hS 0 rfl rfl 0 (by decide) (hT _ wd_105) (fun _ h9 => h9) rfl (by decide +kernel) rfl rfl (Nat.le_of_ble_eq_true rfl) d_LAMP_init_6 (fun H locs hP hD hS => ?_)
  have hP : va_P G.1 vwCl [(h0, .inr (2, [.int 0, .long me, .long mi]))] H := hP
  have hD : va_D A [(h0, .inr (2, [.int 0, .long me, .long mi]))] := hD
  refine lv_aload_n hx hb d_LAMP_init_9 rfl (lv_at hl 0 rfl) ?_
  refine lv_lconst (v := 0) hx hb d_LAMP_init_10 (by decide) ?_
  refine va_put (D := G.1) (ci := 2) (v := .long 0) (ty := .long) (C := R_LAMP) (T := T_LAMP) (N := 3) hx hb hT in_LAMP t_LAMP tok_LAMP nok_LAMP hown hK hP hD hS 0 rfl rfl 1 (by decide) (hT _ wd_107) (fun _ h9 => h9) rfl (by decide +kernel) rfl rfl (Nat.le_of_ble_eq_true rfl) d_LAMP_init_11 (fun H locs hP hD hS => ?_)
  have hP : va_P G.1 vwCl [(h0, .inr (2, [.int 0, .long 0, .long mi]))] H := hP
  have hD : va_D A [(h0, .inr (2, [.int 0, .long 0, .long mi]))] := hD
  refine lv_aload_n hx hb d_LAMP_init_14 rfl (lv_at hl 0 rfl) ?_
  refine lv_lconst (v := 0) hx hb d_LAMP_init_15 (by decide) ?_
  refine va_put (D := G.1) (ci := 2) (v := .long 0) (ty := .long) (C := R_LAMP) (T := T_LAMP) (N := 3) hx hb hT in_LAMP t_LAMP tok_LAMP nok_LAMP hown hK hP hD hS 0 rfl rfl 2 (by decide) (hT _ wd_109) (fun _ h9 => h9) rfl (by decide +kernel) rfl rfl (Nat.le_of_ble_eq_true rfl) d_LAMP_init_16 (fun H locs hP hD hS => ?_)
  have hP : va_P G.1 vwCl [(h0, .inr (2, [.int 0, .long 0, .long 0]))] H := hP
  have hD : va_D A [(h0, .inr (2, [.int 0, .long 0, .long 0]))] := hD
  exact W.vret hx hb hr (fun t ht hW => ⟨⟨rfl, by rw [ht]; exact hP, by rw [hAe]; exact hD⟩, by rw [hAe]; exact hS.F ht⟩) hS.2.2 d_LAMP_init_19
set_option maxHeartbeats 4000000 in
set_option maxRecDepth 100000 in
theorem c_Lamp_reset (l : Launch) (G : GG) (sz : Nat) (h0 : Nat) (li : Int32) (me : Int64) (mi : Int64)  : Met l y_LAMP_reset w_LAMP_reset ({ frames := 0, cells := 0, slots := 0, locals := 0 }) (va_Pc [.ref h0] (Pw G sz [(h0, .inr (2, [.int li, .long me, .long mi]))])) (QW G none [(h0, .inr (2, [.int li, .long me, .long mi]))] [(h0, .inr (2, [.int 0, .long 0, .long 0]))] sz) 0 0 (va_A [(h0, .inr (2, [.int li, .long me, .long mi]))] sz) := by
  refine Met.ofW (cc := b_LAMP_reset) (maxL := 1) (ret := none) (by decide) rfl ?_
  intro p e s m args below meth c s₁ B hml hv
  obtain ⟨rfl, hsz, hP, hGK, hD0⟩ := hv
  have hx := B.exec
  have hb := B.bytes
  have hr := B.returns
  have hts := atoms_spec (ws := w_LAMP_reset) B.pre
  have hT : ∀ w ∈ lwG, w.before _ s = true := fun w h => hts w (List.mem_cons_of_mem _ h)
  have hown : s.vm.findClass R_LAMP = some m.cls := findClass_of_methodNamed B.named
  have hlocks := B.notSynchronized
  have hK := hGK.1
  have hN := hGK.2
  subst hsz
  have hD := hD0.self (sz := s.heap.size)
  generalize hAe : va_A [(h0, .inr (2, [.int li, .long me, .long mi]))] s.heap.size = A at hD ⊢
  have hA : ∀ q : Nat, s.heap.size ≤ q → A q := fun q h => by rw [← hAe]; exact Or.inr h
  have hS : va_S A s.heap s.heap [] := va_S.rf
  have hP : va_P G.1 vwCl [(h0, .inr (2, [.int li, .long me, .long mi]))] s.heap := hP
  have hl := lv_entry ([.ref h0]) (n := 1) (Nat.le_of_ble_eq_true rfl)
  rw [lg_entry_eq]
  generalize (lg_sl ([.ref h0]) ++ List.replicate (1 - (lg_sl ([.ref h0])).length) Slot.unset).toArray = ls at hl ⊢
  have hl : lv_has ls 1 [(0, .ref h0)] := hl
  refine lv_aload_n hx hb d_LAMP_reset_0 rfl (lv_at hl 0 rfl) ?_
  refine lv_iconst (v := 0) hx hb d_LAMP_reset_1 (by decide) ?_
  refine va_put (D := G.1) (ci := 2) (v := .int 0) (ty := .boolean) (C := R_LAMP) (T := T_LAMP) (N := 3) hx hb hT in_LAMP t_LAMP tok_LAMP nok_LAMP hown hK hP hD hS 0 rfl rfl 0 (by decide) (hT _ wd_105) (fun _ h9 => h9) rfl (by decide +kernel) rfl rfl (Nat.le_of_ble_eq_true rfl) d_LAMP_reset_2 (fun H locs hP hD hS => ?_)
  have hP : va_P G.1 vwCl [(h0, .inr (2, [.int 0, .long me, .long mi]))] H := hP
  have hD : va_D A [(h0, .inr (2, [.int 0, .long me, .long mi]))] := hD
  refine lv_aload_n hx hb d_LAMP_reset_5 rfl (lv_at hl 0 rfl) ?_
  refine lv_lconst (v := 0) hx hb d_LAMP_reset_6 (by decide) ?_
  refine va_put (D := G.1) (ci := 2) (v := .long 0) (ty := .long) (C := R_LAMP) (T := T_LAMP) (N := 3) hx hb hT in_LAMP t_LAMP tok_LAMP nok_LAMP hown hK hP hD hS 0 rfl rfl 1 (by decide) (hT _ wd_107) (fun _ h9 => h9) rfl (by decide +kernel) rfl rfl (Nat.le_of_ble_eq_true rfl) d_LAMP_reset_7 (fun H locs hP hD hS => ?_)
  have hP : va_P G.1 vwCl [(h0, .inr (2, [.int 0, .long 0, .long mi]))] H := hP
  have hD : va_D A [(h0, .inr (2, [.int 0, .long 0, .long mi]))] := hD
  refine lv_aload_n hx hb d_LAMP_reset_10 rfl (lv_at hl 0 rfl) ?_
  refine lv_lconst (v := 0) hx hb d_LAMP_reset_11 (by decide) ?_
  refine va_put (D := G.1) (ci := 2) (v := .long 0) (ty := .long) (C := R_LAMP) (T := T_LAMP) (N := 3) hx hb hT in_LAMP t_LAMP tok_LAMP nok_LAMP hown hK hP hD hS 0 rfl rfl 2 (by decide) (hT _ wd_109) (fun _ h9 => h9) rfl (by decide +kernel) rfl rfl (Nat.le_of_ble_eq_true rfl) d_LAMP_reset_12 (fun H locs hP hD hS => ?_)
  have hP : va_P G.1 vwCl [(h0, .inr (2, [.int 0, .long 0, .long 0]))] H := hP
  have hD : va_D A [(h0, .inr (2, [.int 0, .long 0, .long 0]))] := hD
  exact W.vret hx hb hr (fun t ht hW => ⟨⟨rfl, by rw [ht]; exact hP, by rw [hAe]; exact hD⟩, by rw [hAe]; exact hS.F ht⟩) hS.2.2 d_LAMP_reset_15
set_option maxHeartbeats 4000000 in
set_option maxRecDepth 100000 in
theorem c_follow (l : Launch) (G : GG) (sz : Nat) (h0 : Nat) (li : Int32) (me : Int64) (mi : Int64) (sb : Int32) (hsb : bz sb) : Met l y_LAMP_follow w_LAMP_follow ({ frames := 1, cells := 0, slots := 0, locals := 20 }) (va_Pc [.ref h0, .int sb] (Pw G sz [(h0, .inr (2, [.int li, .long me, .long mi]))])) (QW G none [(h0, .inr (2, [.int li, .long me, .long mi]))] [(h0, .inr (2, [.int sb, .long (foZ sb li me), .long (foZ sb li mi)]))] sz) 0 0 (va_A [(h0, .inr (2, [.int li, .long me, .long mi]))] sz) := by
  refine Met.ofW (cc := b_LAMP_follow) (maxL := 2) (ret := none) (by decide) rfl ?_
  intro p e s m args below meth c s₁ B hml hv
  obtain ⟨rfl, hsz, hP, hGK, hD0⟩ := hv
  have hx := B.exec
  have hb := B.bytes
  have hr := B.returns
  have hts := atoms_spec (ws := w_LAMP_follow) B.pre
  have hT : ∀ w ∈ lwG, w.before _ s = true := fun w h => hts w (List.mem_cons_of_mem _ h)
  have hown : s.vm.findClass R_LAMP = some m.cls := findClass_of_methodNamed B.named
  have hlocks := B.notSynchronized
  have hK := hGK.1
  have hN := hGK.2
  subst hsz
  have hD := hD0.self (sz := s.heap.size)
  generalize hAe : va_A [(h0, .inr (2, [.int li, .long me, .long mi]))] s.heap.size = A at hD ⊢
  have hA : ∀ q : Nat, s.heap.size ≤ q → A q := fun q h => by rw [← hAe]; exact Or.inr h
  have hS : va_S A s.heap s.heap [] := va_S.rf
  have hP : va_P G.1 vwCl [(h0, .inr (2, [.int li, .long me, .long mi]))] s.heap := hP
  have hl := lv_entry ([.ref h0, .int sb]) (n := 2) (Nat.le_of_ble_eq_true rfl)
  rw [lg_entry_eq]
  generalize (lg_sl ([.ref h0, .int sb]) ++ List.replicate (2 - (lg_sl ([.ref h0, .int sb])).length) Slot.unset).toArray = ls at hl ⊢
  have hl : lv_has ls 2 [(0, .ref h0), (1, .int sb)] := hl
  refine lv_iload_n hx hb d_LAMP_follow_0 rfl (lv_at hl 1 rfl) ?_
  refine lv_if_eq (tgt := 15) hx hb d_LAMP_follow_1 (by decide) (fun c_1 => ?_) (fun c_1 => ?_)
  · refine lv_aload_n hx hb d_LAMP_follow_15 rfl (lv_at hl 0 rfl) ?_
    refine lv_iload_n hx hb d_LAMP_follow_16 rfl (lv_at hl 1 rfl) ?_
    refine va_put (D := G.1) (ci := 2) (v := .int sb) (ty := .boolean) (C := R_LAMP) (T := T_LAMP) (N := 3) hx hb hT in_LAMP t_LAMP tok_LAMP nok_LAMP hown hK hP hD hS 0 rfl rfl 0 (by decide) (hT _ wd_105) (fun _ h9 => h9) rfl (by decide +kernel) (bz.n (by assumption)) (bz.f (by assumption)) (Nat.le_of_ble_eq_true rfl) d_LAMP_follow_17 (fun H locs hP hD hS => ?_)
    have hP : va_P G.1 vwCl [(h0, .inr (2, [.int sb, .long me, .long mi]))] H := hP
    have hD : va_D A [(h0, .inr (2, [.int sb, .long me, .long mi]))] := hD
    have hw9 : ([(h0, .inr (2, [.int sb, .long (foZ sb li me), .long (foZ sb li mi)]))] : va_W) = [(h0, .inr (2, [.int sb, .long me, .long mi]))] := by first | (simp [foZ, c_1]; done) | (simp_all [foZ]; done)
    rw [← hw9] at hP hD
    exact W.vret hx hb hr (fun t ht hW => ⟨⟨rfl, by rw [ht]; exact hP, by rw [hAe]; exact hD⟩, by rw [hAe]; exact hS.F ht⟩) hS.2.2 d_LAMP_follow_20
  · refine lv_aload_n hx hb d_LAMP_follow_4 rfl (lv_at hl 0 rfl) ?_
    refine va_get (D := G.1) (ci := 2) (v := .int li) (C := R_LAMP) (T := T_LAMP) (N := 3) hx hb hT in_LAMP hown hK hP 0 rfl rfl 0 (by decide) (hT _ wd_105) (fun _ h9 => h9) rfl d_LAMP_follow_5 ?_
    refine lv_if_ne (tgt := 15) hx hb d_LAMP_follow_8 (by decide) (fun c_8 => ?_) (fun c_8 => ?_)
    · refine lv_aload_n hx hb d_LAMP_follow_15 rfl (lv_at hl 0 rfl) ?_
      refine lv_iload_n hx hb d_LAMP_follow_16 rfl (lv_at hl 1 rfl) ?_
      refine va_put (D := G.1) (ci := 2) (v := .int sb) (ty := .boolean) (C := R_LAMP) (T := T_LAMP) (N := 3) hx hb hT in_LAMP t_LAMP tok_LAMP nok_LAMP hown hK hP hD hS 0 rfl rfl 0 (by decide) (hT _ wd_105) (fun _ h9 => h9) rfl (by decide +kernel) (bz.n (by assumption)) (bz.f (by assumption)) (Nat.le_of_ble_eq_true rfl) d_LAMP_follow_17 (fun H locs hP hD hS => ?_)
      have hP : va_P G.1 vwCl [(h0, .inr (2, [.int sb, .long me, .long mi]))] H := hP
      have hD : va_D A [(h0, .inr (2, [.int sb, .long me, .long mi]))] := hD
      have hw9 : ([(h0, .inr (2, [.int sb, .long (foZ sb li me), .long (foZ sb li mi)]))] : va_W) = [(h0, .inr (2, [.int sb, .long me, .long mi]))] := by first | (simp [foZ, c_1, c_8]; done) | (simp_all [foZ]; done)
      rw [← hw9] at hP hD
      exact W.vret hx hb hr (fun t ht hW => ⟨⟨rfl, by rw [ht]; exact hP, by rw [hAe]; exact hD⟩, by rw [hAe]; exact hS.F ht⟩) hS.2.2 d_LAMP_follow_20
    · refine lv_aload_n hx hb d_LAMP_follow_11 rfl (lv_at hl 0 rfl) ?_
      have hPc := hP.sub (ws' := [(h0, .inr (2, [.int li, .long me, .long mi]))]) [0] rfl
      have hDc := hD.sub (ws' := [(h0, .inr (2, [.int li, .long me, .long mi]))]) [0] (by decide) rfl
      refine bx_callKv [0] (va_runV (As := []) (rest := []) ⟨hx, hb, hml, hown, hts⟩ (c_Lamp_reset l G s.heap.size h0 li me mi) ⟨(callB_of 0 hts (gi_all wd_315) rfl rfl rfl (hT _ wd_49) (hT _ wd_312) (by decide +kernel) ⟨Nat.le_of_ble_eq_true rfl, Nat.le_of_ble_eq_true rfl⟩), (hT _ wd_314), (hT _ wd_13)⟩ (pvW hPc hGK hDc (va_recv hK hPc (ci := 2) (q0 := 0) rfl rfl)) rfl rfl hl.1 rfl (lv_room (Nat.le_of_ble_eq_true rfl)) d_LAMP_follow_12 ⟨Nat.le_of_ble_eq_true rfl, Nat.le_of_ble_eq_true rfl⟩) hP hD hS hA rfl rfl rfl (fun H locs hP hD hS => ?_)
      have hP : va_P G.1 vwCl [(h0, .inr (2, [.int 0, .long 0, .long 0]))] H := hP
      have hD : va_D A [(h0, .inr (2, [.int 0, .long 0, .long 0]))] := hD
      refine lv_aload_n hx hb d_LAMP_follow_15 rfl (lv_at hl 0 rfl) ?_
      refine lv_iload_n hx hb d_LAMP_follow_16 rfl (lv_at hl 1 rfl) ?_
      refine va_put (D := G.1) (ci := 2) (v := .int sb) (ty := .boolean) (C := R_LAMP) (T := T_LAMP) (N := 3) hx hb hT in_LAMP t_LAMP tok_LAMP nok_LAMP hown hK hP hD hS 0 rfl rfl 0 (by decide) (hT _ wd_105) (fun _ h9 => h9) rfl (by decide +kernel) (bz.n (by assumption)) (bz.f (by assumption)) (Nat.le_of_ble_eq_true rfl) d_LAMP_follow_17 (fun H locs hP hD hS => ?_)
      have hP : va_P G.1 vwCl [(h0, .inr (2, [.int sb, .long 0, .long 0]))] H := hP
      have hD : va_D A [(h0, .inr (2, [.int sb, .long 0, .long 0]))] := hD
      have hw9 : ([(h0, .inr (2, [.int sb, .long (foZ sb li me), .long (foZ sb li mi)]))] : va_W) = [(h0, .inr (2, [.int sb, .long 0, .long 0]))] := by first | (simp [foZ, c_1, c_8]; done) | (simp_all [foZ]; done)
      rw [← hw9] at hP hD
      exact W.vret hx hb hr (fun t ht hW => ⟨⟨rfl, by rw [ht]; exact hP, by rw [hAe]; exact hD⟩, by rw [hAe]; exact hS.F ht⟩) hS.2.2 d_LAMP_follow_20
set_option maxHeartbeats 4000000 in
set_option maxRecDepth 100000 in
theorem c_goOn (l : Launch) (G : GG) (sz : Nat) (h0 : Nat) (li : Int32) (me : Int64) (mi : Int64) (xm : Int64) (xi : Int64) (hli : bz li) : Met l y_LAMP_goOn w_LAMP_goOn ({ frames := 0, cells := 0, slots := 0, locals := 0 }) (va_Pc [.ref h0, .long xm, .long xi] (Pw G sz [(h0, .inr (2, [.int li, .long me, .long mi]))])) (QW G (some (.int li)) [(h0, .inr (2, [.int li, .long me, .long mi]))] [(h0, .inr (2, [.int li, .long (goM li me xm), .long (goM li mi xi)]))] sz) 0 0 (va_A [(h0, .inr (2, [.int li, .long me, .long mi]))] sz) := by
  refine Met.ofW (cc := b_LAMP_goOn) (maxL := 5) (ret := (some .boolean)) (by decide) rfl ?_
  intro p e s m args below meth c s₁ B hml hv
  obtain ⟨rfl, hsz, hP, hGK, hD0⟩ := hv
  have hx := B.exec
  have hb := B.bytes
  have hr := B.returns
  have hts := atoms_spec (ws := w_LAMP_goOn) B.pre
  have hT : ∀ w ∈ lwG, w.before _ s = true := fun w h => hts w (List.mem_cons_of_mem _ h)
  have hown : s.vm.findClass R_LAMP = some m.cls := findClass_of_methodNamed B.named
  have hlocks := B.notSynchronized
  have hK := hGK.1
  have hN := hGK.2
  subst hsz
  have hD := hD0.self (sz := s.heap.size)
  generalize hAe : va_A [(h0, .inr (2, [.int li, .long me, .long mi]))] s.heap.size = A at hD ⊢
  have hA : ∀ q : Nat, s.heap.size ≤ q → A q := fun q h => by rw [← hAe]; exact Or.inr h
  have hS : va_S A s.heap s.heap [] := va_S.rf
  have hP : va_P G.1 vwCl [(h0, .inr (2, [.int li, .long me, .long mi]))] s.heap := hP
  have hl := lv_entry ([.ref h0, .long xm, .long xi]) (n := 5) (Nat.le_of_ble_eq_true rfl)
  rw [lg_entry_eq]
  generalize (lg_sl ([.ref h0, .long xm, .long xi]) ++ List.replicate (5 - (lg_sl ([.ref h0, .long xm, .long xi])).length) Slot.unset).toArray = ls at hl ⊢
  have hl : lv_has ls 5 [(0, .ref h0), (1, .long xm), (3, .long xi)] := hl
  refine lv_aload_n hx hb d_LAMP_goOn_0 rfl (lv_at hl 0 rfl) ?_
  refine va_get (D := G.1) (ci := 2) (v := .int li) (C := R_LAMP) (T := T_LAMP) (N := 3) hx hb hT in_LAMP hown hK hP 0 rfl rfl 0 (by decide) (hT _ wd_105) (fun _ h9 => h9) rfl d_LAMP_goOn_1 ?_
  refine lv_if_eq (tgt := 27) hx hb d_LAMP_goOn_4 (by decide) (fun c_4 => ?_) (fun c_4 => ?_)
  · refine lv_aload_n hx hb d_LAMP_goOn_27 rfl (lv_at hl 0 rfl) ?_
    refine va_get (D := G.1) (ci := 2) (v := .int li) (C := R_LAMP) (T := T_LAMP) (N := 3) hx hb hT in_LAMP hown hK hP 0 rfl rfl 0 (by decide) (hT _ wd_105) (fun _ h9 => h9) rfl d_LAMP_goOn_28 ?_
    have hw9 : ([(h0, .inr (2, [.int li, .long (goM li me xm), .long (goM li mi xi)]))] : va_W) = [(h0, .inr (2, [.int li, .long me, .long mi]))] := by first | (simp [goM, c_4]; done) | (simp_all [goM]; done)
    rw [← hw9] at hP hD
    exact W.zret (v := li) hx hb hr (bz.n (by assumption)) (fun t ht hW => ⟨⟨rfl, by rw [ht]; exact hP, by rw [hAe]; exact hD⟩, by rw [hAe]; exact hS.F ht⟩) hS.2.2 d_LAMP_goOn_31
  · refine lv_aload_n hx hb d_LAMP_goOn_7 rfl (lv_at hl 0 rfl) ?_
    refine lv_dup hx hb d_LAMP_goOn_8 rfl ?_
    refine va_get (D := G.1) (ci := 2) (v := .long me) (C := R_LAMP) (T := T_LAMP) (N := 3) hx hb hT in_LAMP hown hK hP 0 rfl rfl 1 (by decide) (hT _ wd_107) (fun _ h9 => h9) rfl d_LAMP_goOn_9 ?_
    refine lv_lload_n hx hb d_LAMP_goOn_12 rfl (lv_at hl 1 rfl) ?_
    refine lv_ladd hx hb d_LAMP_goOn_13 ?_
    refine va_put (D := G.1) (ci := 2) (v := .long (me + xm)) (ty := .long) (C := R_LAMP) (T := T_LAMP) (N := 3) hx hb hT in_LAMP t_LAMP tok_LAMP nok_LAMP hown hK hP hD hS 0 rfl rfl 1 (by decide) (hT _ wd_107) (fun _ h9 => h9) rfl (by decide +kernel) rfl rfl (Nat.le_of_ble_eq_true rfl) d_LAMP_goOn_14 (fun H locs hP hD hS => ?_)
    have hP : va_P G.1 vwCl [(h0, .inr (2, [.int li, .long (me + xm), .long mi]))] H := hP
    have hD : va_D A [(h0, .inr (2, [.int li, .long (me + xm), .long mi]))] := hD
    refine lv_aload_n hx hb d_LAMP_goOn_17 rfl (lv_at hl 0 rfl) ?_
    refine lv_dup hx hb d_LAMP_goOn_18 rfl ?_
    refine va_get (D := G.1) (ci := 2) (v := .long mi) (C := R_LAMP) (T := T_LAMP) (N := 3) hx hb hT in_LAMP hown hK hP 0 rfl rfl 2 (by decide) (hT _ wd_109) (fun _ h9 => h9) rfl d_LAMP_goOn_19 ?_
    refine lv_lload_n hx hb d_LAMP_goOn_22 rfl (lv_at hl 2 rfl) ?_
    refine lv_ladd hx hb d_LAMP_goOn_23 ?_
    refine va_put (D := G.1) (ci := 2) (v := .long (mi + xi)) (ty := .long) (C := R_LAMP) (T := T_LAMP) (N := 3) hx hb hT in_LAMP t_LAMP tok_LAMP nok_LAMP hown hK hP hD hS 0 rfl rfl 2 (by decide) (hT _ wd_109) (fun _ h9 => h9) rfl (by decide +kernel) rfl rfl (Nat.le_of_ble_eq_true rfl) d_LAMP_goOn_24 (fun H locs hP hD hS => ?_)
    have hP : va_P G.1 vwCl [(h0, .inr (2, [.int li, .long (me + xm), .long (mi + xi)]))] H := hP
    have hD : va_D A [(h0, .inr (2, [.int li, .long (me + xm), .long (mi + xi)]))] := hD
    refine lv_aload_n hx hb d_LAMP_goOn_27 rfl (lv_at hl 0 rfl) ?_
    refine va_get (D := G.1) (ci := 2) (v := .int li) (C := R_LAMP) (T := T_LAMP) (N := 3) hx hb hT in_LAMP hown hK hP 0 rfl rfl 0 (by decide) (hT _ wd_105) (fun _ h9 => h9) rfl d_LAMP_goOn_28 ?_
    have hw9 : ([(h0, .inr (2, [.int li, .long (goM li me xm), .long (goM li mi xi)]))] : va_W) = [(h0, .inr (2, [.int li, .long (me + xm), .long (mi + xi)]))] := by first | (simp [goM, c_4]; done) | (simp_all [goM]; done)
    rw [← hw9] at hP hD
    exact W.zret (v := li) hx hb hr (bz.n (by assumption)) (fun t ht hW => ⟨⟨rfl, by rw [ht]; exact hP, by rw [hAe]; exact hD⟩, by rw [hAe]; exact hS.F ht⟩) hS.2.2 d_LAMP_goOn_31
end
section
abbrev b_AL_size : ByteArray := prog_21_method_8_code
def y_AL_size : MethodName := ⟨R_AL, "size", "()I"⟩
def w_AL_size : List Cond := .code y_AL_size b_AL_size 1 (some .int) :: lwG
theorem d_AL_size_0 : decode b_AL_size 0 = .ok (.aload_n 0, 1) := by decide +kernel
theorem d_AL_size_1 : decode b_AL_size 1 = .ok (.getfield 48, 3) := by decide +kernel
theorem d_AL_size_4 : decode b_AL_size 4 = .ok (.ireturn, 1) := by decide +kernel
abbrev b_PRE_checkIndex : ByteArray := prog_29_method_11_code
def y_PRE_checkIndex : MethodName := ⟨R_PRE, "checkIndex", "(IILjava/util/function/BiFunction;)I"⟩
def w_PRE_checkIndex : List Cond := .code y_PRE_checkIndex b_PRE_checkIndex 3 (some .int) :: lwG
theorem d_PRE_checkIndex_0 : decode b_PRE_checkIndex 0 = .ok (.iload_n 0, 1) := by decide +kernel
theorem d_PRE_checkIndex_1 : decode b_PRE_checkIndex 1 = .ok (.ifCond .lt 8, 3) := by decide +kernel
theorem d_PRE_checkIndex_4 : decode b_PRE_checkIndex 4 = .ok (.iload_n 0, 1) := by decide +kernel
theorem d_PRE_checkIndex_5 : decode b_PRE_checkIndex 5 = .ok (.iload_n 1, 1) := by decide +kernel
theorem d_PRE_checkIndex_6 : decode b_PRE_checkIndex 6 = .ok (.if_icmp .lt 10, 3) := by decide +kernel
theorem d_PRE_checkIndex_9 : decode b_PRE_checkIndex 9 = .ok (.aload_n 2, 1) := by decide +kernel
theorem d_PRE_checkIndex_10 : decode b_PRE_checkIndex 10 = .ok (.iload_n 0, 1) := by decide +kernel
theorem d_PRE_checkIndex_11 : decode b_PRE_checkIndex 11 = .ok (.iload_n 1, 1) := by decide +kernel
theorem d_PRE_checkIndex_12 : decode b_PRE_checkIndex 12 = .ok (.invokestatic 95, 3) := by decide +kernel
theorem d_PRE_checkIndex_15 : decode b_PRE_checkIndex 15 = .ok (.athrow, 1) := by decide +kernel
theorem d_PRE_checkIndex_16 : decode b_PRE_checkIndex 16 = .ok (.iload_n 0, 1) := by decide +kernel
theorem d_PRE_checkIndex_17 : decode b_PRE_checkIndex 17 = .ok (.ireturn, 1) := by decide +kernel
abbrev b_OBJS_checkIndex : ByteArray := prog_25_method_17_code
def y_OBJS_checkIndex : MethodName := ⟨R_OBJS, "checkIndex", "(II)I"⟩
def w_OBJS_checkIndex : List Cond := .code y_OBJS_checkIndex b_OBJS_checkIndex 2 (some .int) :: lwG
theorem d_OBJS_checkIndex_0 : decode b_OBJS_checkIndex 0 = .ok (.iload_n 0, 1) := by decide +kernel
theorem d_OBJS_checkIndex_1 : decode b_OBJS_checkIndex 1 = .ok (.iload_n 1, 1) := by decide +kernel
theorem d_OBJS_checkIndex_2 : decode b_OBJS_checkIndex 2 = .ok (.aconst_null, 1) := by decide +kernel
theorem d_OBJS_checkIndex_3 : decode b_OBJS_checkIndex 3 = .ok (.invokestatic 105, 3) := by decide +kernel
theorem d_OBJS_checkIndex_6 : decode b_OBJS_checkIndex 6 = .ok (.ireturn, 1) := by decide +kernel
abbrev b_AL_elementData : ByteArray := prog_21_method_18_code
def y_AL_elementData : MethodName := ⟨R_AL, "elementData", "(I)Ljava/lang/Object;"⟩
def w_AL_elementData : List Cond := .code y_AL_elementData b_AL_elementData 2 (some (.object "java/lang/Object")) :: lwG
theorem d_AL_elementData_0 : decode b_AL_elementData 0 = .ok (.aload_n 0, 1) := by decide +kernel
theorem d_AL_elementData_1 : decode b_AL_elementData 1 = .ok (.getfield 9, 3) := by decide +kernel
theorem d_AL_elementData_4 : decode b_AL_elementData 4 = .ok (.iload_n 1, 1) := by decide +kernel
theorem d_AL_elementData_5 : decode b_AL_elementData 5 = .ok (.aaload, 1) := by decide +kernel
theorem d_AL_elementData_6 : decode b_AL_elementData 6 = .ok (.areturn, 1) := by decide +kernel
abbrev b_AL_get : ByteArray := prog_21_method_20_code
def y_AL_get : MethodName := ⟨R_AL, "get", "(I)Ljava/lang/Object;"⟩
def w_AL_get : List Cond := .code y_AL_get b_AL_get 2 (some (.object "java/lang/Object")) :: lwG
theorem d_AL_get_0 : decode b_AL_get 0 = .ok (.iload_n 1, 1) := by decide +kernel
theorem d_AL_get_1 : decode b_AL_get 1 = .ok (.aload_n 0, 1) := by decide +kernel
theorem d_AL_get_2 : decode b_AL_get 2 = .ok (.getfield 48, 3) := by decide +kernel
theorem d_AL_get_5 : decode b_AL_get 5 = .ok (.invokestatic 118, 3) := by decide +kernel
theorem d_AL_get_8 : decode b_AL_get 8 = .ok (.pop, 1) := by decide +kernel
theorem d_AL_get_9 : decode b_AL_get 9 = .ok (.aload_n 0, 1) := by decide +kernel
theorem d_AL_get_10 : decode b_AL_get 10 = .ok (.iload_n 1, 1) := by decide +kernel
theorem d_AL_get_11 : decode b_AL_get 11 = .ok (.invokevirtual 123, 3) := by decide +kernel
theorem d_AL_get_14 : decode b_AL_get 14 = .ok (.areturn, 1) := by decide +kernel
end
section
set_option maxHeartbeats 4000000 in
set_option maxRecDepth 100000 in
theorem c_size (l : Launch) (G : GG) (h0 : Nat) (ed : Nat) (mo : Int32) (lsz : Int32)  : Met l y_AL_size w_AL_size ({ frames := 0, cells := 0, slots := 0, locals := 0 }) (va_Pc [.ref h0] (Rw G [(h0, .inr (1, [.int mo, .ref ed, .int lsz]))])) (k2_QcV (.int lsz)) 0 0 (fun _ => False) := by
  refine Met.ofW (cc := b_AL_size) (maxL := 1) (ret := (some .int)) (by decide) rfl ?_
  intro p e s m args below meth c s₁ B hml hv
  obtain ⟨rfl, hP, hGK⟩ := hv
  have hx := B.exec
  have hb := B.bytes
  have hr := B.returns
  have hts := atoms_spec (ws := w_AL_size) B.pre
  have hT : ∀ w ∈ lwG, w.before _ s = true := fun w h => hts w (List.mem_cons_of_mem _ h)
  have hown : s.vm.findClass R_AL = some m.cls := findClass_of_methodNamed B.named
  have hlocks := B.notSynchronized
  have hK := hGK.1
  have hN := hGK.2
  have hP : va_P G.1 vwCl [(h0, .inr (1, [.int mo, .ref ed, .int lsz]))] s.heap := hP
  have hl := lv_entry ([.ref h0]) (n := 1) (Nat.le_of_ble_eq_true rfl)
  rw [lg_entry_eq]
  generalize (lg_sl ([.ref h0]) ++ List.replicate (1 - (lg_sl ([.ref h0])).length) Slot.unset).toArray = ls at hl ⊢
  have hl : lv_has ls 1 [(0, .ref h0)] := hl
  generalize hHe : s.heap = H at hP ⊢
  refine lv_aload_n hx hb d_AL_size_0 rfl (lv_at hl 0 rfl) ?_
  refine va_get (D := G.1) (ci := 1) (v := .int lsz) (C := R_AL) (T := T_AL) (N := 3) hx hb hT in_AL hown hK hP 0 rfl rfl 2 (by decide) (hT _ wd_88) (fun _ h9 => h9) rfl d_AL_size_1 ?_
  exact W.iret (v := lsz) hx hb hr (fun t ht _ => ⟨rfl, ht.trans hHe.symm⟩) (fun _ h => by cases h) d_AL_size_4
set_option maxHeartbeats 4000000 in
set_option maxRecDepth 100000 in
theorem c_preCheck (l : Launch) (G : GG) (k : Nat) (n : Nat) (hk : k < n) (hn : n < 2 ^ 31) : Met l y_PRE_checkIndex w_PRE_checkIndex ({ frames := 0, cells := 0, slots := 0, locals := 0 }) (va_Pc [.int (nI k), .int (nI n), .null] (Rw G [])) (k2_QcV (.int (nI k))) 0 0 (fun _ => False) := by
  refine Met.ofW (cc := b_PRE_checkIndex) (maxL := 3) (ret := (some .int)) (by decide) rfl ?_
  intro p e s m args below meth c s₁ B hml hv
  obtain ⟨rfl, hP, hGK⟩ := hv
  have hx := B.exec
  have hb := B.bytes
  have hr := B.returns
  have hts := atoms_spec (ws := w_PRE_checkIndex) B.pre
  have hT : ∀ w ∈ lwG, w.before _ s = true := fun w h => hts w (List.mem_cons_of_mem _ h)
  have hown : s.vm.findClass R_PRE = some m.cls := findClass_of_methodNamed B.named
  have hlocks := B.notSynchronized
  have hK := hGK.1
  have hN := hGK.2
  have hP : va_P G.1 vwCl [] s.heap := hP
  have hl := lv_entry ([.int (nI k), .int (nI n), .null]) (n := 3) (Nat.le_of_ble_eq_true rfl)
  rw [lg_entry_eq]
  generalize (lg_sl ([.int (nI k), .int (nI n), .null]) ++ List.replicate (3 - (lg_sl ([.int (nI k), .int (nI n), .null])).length) Slot.unset).toArray = ls at hl ⊢
  have hl : lv_has ls 3 [(0, .int (nI k)), (1, .int (nI n)), (2, .null)] := hl
  generalize hHe : s.heap = H at hP ⊢
  refine lv_iload_n hx hb d_PRE_checkIndex_0 rfl (lv_at hl 0 rfl) ?_
  refine lv_if_lt (tgt := 9) hx hb d_PRE_checkIndex_1 (by decide) (fun c_1 => ?_) (fun c_1 => ?_)
  · exact absurd c_1 (nI_pos (by omega))
  · refine lv_iload_n hx hb d_PRE_checkIndex_4 rfl (lv_at hl 0 rfl) ?_
    refine lv_iload_n hx hb d_PRE_checkIndex_5 rfl (lv_at hl 1 rfl) ?_
    refine lv_icmp_lt (tgt := 16) hx hb d_PRE_checkIndex_6 (by decide) (fun c_6 => ?_) (fun c_6 => ?_)
    · refine lv_iload_n hx hb d_PRE_checkIndex_16 rfl (lv_at hl 0 rfl) ?_
      exact W.iret (v := nI k) hx hb hr (fun t ht _ => ⟨rfl, ht.trans hHe.symm⟩) (fun _ h => by cases h) d_PRE_checkIndex_17
    · exact absurd (nI_lt hk hn) c_6
set_option maxHeartbeats 4000000 in
set_option maxRecDepth 100000 in
theorem c_objCheck (l : Launch) (G : GG) (k : Nat) (n : Nat) (hk : k < n) (hn : n < 2 ^ 31) : Met l y_OBJS_checkIndex w_OBJS_checkIndex ({ frames := 1, cells := 0, slots := 0, locals := 22 }) (va_Pc [.int (nI k), .int (nI n)] (Rw G [])) (k2_QcV (.int (nI k))) 0 0 (fun _ => False) := by
  refine Met.ofW (cc := b_OBJS_checkIndex) (maxL := 2) (ret := (some .int)) (by decide) rfl ?_
  intro p e s m args below meth c s₁ B hml hv
  obtain ⟨rfl, hP, hGK⟩ := hv
  have hx := B.exec
  have hb := B.bytes
  have hr := B.returns
  have hts := atoms_spec (ws := w_OBJS_checkIndex) B.pre
  have hT : ∀ w ∈ lwG, w.before _ s = true := fun w h => hts w (List.mem_cons_of_mem _ h)
  have hown : s.vm.findClass R_OBJS = some m.cls := findClass_of_methodNamed B.named
  have hlocks := B.notSynchronized
  have hK := hGK.1
  have hN := hGK.2
  have hP : va_P G.1 vwCl [] s.heap := hP
  have hl := lv_entry ([.int (nI k), .int (nI n)]) (n := 2) (Nat.le_of_ble_eq_true rfl)
  rw [lg_entry_eq]
  generalize (lg_sl ([.int (nI k), .int (nI n)]) ++ List.replicate (2 - (lg_sl ([.int (nI k), .int (nI n)])).length) Slot.unset).toArray = ls at hl ⊢
  have hl : lv_has ls 2 [(0, .int (nI k)), (1, .int (nI n))] := hl
  generalize hHe : s.heap = H at hP ⊢
  refine lv_iload_n hx hb d_OBJS_checkIndex_0 rfl (lv_at hl 0 rfl) ?_
  refine lv_iload_n hx hb d_OBJS_checkIndex_1 rfl (lv_at hl 1 rfl) ?_
  refine lv_null hx hb d_OBJS_checkIndex_2 ?_
  refine bx_callV (W.runS (As := [.int (nI k), .int (nI n), .null]) (rest := []) ⟨hx, hb, hml, hown, hts⟩ (c_preCheck l G k n (by assumption) (by assumption)) ⟨(callB_of 3 hts (gi_all wd_264) rfl rfl rfl (hT _ wd_58) (hT _ wd_262) (by decide +kernel) ⟨Nat.le_of_ble_eq_true rfl, Nat.le_of_ble_eq_true rfl⟩), (hT _ wd_263)⟩ (psR bx_nil hGK) rfl rfl hl.1 rfl (lv_room (Nat.le_of_ble_eq_true rfl)) d_OBJS_checkIndex_3 ⟨Nat.le_of_ble_eq_true rfl, Nat.le_of_ble_eq_true rfl⟩) ?_
  exact W.iret (v := nI k) hx hb hr (fun t ht _ => ⟨rfl, ht.trans hHe.symm⟩) (fun _ h => by cases h) d_OBJS_checkIndex_6
set_option maxHeartbeats 4000000 in
set_option maxRecDepth 100000 in
theorem c_elementData (l : Launch) (G : GG) (h0 : Nat) (ed : Nat) (mo : Int32) (n : Nat) (k : Nat) (cap : Nat) (f : Nat → Option Nat) (a : Nat) (hk : k < n) (hnc : n ≤ cap) (hc : cap < 2 ^ 31) (hf : f k = some a) : Met l y_AL_elementData w_AL_elementData ({ frames := 0, cells := 0, slots := 0, locals := 0 }) (va_Pc [.ref h0, .int (nI k)] (Rw G [(h0, .inr (1, [.int mo, .ref ed, .int (nI n)])), (ed, .inl (G.2 0, cap, .inr (.inr (.inr (.inr f)))))])) (k2_QcV (.ref a)) 0 0 (fun _ => False) := by
  refine Met.ofW (cc := b_AL_elementData) (maxL := 2) (ret := (some (.object "java/lang/Object"))) (by decide) rfl ?_
  intro p e s m args below meth c s₁ B hml hv
  obtain ⟨rfl, hP, hGK⟩ := hv
  have hx := B.exec
  have hb := B.bytes
  have hr := B.returns
  have hts := atoms_spec (ws := w_AL_elementData) B.pre
  have hT : ∀ w ∈ lwG, w.before _ s = true := fun w h => hts w (List.mem_cons_of_mem _ h)
  have hown : s.vm.findClass R_AL = some m.cls := findClass_of_methodNamed B.named
  have hlocks := B.notSynchronized
  have hK := hGK.1
  have hN := hGK.2
  have hP : va_P G.1 vwCl [(h0, .inr (1, [.int mo, .ref ed, .int (nI n)])), (ed, .inl (G.2 0, cap, .inr (.inr (.inr (.inr f)))))] s.heap := hP
  have hl := lv_entry ([.ref h0, .int (nI k)]) (n := 2) (Nat.le_of_ble_eq_true rfl)
  rw [lg_entry_eq]
  generalize (lg_sl ([.ref h0, .int (nI k)]) ++ List.replicate (2 - (lg_sl ([.ref h0, .int (nI k)])).length) Slot.unset).toArray = ls at hl ⊢
  have hl : lv_has ls 2 [(0, .ref h0), (1, .int (nI k))] := hl
  generalize hHe : s.heap = H at hP ⊢
  refine lv_aload_n hx hb d_AL_elementData_0 rfl (lv_at hl 0 rfl) ?_
  refine va_get (D := G.1) (ci := 1) (v := .ref ed) (C := R_AL) (T := T_AL) (N := 3) hx hb hT in_AL hown hK hP 0 rfl rfl 1 (by decide) (hT _ wd_87) (fun _ h9 => h9) rfl d_AL_elementData_1 ?_
  refine lv_iload_n hx hb d_AL_elementData_4 rfl (lv_at hl 1 rfl) ?_
  refine va_aldq hx hb hK hP 1 0 rfl rfl (vp_in_nI (Nat.lt_of_lt_of_le hk hnc) hc) d_AL_elementData_5 ?_
  refine W.eq (g2 := F0 m 6 ls [.ref a]) (by rw [nI_clamp (by omega), hf]; rfl) ?_
  exact W.aret (v := .ref a) hx hb hr (Or.inl ⟨_, rfl⟩) (Or.inr ⟨_, rfl⟩) (fun t ht _ => ⟨rfl, ht.trans hHe.symm⟩) (fun _ h => by cases h) d_AL_elementData_6
set_option maxHeartbeats 4000000 in
set_option maxRecDepth 100000 in
theorem c_get (l : Launch) (G : GG) (h0 : Nat) (ed : Nat) (mo : Int32) (n : Nat) (k : Nat) (cap : Nat) (f : Nat → Option Nat) (a : Nat) (hk : k < n) (hnc : n ≤ cap) (hc : cap < 2 ^ 31) (hf : f k = some a) : Met l y_AL_get w_AL_get ({ frames := 2, cells := 0, slots := 0, locals := 43 }) (va_Pc [.ref h0, .int (nI k)] (Rw G [(h0, .inr (1, [.int mo, .ref ed, .int (nI n)])), (ed, .inl (G.2 0, cap, .inr (.inr (.inr (.inr f)))))])) (k2_QcV (.ref a)) 0 0 (fun _ => False) := by
  refine Met.ofW (cc := b_AL_get) (maxL := 2) (ret := (some (.object "java/lang/Object"))) (by decide) rfl ?_
  intro p e s m args below meth c s₁ B hml hv
  obtain ⟨rfl, hP, hGK⟩ := hv
  have hx := B.exec
  have hb := B.bytes
  have hr := B.returns
  have hts := atoms_spec (ws := w_AL_get) B.pre
  have hT : ∀ w ∈ lwG, w.before _ s = true := fun w h => hts w (List.mem_cons_of_mem _ h)
  have hown : s.vm.findClass R_AL = some m.cls := findClass_of_methodNamed B.named
  have hlocks := B.notSynchronized
  have hK := hGK.1
  have hN := hGK.2
  have hP : va_P G.1 vwCl [(h0, .inr (1, [.int mo, .ref ed, .int (nI n)])), (ed, .inl (G.2 0, cap, .inr (.inr (.inr (.inr f)))))] s.heap := hP
  have hl := lv_entry ([.ref h0, .int (nI k)]) (n := 2) (Nat.le_of_ble_eq_true rfl)
  rw [lg_entry_eq]
  generalize (lg_sl ([.ref h0, .int (nI k)]) ++ List.replicate (2 - (lg_sl ([.ref h0, .int (nI k)])).length) Slot.unset).toArray = ls at hl ⊢
  have hl : lv_has ls 2 [(0, .ref h0), (1, .int (nI k))] := hl
  generalize hHe : s.heap = H at hP ⊢
  refine lv_iload_n hx hb d_AL_get_0 rfl (lv_at hl 1 rfl) ?_
  refine lv_aload_n hx hb d_AL_get_1 rfl (lv_at hl 0 rfl) ?_
  refine va_get (D := G.1) (ci := 1) (v := .int (nI n)) (C := R_AL) (T := T_AL) (N := 3) hx hb hT in_AL hown hK hP 0 rfl rfl 2 (by decide) (hT _ wd_88) (fun _ h9 => h9) rfl d_AL_get_2 ?_
  refine bx_callV (W.runS (As := [.int (nI k), .int (nI n)]) (rest := []) ⟨hx, hb, hml, hown, hts⟩ (c_objCheck l G k n hk (by omega)) ⟨(callB_of 2 hts (gi_all wd_261) rfl rfl rfl (hT _ wd_57) (hT _ wd_259) (by decide +kernel) ⟨Nat.le_of_ble_eq_true rfl, Nat.le_of_ble_eq_true rfl⟩), (hT _ wd_260)⟩ (psR bx_nil hGK) rfl rfl hl.1 rfl (lv_room (Nat.le_of_ble_eq_true rfl)) d_AL_get_5 ⟨Nat.le_of_ble_eq_true rfl, Nat.le_of_ble_eq_true rfl⟩) ?_
  refine lv_pop hx hb d_AL_get_8 rfl ?_
  refine lv_aload_n hx hb d_AL_get_9 rfl (lv_at hl 0 rfl) ?_
  refine lv_iload_n hx hb d_AL_get_10 rfl (lv_at hl 1 rfl) ?_
  have hPc := hP.sub (ws' := [(h0, .inr (1, [.int mo, .ref ed, .int (nI n)])), (ed, .inl (G.2 0, cap, .inr (.inr (.inr (.inr f)))))]) [0, 1] rfl
  refine bx_callV (W.runV (As := [.int (nI k)]) (rest := []) ⟨hx, hb, hml, hown, hts⟩ (c_elementData l G h0 ed mo n k cap f a (by assumption) (by assumption) (by assumption) (by assumption)) ⟨(callB_of 1 hts (gi_all wd_268) rfl rfl rfl (hT _ wd_48) (hT _ wd_265) (by decide +kernel) ⟨Nat.le_of_ble_eq_true rfl, Nat.le_of_ble_eq_true rfl⟩), (hT _ wd_266), (hT _ wd_267)⟩ (pvR hPc hGK (va_recv hK hPc (ci := 1) (q0 := 0) rfl rfl)) rfl rfl hl.1 rfl (lv_room (Nat.le_of_ble_eq_true rfl)) d_AL_get_11 ⟨Nat.le_of_ble_eq_true rfl, Nat.le_of_ble_eq_true rfl⟩) ?_
  exact W.aret (v := .ref a) hx hb hr (Or.inl ⟨_, rfl⟩) (Or.inr ⟨_, rfl⟩) (fun t ht _ => ⟨rfl, ht.trans hHe.symm⟩) (fun _ h => by cases h) d_AL_get_14
end
section
/-! further functions of the system's methods -/
section EF2
theorem bx_nd1 {p : Nat} : va_nd [p] = true := by simp [va_nd]
def twoF (v : Int64) : Int32 := (if (65535 : Int64) < v then (65535 : Int64) else v).toInt32
theorem ilF_step {pt ru ch : Int32} {k : Nat} (h : 0 < k) : ilF pt ru ch k = if nI k ≤ 1 then pt else if ru - ru / nI k * nI k = 0 then (if ch - ch / nI k * nI k = 0 then pt / nI k else ilF pt ru ch (k - 1)) else ilF pt ru ch (k - 1) := by
  obtain ⟨j, rfl⟩ : ∃ j, k = j + 1 := ⟨k - 1, by omega⟩
  rw [ilF, Nat.add_sub_cancel]
theorem ilF_stop {pt ru ch : Int32} {k : Nat} (h : nI k ≤ 1) : ilF pt ru ch k = pt := by
  rcases Nat.eq_zero_or_pos k with h0 | h0
  · subst h0
    rfl
  · rw [ilF_step h0, if_pos h]
theorem isM_some {nn : Int32} {nM : Nat} (h : ¬ isM nn nM = 0) (hn : nM ≤ 20) : ∃ k, k < nM ∧ nn = nI (k + 1) := by
  unfold isM at h
  by_cases h1 : nn < 1
  · simp [h1] at h
  · by_cases h2 : nI nM < nn
    · simp [h1, h2] at h
    · have e1 : (1 : Int32).toInt = 1 := by decide
      rw [Int32.lt_iff_toInt_lt, e1] at h1
      rw [Int32.lt_iff_toInt_lt, nI_toInt (by omega)] at h2
      obtain ⟨j, hj, ej⟩ := nI_of (x := nn) (fun z => by
        rw [Int32.lt_iff_toInt_lt] at z
        have e0 : (0 : Int32).toInt = 0 := by decide
        omega)
      subst ej
      rw [nI_toInt hj] at h1 h2
      exact ⟨j - 1, by omega, by rw [show j - 1 + 1 = j by omega]⟩
def ixM (nn : Int32) : Nat := (nn - 1).toNatClampNeg
theorem ixM_at {k : Nat} (h : k < 100) : ixM (nI (k + 1)) = k := by
  unfold ixM
  rw [nI_pred, nI_clamp (by omega)]
def cnF (mon : Nat → Mon) (nM : Nat) (mo wh : Int32) : Int32 := if isM mo nM = 0 then (-1) else if wh = 0 then (mon (ixM mo)).2.2.1 else (mon (ixM mo)).2.2.2.1
theorem ffF_lt {cod : Nat → Cod} {n : Nat} : ∀ {m j : Nat}, m ≤ n → ffF cod n m = some j → j < n
  | 0, j, _, h => by simp [ffF] at h
  | m + 1, j, hm, h => by
    rw [ffF] at h
    split at h
    · exact ffF_lt (by omega) h
    · cases h
      omega
theorem kcF_lt {cod : Nat → Cod} {nu : Int32} {n : Nat} : ∀ {m j : Nat}, m ≤ n → kcF cod nu n m = some j → j < n
  | 0, j, _, h => by simp [kcF] at h
  | m + 1, j, hm, h => by
    rw [kcF] at h
    split at h
    · cases h
      omega
    · exact kcF_lt (by omega) h
def frzF (cod : Nat → Cod) (nC : Nat) (mi : Int64) (i : Int32) : Int32 :=
  if i < 0 then (-2) else if i ≤ 3 then (if i = 3 then twoF mi else
    match ffF cod nC nC with
    | none => 0
    | some j => if i = 0 then (cod j).1 else if i = 1 then (cod j).2.2.2.2.2.2.2.1 else (cod j).2.2.2.2.2.2.2.2) else (-2)
def lmpB (xm xi : Int64) : Int32 := if lg_cmp xm 0 < 0 then 0 else if 0 < lg_cmp xm 1000000000 then 0 else if lg_cmp xi 0 < 0 then 0 else if lg_cmp xi 1000000000 ≤ 0 then 1 else 0
def lmpX (xm xi : Int64) (li : Int32) (x d : Int64) : Int64 := if lmpB xm xi = 0 then x else goM li x d
def lmpR (xm xi : Int64) (li : Int32) : Int32 := if lmpB xm xi = 0 then (-2) else if li = 0 then 0 else 1
def gEc (cs ts : Int32) (i : Nat) (m : Mon) : Mon := ecM m cs (bitF ts (nI i))
def gCy (cy cs : Int32) (_ : Nat) (q : Cod) : Cod := codCy cy cs q
def gFg (_ : Nat) (q : Cod) : Cod := codFg q
def gNt (_ : Nat) (m : Mon) : Mon := monNt m
def cyB (cs ts : Int32) : Int32 := if cs < 0 then 0 else if 255 < cs then 0 else if ts < 0 then 0 else if ts ≤ 65535 then 1 else 0
def cyM (cs ts : Int32) (nM : Nat) (mon : Nat → Mon) : Nat → Mon := if cyB cs ts = 0 then mon else upto (gEc cs ts) mon nM
def cyC (cs ts cyc : Int32) (nC : Nat) (cod : Nat → Cod) : Nat → Cod := if cyB cs ts = 0 then cod else upto (gCy (cyc + 1) cs) cod nC
def cyN (cs ts cyc : Int32) : Int32 := if cyB cs ts = 0 then cyc else cyc + 1
def cyS (cs cyc : Int32) (nC : Nat) (cod : Nat → Cod) : Int32 := if cntC (upto (gCy (cyc + 1) cs) cod nC) nC ≤ 0 then 0 else 1
theorem cyS_bz (cs cyc : Int32) (nC : Nat) (cod : Nat → Cod) : bz (cyS cs cyc nC cod) := bz_if bz0 bz1
def cyL (cs ts cyc : Int32) (nC : Nat) (cod : Nat → Cod) (li : Int32) : Int32 := if cyB cs ts = 0 then li else cyS cs cyc nC cod
def cyZ (cs ts cyc : Int32) (nC : Nat) (cod : Nat → Cod) (li : Int32) (x : Int64) : Int64 := if cyB cs ts = 0 then x else foZ (cyS cs cyc nC cod) li x
def cyR (cs ts : Int32) (nM : Nat) (mon : Nat → Mon) : Int32 := if cyB cs ts = 0 then (-2) else cntM mon cs nM
def tnow (b : OB) (id : Int32) (cod : Nat → Cod) (nC : Nat) (mon : Nat → Mon) (nM : Nat) (li : Int32) (me : Int64) : OB :=
  if id = 1 then oAdd (oAdd (oAdd (oBeg b 1) id) (cntC cod nC + (if li = 0 then 0 else 128))) (knF mon nM 4 0)
  else if id = 33 then oTwo (oAdd (oBeg b 1) id) (twoF (me / 1000)) else b
def tfro (b : OB) (id : Int32) (cod : Nat → Cod) (nC : Nat) : OB :=
  match ffF cod nC nC with
  | none => b
  | some j => if id < 0 then b else if 8 ≤ id then b else oAdd (oTwo (oTwo (oAdd (oBeg b 2) id) (cod j).1) (cod j).2.2.2.2.2.2.2.1) (if bitF (cod j).2.2.2.2.2.2.2.2 id = 0 then 0 else 1)
def tcnt (b : OB) (id : Int32) (mon : Nat → Mon) (nM : Nat) : OB := if id = 8 then tnF mon nM nM (oAdd (oBeg b 9) id) else b
def tcod (b : OB) (md : Int32) (cod : Nat → Cod) (nC : Nat) : OB := tcF cod md nC nC (oBeg b md)
def bzC (cod : Nat → Cod) (nC : Nat) : Prop := ∀ i, i < nC → bz (cod i).2.1 ∧ bz (cod i).2.2.1 ∧ bz (cod i).2.2.2.1 ∧ bz (cod i).2.2.2.2.1
def ansF (md id : Int32) (b : OB) (cod : Nat → Cod) (nC : Nat) (mon : Nat → Mon) (nM : Nat) (li : Int32) (me : Int64) : OB :=
  if md = 1 then tnow ((0 : Int32), b.2) id cod nC mon nM li me else if md = 2 then tfro ((0 : Int32), b.2) id cod nC
  else if md = 3 then tcod ((0 : Int32), b.2) md cod nC else if md = 4 then ((0 : Int32), b.2) else if md = 5 then ((0 : Int32), b.2) else if md = 6 then ((0 : Int32), b.2)
  else if md = 7 then tcod ((0 : Int32), b.2) md cod nC else if md = 8 then ((0 : Int32), b.2) else if md = 9 then tcnt ((0 : Int32), b.2) id mon nM
  else if md = 10 then tcod ((0 : Int32), b.2) md cod nC else ((0 : Int32), b.2)
theorem tl_mon_u {X bM bC : va_W} {nM nC k : Nat} {am ac : Nat → Nat} {mon : Nat → Mon} {cod : Nat → Cod} {g : Nat → Mon → Mon} (h : k < nM) : (X ++ tlW bM bC nM am (upto g mon k) nC ac cod)[X.length + (bM.length + (bC.length + k))]? = some (am k, monE (mon k)) := by rw [tl_mon h, upto_self]
theorem tl_cod_u {X bM bC : va_W} {nM nC k : Nat} {am ac : Nat → Nat} {mon : Nat → Mon} {cod : Nat → Cod} {g : Nat → Cod → Cod} (h : k < nC) : (X ++ tlW bM bC nM am mon nC ac (upto g cod k))[X.length + (bM.length + (bC.length + (nM + k)))]? = some (ac k, codE (cod k)) := by rw [tl_cod h, upto_self]
end EF2
end
section
/-! methods that make cells: their ends, their calls; the empty row of the lists; elements of lists -/
section AL0
/-- an end whose world has new cells -/
def QA {S : Type} (G : GG) (v : S → Option Value) (w0 : va_W) (w1 : S → va_W) (post : S → Prop) (sz : Nat) : Array Value → State → Outcome → State → Prop := fun _ st o t => (∃ u : S, o = .returned (v u) ∧ va_P G.1 vwCl (w1 u) t.heap ∧ va_D (va_A w0 sz) (w1 u) ∧ post u) ∧ va_F (va_A w0 sz) st t
/-- behind a call: the callee's cells, and the rest, which is unchanged -/
theorem bx_joinR {D : va_G} {cl : List vw_C} {A0 : Nat → Prop} {ws w0 wr w1 : va_W} {H H1 : Heap} (hp : ws.Perm (w0 ++ wr)) (hP : va_P D cl ws H) (hD : va_D A0 ws)
    (hk : ∀ q : Nat, q < H.size → ¬ va_A w0 H.size q → H1[q]? = H[q]?) (hF : ∀ q, va_A w0 H.size q → A0 q) (hP1 : va_P D cl w1 H1) (hD1 : va_D (va_A w0 H.size) w1) : va_P D cl (w1 ++ wr) H1 ∧ va_D A0 (w1 ++ wr) := by
  have hP2 : va_P D cl (w0 ++ wr) H := bx_P_perm hP hp.symm
  have hD2 : va_D A0 (w0 ++ wr) := bx_D_perm hD hp.symm
  have apart : ∀ (k : Nat) (q : Nat × va_E), wr[k]? = some q → q.1 < H.size ∧ ¬ va_A w0 H.size q.1 := by
    intro k q hq
    have h2 : (w0 ++ wr)[w0.length + k]? = some q := bx_at_r hq
    have hl := (hP2 _ q h2).lt
    refine ⟨hl, fun h => ?_⟩
    rcases h with ⟨k2, e9, h⟩ | h
    · have h3 : (w0 ++ wr)[k2]? = some (q.1, e9) := bx_at_l h
      have h4 := hD2.1 _ _ q (q.1, e9) h2 h3 rfl
      have h5 := (List.getElem?_eq_some_iff.mp h).1
      omega
    · omega
  have hDr : va_D A0 wr := by
    refine ⟨fun i j x y hi hj hxy => ?_, fun k q hq => hD2.2 _ q (bx_at_r hq)⟩
    have := hD2.1 _ _ x y (bx_at_r (X := w0) hi) (bx_at_r (X := w0) hj) hxy
    omega
  refine ⟨va_P.app hP1 (fun k q hq => ?_), va_D.app (hD1.weaken (fun k q _ h => hF q.1 h)) hDr (fun i j x y hx hy hxy => ?_)⟩
  · obtain ⟨g1, g2⟩ := apart k q hq
    exact (hP2 _ q (bx_at_r hq)).kept (hk q.1 g1 g2)
  · exact (apart j y hy).2 (by rw [← hxy]; exact hD1.2 i x hx)
theorem bx_freeR {A0 : Nat → Prop} {ws w0 wr : va_W} {H0 H : Heap} {locs : List Loc} (hp : ws.Perm (w0 ++ wr)) (hD : va_D A0 ws) (hS : va_S A0 H0 H locs) (hA : ∀ q, H0.size ≤ q → A0 q) : ∀ q, va_A w0 H.size q → A0 q := by
  rintro q (⟨k, e9, h⟩ | h)
  · exact (bx_D_perm hD hp.symm).2 k (q, e9) (bx_at_l h)
  · exact hA q (Nat.le_trans hS.1 h)
theorem bx_DR {A0 : Nat → Prop} {ws w0 wr : va_W} (hp : ws.Perm (w0 ++ wr)) (hD : va_D A0 ws) : va_D A0 w0 := by
  have h2 := bx_D_perm hD hp.symm
  exact ⟨fun i j x y hi hj hxy => h2.1 i j x y (bx_at_l hi) (bx_at_l hj) hxy, fun k q hq => h2.2 k q (bx_at_l hq)⟩
theorem bx_PR {D : va_G} {cl : List vw_C} {ws w0 wr : va_W} {H : Heap} (hp : ws.Perm (w0 ++ wr)) (hP : va_P D cl ws H) : va_P D cl w0 H := fun k q hq => (bx_P_perm hP hp.symm) k q (bx_at_l hq)
/-- the lists' empty row, and what else the lists' growing asks of the machine -/
def ZE (e0 mi : Nat) (A : Nat → Prop) (U : State) (H : Heap) : Prop :=
  va_Z "java/util/ArrayList" "DEFAULTCAPACITY_EMPTY_ELEMENTDATA" "[Ljava/lang/Object;" (.ref e0) A U H ∧ va_T (.object "java/lang/Object") e0 0 (fun _ => .null) A U H ∧ va_Mi "[Ljava/lang/Object;" mi U ∧ va_Dc U ∧ va_AO "java/lang/Object" U
theorem ZE.moved {e0 mi : Nat} {A : Nat → Prop} {u U : State} {H : Heap} (hvm : u.vm.Alike U.vm) (h : ZE e0 mi A u H) : ZE e0 mi A U H := ⟨va_Z.moved hvm h.1, va_T.moved hvm h.2.1, va_Mi.moved hvm h.2.2.1, va_Dc.moved hvm h.2.2.2.1, va_AO.moved hvm h.2.2.2.2⟩
theorem ZE.kept {e0 mi : Nat} {A : Nat → Prop} {U : State} {H H1 : Heap} (h : ZE e0 mi A U H) (hq : ∀ a : Nat, a < H.size → ¬ A a → H1[a]? = H[a]?) : ZE e0 mi A U H1 := ⟨h.1.kept hq, h.2.1.kept hq, h.2.2⟩
theorem ZE.narrow {e0 mi : Nat} {A B : Nat → Prop} {U : State} {H : Heap} (h : ZE e0 mi A U H) (hAB : ∀ q, B q → A q) : ZE e0 mi B U H := ⟨h.1.narrow hAB, h.2.1.narrow hAB, h.2.2⟩
theorem va_Any.moved {E : String} {u U : State} {H : Heap} {a : Nat} (hvm : u.vm.Alike U.vm) (h : va_Any E u H a) : va_Any E U H a := by
  obtain ⟨cv, h1, h2, ⟨kC, h3⟩, h4⟩ := h
  obtain ⟨k', hk', -⟩ := hvm.2.2 _ _ h3
  refine ⟨cv, h1, h2, ⟨k', hk'⟩, fun comp hc => ?_⟩
  rw [hvm.assignable]
  exact h4 comp (by rw [← hvm.findClass]; exact hc)
theorem va_Any.kept {E : String} {U : State} {H H1 : Heap} {a : Nat} (h : va_Any E U H a) (hq : H1[a]? = H[a]?) : va_Any E U H1 a := by
  obtain ⟨cv, h1, h2⟩ := h
  exact ⟨cv, by rw [hq]; exact h1, h2⟩
theorem va_Any.lt {E : String} {U : State} {H : Heap} {a : Nat} (h : va_Any E U H a) : a < H.size := by
  obtain ⟨cv, h1, -⟩ := h
  exact (Array.getElem?_eq_some_iff.mp h1).1
/-- the elements that a list holds or gets: objects that lie elsewhere -/
def XE (e0 mi : Nat) (els : List Nat) (A : Nat → Prop) (U : State) (H : Heap) : Prop := ZE e0 mi A U H ∧ ∀ y ∈ els, va_Any "java/lang/Object" U H y ∧ ¬ A y
theorem XE.moved {e0 mi : Nat} {els : List Nat} {A : Nat → Prop} {u U : State} {H : Heap} (hvm : u.vm.Alike U.vm) (h : XE e0 mi els A u H) : XE e0 mi els A U H := ⟨h.1.moved hvm, fun y hy => ⟨(h.2 y hy).1.moved hvm, (h.2 y hy).2⟩⟩
theorem XE.kept {e0 mi : Nat} {els : List Nat} {A : Nat → Prop} {U : State} {H H1 : Heap} (h : XE e0 mi els A U H) (hq : ∀ a : Nat, a < H.size → ¬ A a → H1[a]? = H[a]?) : XE e0 mi els A U H1 := ⟨h.1.kept hq, fun y hy => ⟨(h.2 y hy).1.kept (hq y (h.2 y hy).1.lt (h.2 y hy).2), (h.2 y hy).2⟩⟩
theorem XE.narrow {e0 mi : Nat} {els : List Nat} {A B : Nat → Prop} {U : State} {H : Heap} (h : XE e0 mi els A U H) (hAB : ∀ q, B q → A q) : XE e0 mi els B U H := ⟨h.1.narrow hAB, fun y hy => ⟨(h.2 y hy).1, fun z => (h.2 y hy).2 (hAB y z)⟩⟩
def PwX (G : GG) (sz e0 mi : Nat) (els : List Nat) (w0 : va_W) : State → Prop := fun U => Pw G sz w0 U ∧ XE e0 mi els (va_A w0 sz) U U.heap
theorem PwX.blind {G : GG} {sz e0 mi : Nat} {els : List Nat} {w0 : va_W} {av : List Value} : FrameBlind (va_Pc av (PwX G sz e0 mi els w0)) := fun a U g mk q => ⟨q.1, (Pw.blind (av := av) a U g mk ⟨q.1, q.2.1⟩).2, q.2.2.moved (u := U) (U := U.calling g mk a) (Vm.Alike.refl U.vm)⟩
theorem pvX {G : GG} {s : State} {H : Heap} {w0 : va_W} {A : Nat → Prop} {e0 mi b : Nat} {els : List Nat} {As : List Value} {C : String} (hP : va_P G.1 vwCl w0 H) (hG : GK G s) (hD : va_D A w0) (hX : XE e0 mi els (va_A w0 H.size) s H) (hr : ∃ cell : Cell, H[b]? = some cell ∧ cell.vm.isStatics = false ∧ s.vm.findClass C = some cell.cls) : PreV s H C b (va_Pc (.ref b :: As) (PwX G H.size e0 mi els w0)) As :=
  ⟨PwX.blind, hr, fun U hU hW => ⟨rfl, ⟨by rw [hU], by rw [hU]; exact hP, GK.moved hW hG, hD.weaken (fun _ _ _ _ => trivial)⟩, by rw [hU]; exact hX.moved hW.alike⟩⟩
theorem psX {G : GG} {s : State} {H : Heap} {w0 : va_W} {A : Nat → Prop} {e0 mi : Nat} {els : List Nat} {As : List Value} (hP : va_P G.1 vwCl w0 H) (hG : GK G s) (hD : va_D A w0) (hX : XE e0 mi els (va_A w0 H.size) s H) : PreS s H (va_Pc As (PwX G H.size e0 mi els w0)) As :=
  ⟨PwX.blind, fun U hU hW => ⟨rfl, ⟨by rw [hU], by rw [hU]; exact hP, GK.moved hW hG, hD.weaken (fun _ _ _ _ => trivial)⟩, by rw [hU]; exact hX.moved hW.alike⟩⟩
/-- the numbers of the arrays' kinds are those that the tables say -/
theorem bx_cA {D : va_G} {cl : List vw_C} {tys : List (ClassId × FieldType)} {U : State} {c1 c2 : ClassId} {C : String} {i j : Nat} (h : va_K D cl tys U) (h1 : tys[i]? = some (c1, .object C)) (h2 : tys[j]? = some (c2, .object C)) : c2 = c1 := by
  obtain ⟨-, -, -, -, -, g1⟩ := (h.2 i _ h1).2
  obtain ⟨-, -, -, -, -, g2⟩ := (h.2 j _ h2).2
  exact Option.some.inj (g2.symm.trans g1)
theorem bx_cB {D : va_G} {cl : List vw_C} {tys : List (ClassId × FieldType)} {U : State} {c1 c2 : ClassId} {i j : Nat} (h : va_K D cl tys U) (h1 : tys[i]? = some (c1, .byte)) (h2 : tys[j]? = some (c2, .byte)) : c2 = c1 := Option.some.inj (((h.2 j _ h2).2 : U.vm.findClass _ = some c2).symm.trans (h.2 i _ h1).2)
theorem bx_cI {D : va_G} {cl : List vw_C} {tys : List (ClassId × FieldType)} {U : State} {c1 c2 : ClassId} {i j : Nat} (h : va_K D cl tys U) (h1 : tys[i]? = some (c1, .int)) (h2 : tys[j]? = some (c2, .int)) : c2 = c1 := Option.some.inj (((h.2 j _ h2).2 : U.vm.findClass _ = some c2).symm.trans (h.2 i _ h1).2)
theorem bx_cZ {D : va_G} {cl : List vw_C} {tys : List (ClassId × FieldType)} {U : State} {c1 c2 : ClassId} {i j : Nat} (h : va_K D cl tys U) (h1 : tys[i]? = some (c1, .boolean)) (h2 : tys[j]? = some (c2, .boolean)) : c2 = c1 := Option.some.inj (((h.2 j _ h2).2 : U.vm.findClass _ = some c2).symm.trans (h.2 i _ h1).2)
theorem bx_cJ {D : va_G} {cl : List vw_C} {tys : List (ClassId × FieldType)} {U : State} {c1 c2 : ClassId} {i j : Nat} (h : va_K D cl tys U) (h1 : tys[i]? = some (c1, .long)) (h2 : tys[j]? = some (c2, .long)) : c2 = c1 := Option.some.inj (((h.2 j _ h2).2 : U.vm.findClass _ = some c2).symm.trans (h.2 i _ h1).2)
end AL0
section AL1
variable {p : Program} {l : Launch} {e : Env} {R : Room} {s : State} {m : MethodId} {args : Array Value} {below : List Frame} {meth : Method} {c : Code} {H : Heap} {locs : List Loc} {cells slots : Nat} {Q : State → Prop}
variable {pc : Nat} {ls : Array Slot} {rest st0 : List Value} {a : Array Value} {A0 : Nat → Prop} {H0 : Heap} {G : GG} {ws w0 wr : va_W} {mc ms : Nat}
/-- a call of a method that makes cells -/
theorem bx_callA {S : Type} {v : S → Option Value} {w1 : S → va_W} {post : S → Prop} (hr : va_Run p l e R s m args below meth c H locs cells slots mc ms (F0 m pc ls st0) rest (QA G v w0 w1 post H.size a) (va_A w0 H.size)) (hp : ws.Perm (w0 ++ wr)) (hP : va_P G.1 vwCl ws H) (hD : va_D A0 ws) (hS : va_S A0 H0 H locs) (hA : ∀ q, H0.size ≤ q → A0 q)
    (kk : ∀ (u : S) (H1 : Heap) (locs1 : List Loc), post u → va_P G.1 vwCl (w1 u ++ wr) H1 → va_D A0 (w1 u ++ wr) → va_S A0 H0 H1 locs1 → W p l e R s m args below meth c H1 locs1 (cells + mc) (slots + ms) Q (F0 m (pc + 3) ls ((v u).toList ++ rest))) : W p l e R s m args below meth c H locs cells slots Q (F0 m pc ls st0) := by
  have hF := bx_freeR hp hD hS hA
  intro T hT X
  obtain ⟨v', st₀, t, T', L, h0, X', hL, e1, -, ⟨⟨u, hv, hP1, hD1, hu⟩, hz, hk⟩, st⟩ := hr T hT X
  cases hv
  rw [h0] at hz hk
  rw [← e1] at hz hk hP1
  obtain ⟨g1, g2⟩ := bx_joinR hp hP hD hk hF hP1 hD1
  obtain ⟨t2, a1, b1⟩ := kk u T'.heap (locs ++ L) hu g1 g2
    ⟨Nat.le_trans hS.1 hz, fun q h1 h2 => by rw [hk q (Nat.lt_of_lt_of_le h1 hS.1) (fun z => h2 (hF q z))]; exact hS.2.1 q h1 h2, fun q hq => by
      rcases List.mem_append.mp hq with h | h
      · exact hS.2.2 q h
      · exact hF _ (hL q h)⟩ T' rfl X'
  exact ⟨t2, st t2 a1, b1⟩
/-- a call that makes none and has part of the world -/
theorem bx_callR {v : Option Value} {w1 : va_W} (hr : va_Run p l e R s m args below meth c H locs cells slots 0 0 (F0 m pc ls st0) rest (QW G v w0 w1 H.size a) (va_A w0 H.size)) (hp : ws.Perm (w0 ++ wr)) (hP : va_P G.1 vwCl ws H) (hD : va_D A0 ws) (hS : va_S A0 H0 H locs) (hA : ∀ q, H0.size ≤ q → A0 q)
    (kk : ∀ (H1 : Heap) (locs1 : List Loc), va_P G.1 vwCl (w1 ++ wr) H1 → va_D A0 (w1 ++ wr) → va_S A0 H0 H1 locs1 → W p l e R s m args below meth c H1 locs1 cells slots Q (F0 m (pc + 3) ls (v.toList ++ rest))) : W p l e R s m args below meth c H locs cells slots Q (F0 m pc ls st0) := by
  have hF := bx_freeR hp hD hS hA
  refine bx_callG hr hS hF fun H1 locs1 hP1 hD1 hk hS1 => ?_
  obtain ⟨g1, g2⟩ := bx_joinR hp hP hD hk hF hP1 hD1
  exact kk H1 locs1 g1 g2 hS1
end AL1
end
section
abbrev b_OCT_init : ByteArray := prog_5_method_1_code
def y_OCT_init : MethodName := ⟨R_OCT, "<init>", "()V"⟩
def w_OCT_init : List Cond := .code y_OCT_init b_OCT_init 1 none :: lwG
theorem d_OCT_init_0 : decode b_OCT_init 0 = .ok (.aload_n 0, 1) := by decide +kernel
theorem d_OCT_init_1 : decode b_OCT_init 1 = .ok (.invokespecial 3, 3) := by decide +kernel
theorem d_OCT_init_4 : decode b_OCT_init 4 = .ok (.aload_n 0, 1) := by decide +kernel
theorem d_OCT_init_5 : decode b_OCT_init 5 = .ok (.bipush 41, 2) := by decide +kernel
theorem d_OCT_init_7 : decode b_OCT_init 7 = .ok (.newarray .byte, 2) := by decide +kernel
theorem d_OCT_init_9 : decode b_OCT_init 9 = .ok (.putfield 11, 3) := by decide +kernel
theorem d_OCT_init_12 : decode b_OCT_init 12 = .ok (.aload_n 0, 1) := by decide +kernel
theorem d_OCT_init_13 : decode b_OCT_init 13 = .ok (.iconst 0, 1) := by decide +kernel
theorem d_OCT_init_14 : decode b_OCT_init 14 = .ok (.putfield 15, 3) := by decide +kernel
theorem d_OCT_init_17 : decode b_OCT_init 17 = .ok (.return_, 1) := by decide +kernel
abbrev b_MOD_init : ByteArray := prog_7_method_1_code
def y_MOD_init : MethodName := ⟨R_MOD, "<init>", "()V"⟩
def w_MOD_init : List Cond := .code y_MOD_init b_MOD_init 1 none :: lwG
theorem d_MOD_init_0 : decode b_MOD_init 0 = .ok (.aload_n 0, 1) := by decide +kernel
theorem d_MOD_init_1 : decode b_MOD_init 1 = .ok (.invokespecial 1, 3) := by decide +kernel
theorem d_MOD_init_4 : decode b_MOD_init 4 = .ok (.aload_n 0, 1) := by decide +kernel
theorem d_MOD_init_5 : decode b_MOD_init 5 = .ok (.bipush 16, 2) := by decide +kernel
theorem d_MOD_init_7 : decode b_MOD_init 7 = .ok (.newarray .int, 2) := by decide +kernel
theorem d_MOD_init_9 : decode b_MOD_init 9 = .ok (.putfield 7, 3) := by decide +kernel
theorem d_MOD_init_12 : decode b_MOD_init 12 = .ok (.aload_n 0, 1) := by decide +kernel
theorem d_MOD_init_13 : decode b_MOD_init 13 = .ok (.bipush 16, 2) := by decide +kernel
theorem d_MOD_init_15 : decode b_MOD_init 15 = .ok (.newarray .int, 2) := by decide +kernel
theorem d_MOD_init_17 : decode b_MOD_init 17 = .ok (.putfield 13, 3) := by decide +kernel
theorem d_MOD_init_20 : decode b_MOD_init 20 = .ok (.aload_n 0, 1) := by decide +kernel
theorem d_MOD_init_21 : decode b_MOD_init 21 = .ok (.bipush 16, 2) := by decide +kernel
theorem d_MOD_init_23 : decode b_MOD_init 23 = .ok (.newarray .int, 2) := by decide +kernel
theorem d_MOD_init_25 : decode b_MOD_init 25 = .ok (.putfield 16, 3) := by decide +kernel
theorem d_MOD_init_28 : decode b_MOD_init 28 = .ok (.aload_n 0, 1) := by decide +kernel
theorem d_MOD_init_29 : decode b_MOD_init 29 = .ok (.bipush 16, 2) := by decide +kernel
theorem d_MOD_init_31 : decode b_MOD_init 31 = .ok (.newarray .int, 2) := by decide +kernel
theorem d_MOD_init_33 : decode b_MOD_init 33 = .ok (.putfield 19, 3) := by decide +kernel
theorem d_MOD_init_36 : decode b_MOD_init 36 = .ok (.aload_n 0, 1) := by decide +kernel
theorem d_MOD_init_37 : decode b_MOD_init 37 = .ok (.bipush 16, 2) := by decide +kernel
theorem d_MOD_init_39 : decode b_MOD_init 39 = .ok (.newarray .int, 2) := by decide +kernel
theorem d_MOD_init_41 : decode b_MOD_init 41 = .ok (.putfield 22, 3) := by decide +kernel
theorem d_MOD_init_44 : decode b_MOD_init 44 = .ok (.aload_n 0, 1) := by decide +kernel
theorem d_MOD_init_45 : decode b_MOD_init 45 = .ok (.bipush 16, 2) := by decide +kernel
theorem d_MOD_init_47 : decode b_MOD_init 47 = .ok (.newarray .boolean, 2) := by decide +kernel
theorem d_MOD_init_49 : decode b_MOD_init 49 = .ok (.putfield 25, 3) := by decide +kernel
theorem d_MOD_init_52 : decode b_MOD_init 52 = .ok (.aload_n 0, 1) := by decide +kernel
theorem d_MOD_init_53 : decode b_MOD_init 53 = .ok (.bipush 20, 2) := by decide +kernel
theorem d_MOD_init_55 : decode b_MOD_init 55 = .ok (.newarray .int, 2) := by decide +kernel
theorem d_MOD_init_57 : decode b_MOD_init 57 = .ok (.putfield 29, 3) := by decide +kernel
theorem d_MOD_init_60 : decode b_MOD_init 60 = .ok (.aload_n 0, 1) := by decide +kernel
theorem d_MOD_init_61 : decode b_MOD_init 61 = .ok (.bipush 20, 2) := by decide +kernel
theorem d_MOD_init_63 : decode b_MOD_init 63 = .ok (.newarray .boolean, 2) := by decide +kernel
theorem d_MOD_init_65 : decode b_MOD_init 65 = .ok (.putfield 32, 3) := by decide +kernel
theorem d_MOD_init_68 : decode b_MOD_init 68 = .ok (.aload_n 0, 1) := by decide +kernel
theorem d_MOD_init_69 : decode b_MOD_init 69 = .ok (.bipush 20, 2) := by decide +kernel
theorem d_MOD_init_71 : decode b_MOD_init 71 = .ok (.newarray .boolean, 2) := by decide +kernel
theorem d_MOD_init_73 : decode b_MOD_init 73 = .ok (.putfield 35, 3) := by decide +kernel
theorem d_MOD_init_76 : decode b_MOD_init 76 = .ok (.aload_n 0, 1) := by decide +kernel
theorem d_MOD_init_77 : decode b_MOD_init 77 = .ok (.bipush 20, 2) := by decide +kernel
theorem d_MOD_init_79 : decode b_MOD_init 79 = .ok (.newarray .boolean, 2) := by decide +kernel
theorem d_MOD_init_81 : decode b_MOD_init 81 = .ok (.putfield 38, 3) := by decide +kernel
theorem d_MOD_init_84 : decode b_MOD_init 84 = .ok (.aload_n 0, 1) := by decide +kernel
theorem d_MOD_init_85 : decode b_MOD_init 85 = .ok (.bipush 20, 2) := by decide +kernel
theorem d_MOD_init_87 : decode b_MOD_init 87 = .ok (.newarray .boolean, 2) := by decide +kernel
theorem d_MOD_init_89 : decode b_MOD_init 89 = .ok (.putfield 41, 3) := by decide +kernel
theorem d_MOD_init_92 : decode b_MOD_init 92 = .ok (.aload_n 0, 1) := by decide +kernel
theorem d_MOD_init_93 : decode b_MOD_init 93 = .ok (.bipush 20, 2) := by decide +kernel
theorem d_MOD_init_95 : decode b_MOD_init 95 = .ok (.newarray .int, 2) := by decide +kernel
theorem d_MOD_init_97 : decode b_MOD_init 97 = .ok (.putfield 44, 3) := by decide +kernel
theorem d_MOD_init_100 : decode b_MOD_init 100 = .ok (.aload_n 0, 1) := by decide +kernel
theorem d_MOD_init_101 : decode b_MOD_init 101 = .ok (.bipush 20, 2) := by decide +kernel
theorem d_MOD_init_103 : decode b_MOD_init 103 = .ok (.newarray .int, 2) := by decide +kernel
theorem d_MOD_init_105 : decode b_MOD_init 105 = .ok (.putfield 47, 3) := by decide +kernel
theorem d_MOD_init_108 : decode b_MOD_init 108 = .ok (.aload_n 0, 1) := by decide +kernel
theorem d_MOD_init_109 : decode b_MOD_init 109 = .ok (.bipush 20, 2) := by decide +kernel
theorem d_MOD_init_111 : decode b_MOD_init 111 = .ok (.newarray .boolean, 2) := by decide +kernel
theorem d_MOD_init_113 : decode b_MOD_init 113 = .ok (.putfield 50, 3) := by decide +kernel
theorem d_MOD_init_116 : decode b_MOD_init 116 = .ok (.aload_n 0, 1) := by decide +kernel
theorem d_MOD_init_117 : decode b_MOD_init 117 = .ok (.bipush 20, 2) := by decide +kernel
theorem d_MOD_init_119 : decode b_MOD_init 119 = .ok (.newarray .int, 2) := by decide +kernel
theorem d_MOD_init_121 : decode b_MOD_init 121 = .ok (.putfield 53, 3) := by decide +kernel
theorem d_MOD_init_124 : decode b_MOD_init 124 = .ok (.aload_n 0, 1) := by decide +kernel
theorem d_MOD_init_125 : decode b_MOD_init 125 = .ok (.bipush 20, 2) := by decide +kernel
theorem d_MOD_init_127 : decode b_MOD_init 127 = .ok (.newarray .int, 2) := by decide +kernel
theorem d_MOD_init_129 : decode b_MOD_init 129 = .ok (.putfield 56, 3) := by decide +kernel
theorem d_MOD_init_132 : decode b_MOD_init 132 = .ok (.aload_n 0, 1) := by decide +kernel
theorem d_MOD_init_133 : decode b_MOD_init 133 = .ok (.bipush 64, 2) := by decide +kernel
theorem d_MOD_init_135 : decode b_MOD_init 135 = .ok (.newarray .int, 2) := by decide +kernel
theorem d_MOD_init_137 : decode b_MOD_init 137 = .ok (.putfield 59, 3) := by decide +kernel
theorem d_MOD_init_140 : decode b_MOD_init 140 = .ok (.return_, 1) := by decide +kernel
end
section
set_option maxHeartbeats 4000000 in
set_option maxRecDepth 100000 in
theorem c_Octets_init (l : Launch) (G : GG) (sz : Nat) (h0 : Nat) (ln : Int32)  : Met l y_OCT_init w_OCT_init ({ frames := 1, cells := 1, slots := 41, locals := 12 }) (va_Pc [.ref h0] (Pw G sz [(h0, .inr (3, [.null, .int ln]))])) (QA (S := Nat) G (fun _ => none) [(h0, .inr (3, [.null, .int ln]))] (fun u => [(h0, .inr (3, [.ref u, .int 0])), (u, .inl (G.2 1, 41, .inl (fun _ => 0)))]) (fun _ => True) sz) 1 41 (va_A [(h0, .inr (3, [.null, .int ln]))] sz) := by
  refine Met.ofW (cc := b_OCT_init) (maxL := 1) (ret := none) (by decide) rfl ?_
  intro p e s m args below meth c s₁ B hml hv
  obtain ⟨rfl, hsz, hP, hGK, hD0⟩ := hv
  have hx := B.exec
  have hb := B.bytes
  have hr := B.returns
  have hts := atoms_spec (ws := w_OCT_init) B.pre
  have hT : ∀ w ∈ lwG, w.before _ s = true := fun w h => hts w (List.mem_cons_of_mem _ h)
  have hown : s.vm.findClass R_OCT = some m.cls := findClass_of_methodNamed B.named
  have hlocks := B.notSynchronized
  have hK := hGK.1
  have hN := hGK.2
  have hin : meth.name = "<init>" := (name_of_methodNamed B.named B.method).1
  subst hsz
  have hD := hD0.self (sz := s.heap.size)
  generalize hAe : va_A [(h0, .inr (3, [.null, .int ln]))] s.heap.size = A at hD ⊢
  have hA : ∀ q : Nat, s.heap.size ≤ q → A q := fun q h => by rw [← hAe]; exact Or.inr h
  have hS : va_S A s.heap s.heap [] := va_S.rf
  have hP : va_P G.1 vwCl [(h0, .inr (3, [.null, .int ln]))] s.heap := hP
  have hl := lv_entry ([.ref h0]) (n := 1) (Nat.le_of_ble_eq_true rfl)
  rw [lg_entry_eq]
  generalize (lg_sl ([.ref h0]) ++ List.replicate (1 - (lg_sl ([.ref h0])).length) Slot.unset).toArray = ls at hl ⊢
  have hl : lv_has ls 1 [(0, .ref h0)] := hl
  refine lv_aload_n hx hb d_OCT_init_0 rfl (lv_at hl 0 rfl) ?_
  refine W.objInit hx hb hown (hT _ wd_123) (hT _ wd_71) (hT _ wd_72) rfl (by rw [hml]; exact hl.1) rfl d_OCT_init_1 (Nat.le_of_ble_eq_true rfl) (Nat.le_of_ble_eq_true rfl) ?_
  refine W.eq (g2 := F0 m 4 ls []) rfl ?_
  refine lv_aload_n hx hb d_OCT_init_4 rfl (lv_at hl 0 rfl) ?_
  refine lv_bipush (v := 41) hx hb d_OCT_init_5 (by decide) ?_
  refine va_newa (atype := .byte) (a0 := (41, .inl (fun _ => 0))) hx hb (hT _ wd_133) rfl hK hP hD hS hA (fun _ => rfl) (by decide) (by decide) (by decide) (Nat.le_of_ble_eq_true rfl) (Nat.le_of_ble_eq_true rfl) d_OCT_init_7 (fun q_7 cA H hK9 hP hD hS => ?_)
  obtain rfl : cA = G.2 1 := bx_cB hK9 (i := 1) (j := 5) rfl rfl
  have hP : va_P G.1 vwCl [(h0, .inr (3, [.null, .int ln])), (q_7, .inl (G.2 1, 41, .inl (fun _ => 0)))] H := hP
  have hD : va_D A [(h0, .inr (3, [.null, .int ln])), (q_7, .inl (G.2 1, 41, .inl (fun _ => 0)))] := hD
  refine va_putF (D := G.1) (ci := 3) (v := .ref q_7) (ty := .array .byte) (C := R_OCT) (T := T_OCT) (N := 2) hx hb hT in_OCT t_OCT tok_OCT nok_OCT hown hK hP hD hS 0 rfl rfl 0 (by decide) (hT _ wd_124) (fun _ h9 => h9) rfl hin rfl (by decide +kernel) rfl rfl (Nat.le_of_ble_eq_true rfl) d_OCT_init_9 (fun H locs hP hD hS => ?_)
  have hP : va_P G.1 vwCl [(h0, .inr (3, [.ref q_7, .int ln])), (q_7, .inl (G.2 1, 41, .inl (fun _ => 0)))] H := hP
  have hD : va_D A [(h0, .inr (3, [.ref q_7, .int ln])), (q_7, .inl (G.2 1, 41, .inl (fun _ => 0)))] := hD
  refine lv_aload_n hx hb d_OCT_init_12 rfl (lv_at hl 0 rfl) ?_
  refine lv_iconst (v := 0) hx hb d_OCT_init_13 (by decide) ?_
  refine va_put (D := G.1) (ci := 3) (v := .int 0) (ty := .int) (C := R_OCT) (T := T_OCT) (N := 2) hx hb hT in_OCT t_OCT tok_OCT nok_OCT hown hK hP hD hS 0 rfl rfl 1 (by decide) (hT _ wd_126) (fun _ h9 => h9) rfl (by decide +kernel) rfl rfl (Nat.le_of_ble_eq_true rfl) d_OCT_init_14 (fun H locs hP hD hS => ?_)
  have hP : va_P G.1 vwCl [(h0, .inr (3, [.ref q_7, .int 0])), (q_7, .inl (G.2 1, 41, .inl (fun _ => 0)))] H := hP
  have hD : va_D A [(h0, .inr (3, [.ref q_7, .int 0])), (q_7, .inl (G.2 1, 41, .inl (fun _ => 0)))] := hD
  refine W.widen (k := 1) (n := 41) (Nat.le_of_ble_eq_true rfl) (Nat.le_of_ble_eq_true rfl) ?_
  exact W.vret hx hb hr (fun t ht hW => ⟨⟨q_7, rfl, by rw [ht]; exact hP, by rw [hAe]; exact hD, trivial⟩, by rw [hAe]; exact hS.F ht⟩) hS.2.2 d_OCT_init_17
set_option maxHeartbeats 4000000 in
set_option maxRecDepth 100000 in
theorem c_Model_init (l : Launch) (G : GG) (sz : Nat) (z0 : Nat)  : Met l y_MOD_init w_MOD_init ({ frames := 1, cells := 17, slots := 424, locals := 12 }) (va_Pc [.ref z0] (Pw G sz [(z0, .inr (6, [.int 0, .int 0, .null, .null, .null, .null, .null, .null, .int 0, .null, .null, .null, .null, .null, .null, .null, .null, .null, .null, .int 0, .int 0, .long 0, .long 0, .int 0, .null]))])) (QA (S := Nat → Nat) G (fun _ => none) [(z0, .inr (6, [.int 0, .int 0, .null, .null, .null, .null, .null, .null, .int 0, .null, .null, .null, .null, .null, .null, .null, .null, .null, .null, .int 0, .int 0, .long 0, .long 0, .int 0, .null]))] (fun u => [(z0, .inr (6, [.int 0, .int 0, .ref (u 1), .ref (u 2), .ref (u 3), .ref (u 4), .ref (u 5), .ref (u 6), .int 0, .ref (u 7), .ref (u 8), .ref (u 9), .ref (u 10), .ref (u 11), .ref (u 12), .ref (u 13), .ref (u 14), .ref (u 15), .ref (u 16), .int 0, .int 0, .long 0, .long 0, .int 0, .ref (u 17)])), ((u 1), .inl (G.2 2, 16, .inl (fun _ => 0))), ((u 2), .inl (G.2 2, 16, .inl (fun _ => 0))), ((u 3), .inl (G.2 2, 16, .inl (fun _ => 0))), ((u 4), .inl (G.2 2, 16, .inl (fun _ => 0))), ((u 5), .inl (G.2 2, 16, .inl (fun _ => 0))), ((u 6), .inl (G.2 3, 16, .inl (fun _ => 0))), ((u 7), .inl (G.2 2, 20, .inl (fun _ => 0))), ((u 8), .inl (G.2 3, 20, .inl (fun _ => 0))), ((u 9), .inl (G.2 3, 20, .inl (fun _ => 0))), ((u 10), .inl (G.2 3, 20, .inl (fun _ => 0))), ((u 11), .inl (G.2 3, 20, .inl (fun _ => 0))), ((u 12), .inl (G.2 2, 20, .inl (fun _ => 0))), ((u 13), .inl (G.2 2, 20, .inl (fun _ => 0))), ((u 14), .inl (G.2 3, 20, .inl (fun _ => 0))), ((u 15), .inl (G.2 2, 20, .inl (fun _ => 0))), ((u 16), .inl (G.2 2, 20, .inl (fun _ => 0))), ((u 17), .inl (G.2 2, 64, .inl (fun _ => 0)))]) (fun _ => True) sz) 17 424 (va_A [(z0, .inr (6, [.int 0, .int 0, .null, .null, .null, .null, .null, .null, .int 0, .null, .null, .null, .null, .null, .null, .null, .null, .null, .null, .int 0, .int 0, .long 0, .long 0, .int 0, .null]))] sz) := by
  refine Met.ofW (cc := b_MOD_init) (maxL := 1) (ret := none) (by decide) rfl ?_
  intro p e s m args below meth c s₁ B hml hv
  obtain ⟨rfl, hsz, hP, hGK, hD0⟩ := hv
  have hx := B.exec
  have hb := B.bytes
  have hr := B.returns
  have hts := atoms_spec (ws := w_MOD_init) B.pre
  have hT : ∀ w ∈ lwG, w.before _ s = true := fun w h => hts w (List.mem_cons_of_mem _ h)
  have hown : s.vm.findClass R_MOD = some m.cls := findClass_of_methodNamed B.named
  have hlocks := B.notSynchronized
  have hK := hGK.1
  have hN := hGK.2
  have hin : meth.name = "<init>" := (name_of_methodNamed B.named B.method).1
  subst hsz
  have hD := hD0.self (sz := s.heap.size)
  generalize hAe : va_A [(z0, .inr (6, [.int 0, .int 0, .null, .null, .null, .null, .null, .null, .int 0, .null, .null, .null, .null, .null, .null, .null, .null, .null, .null, .int 0, .int 0, .long 0, .long 0, .int 0, .null]))] s.heap.size = A at hD ⊢
  have hA : ∀ q : Nat, s.heap.size ≤ q → A q := fun q h => by rw [← hAe]; exact Or.inr h
  have hS : va_S A s.heap s.heap [] := va_S.rf
  have hP : va_P G.1 vwCl [(z0, .inr (6, [.int 0, .int 0, .null, .null, .null, .null, .null, .null, .int 0, .null, .null, .null, .null, .null, .null, .null, .null, .null, .null, .int 0, .int 0, .long 0, .long 0, .int 0, .null]))] s.heap := hP
  have hl := lv_entry ([.ref z0]) (n := 1) (Nat.le_of_ble_eq_true rfl)
  rw [lg_entry_eq]
  generalize (lg_sl ([.ref z0]) ++ List.replicate (1 - (lg_sl ([.ref z0])).length) Slot.unset).toArray = ls at hl ⊢
  have hl : lv_has ls 1 [(0, .ref z0)] := hl
  refine lv_aload_n hx hb d_MOD_init_0 rfl (lv_at hl 0 rfl) ?_
  refine W.objInit hx hb hown (hT _ wd_581) (hT _ wd_71) (hT _ wd_72) rfl (by rw [hml]; exact hl.1) rfl d_MOD_init_1 (Nat.le_of_ble_eq_true rfl) (Nat.le_of_ble_eq_true rfl) ?_
  refine W.eq (g2 := F0 m 4 ls []) rfl ?_
  refine lv_aload_n hx hb d_MOD_init_4 rfl (lv_at hl 0 rfl) ?_
  refine lv_bipush (v := 16) hx hb d_MOD_init_5 (by decide) ?_
  refine va_newa (atype := .int) (a0 := (16, .inl (fun _ => 0))) hx hb (hT _ wd_658) rfl hK hP hD hS hA (fun _ => rfl) (by decide) (by decide) (by decide) (Nat.le_of_ble_eq_true rfl) (Nat.le_of_ble_eq_true rfl) d_MOD_init_7 (fun q_7 cA H hK9 hP hD hS => ?_)
  obtain rfl : cA = G.2 2 := bx_cI hK9 (i := 2) (j := 5) rfl rfl
  have hP : va_P G.1 vwCl [(z0, .inr (6, [.int 0, .int 0, .null, .null, .null, .null, .null, .null, .int 0, .null, .null, .null, .null, .null, .null, .null, .null, .null, .null, .int 0, .int 0, .long 0, .long 0, .int 0, .null])), (q_7, .inl (G.2 2, 16, .inl (fun _ => 0)))] H := hP
  have hD : va_D A [(z0, .inr (6, [.int 0, .int 0, .null, .null, .null, .null, .null, .null, .int 0, .null, .null, .null, .null, .null, .null, .null, .null, .null, .null, .int 0, .int 0, .long 0, .long 0, .int 0, .null])), (q_7, .inl (G.2 2, 16, .inl (fun _ => 0)))] := hD
  refine va_putF (D := G.1) (ci := 6) (v := .ref q_7) (ty := .array .int) (C := R_MOD) (T := T_MOD) (N := 25) hx hb hT in_MOD t_MOD tok_MOD nok_MOD hown hK hP hD hS 0 rfl rfl 2 (by decide) (hT _ wd_584) (fun _ h9 => h9) rfl hin rfl (by decide +kernel) rfl rfl (Nat.le_of_ble_eq_true rfl) d_MOD_init_9 (fun H locs hP hD hS => ?_)
  have hP : va_P G.1 vwCl [(z0, .inr (6, [.int 0, .int 0, .ref q_7, .null, .null, .null, .null, .null, .int 0, .null, .null, .null, .null, .null, .null, .null, .null, .null, .null, .int 0, .int 0, .long 0, .long 0, .int 0, .null])), (q_7, .inl (G.2 2, 16, .inl (fun _ => 0)))] H := hP
  have hD : va_D A [(z0, .inr (6, [.int 0, .int 0, .ref q_7, .null, .null, .null, .null, .null, .int 0, .null, .null, .null, .null, .null, .null, .null, .null, .null, .null, .int 0, .int 0, .long 0, .long 0, .int 0, .null])), (q_7, .inl (G.2 2, 16, .inl (fun _ => 0)))] := hD
  refine lv_aload_n hx hb d_MOD_init_12 rfl (lv_at hl 0 rfl) ?_
  refine lv_bipush (v := 16) hx hb d_MOD_init_13 (by decide) ?_
  refine va_newa (atype := .int) (a0 := (16, .inl (fun _ => 0))) hx hb (hT _ wd_658) rfl hK hP hD hS hA (fun _ => rfl) (by decide) (by decide) (by decide) (Nat.le_of_ble_eq_true rfl) (Nat.le_of_ble_eq_true rfl) d_MOD_init_15 (fun q_15 cA H hK9 hP hD hS => ?_)
  obtain rfl : cA = G.2 2 := bx_cI hK9 (i := 2) (j := 5) rfl rfl
  have hP : va_P G.1 vwCl [(z0, .inr (6, [.int 0, .int 0, .ref q_7, .null, .null, .null, .null, .null, .int 0, .null, .null, .null, .null, .null, .null, .null, .null, .null, .null, .int 0, .int 0, .long 0, .long 0, .int 0, .null])), (q_7, .inl (G.2 2, 16, .inl (fun _ => 0))), (q_15, .inl (G.2 2, 16, .inl (fun _ => 0)))] H := hP
  have hD : va_D A [(z0, .inr (6, [.int 0, .int 0, .ref q_7, .null, .null, .null, .null, .null, .int 0, .null, .null, .null, .null, .null, .null, .null, .null, .null, .null, .int 0, .int 0, .long 0, .long 0, .int 0, .null])), (q_7, .inl (G.2 2, 16, .inl (fun _ => 0))), (q_15, .inl (G.2 2, 16, .inl (fun _ => 0)))] := hD
  refine va_putF (D := G.1) (ci := 6) (v := .ref q_15) (ty := .array .int) (C := R_MOD) (T := T_MOD) (N := 25) hx hb hT in_MOD t_MOD tok_MOD nok_MOD hown hK hP hD hS 0 rfl rfl 3 (by decide) (hT _ wd_585) (fun _ h9 => h9) rfl hin rfl (by decide +kernel) rfl rfl (Nat.le_of_ble_eq_true rfl) d_MOD_init_17 (fun H locs hP hD hS => ?_)
  have hP : va_P G.1 vwCl [(z0, .inr (6, [.int 0, .int 0, .ref q_7, .ref q_15, .null, .null, .null, .null, .int 0, .null, .null, .null, .null, .null, .null, .null, .null, .null, .null, .int 0, .int 0, .long 0, .long 0, .int 0, .null])), (q_7, .inl (G.2 2, 16, .inl (fun _ => 0))), (q_15, .inl (G.2 2, 16, .inl (fun _ => 0)))] H := hP
  have hD : va_D A [(z0, .inr (6, [.int 0, .int 0, .ref q_7, .ref q_15, .null, .null, .null, .null, .int 0, .null, .null, .null, .null, .null, .null, .null, .null, .null, .null, .int 0, .int 0, .long 0, .long 0, .int 0, .null])), (q_7, .inl (G.2 2, 16, .inl (fun _ => 0))), (q_15, .inl (G.2 2, 16, .inl (fun _ => 0)))] := hD
  refine lv_aload_n hx hb d_MOD_init_20 rfl (lv_at hl 0 rfl) ?_
  refine lv_bipush (v := 16) hx hb d_MOD_init_21 (by decide) ?_
  refine va_newa (atype := .int) (a0 := (16, .inl (fun _ => 0))) hx hb (hT _ wd_658) rfl hK hP hD hS hA (fun _ => rfl) (by decide) (by decide) (by decide) (Nat.le_of_ble_eq_true rfl) (Nat.le_of_ble_eq_true rfl) d_MOD_init_23 (fun q_23 cA H hK9 hP hD hS => ?_)
  obtain rfl : cA = G.2 2 := bx_cI hK9 (i := 2) (j := 5) rfl rfl
  have hP : va_P G.1 vwCl [(z0, .inr (6, [.int 0, .int 0, .ref q_7, .ref q_15, .null, .null, .null, .null, .int 0, .null, .null, .null, .null, .null, .null, .null, .null, .null, .null, .int 0, .int 0, .long 0, .long 0, .int 0, .null])), (q_7, .inl (G.2 2, 16, .inl (fun _ => 0))), (q_15, .inl (G.2 2, 16, .inl (fun _ => 0))), (q_23, .inl (G.2 2, 16, .inl (fun _ => 0)))] H := hP
  have hD : va_D A [(z0, .inr (6, [.int 0, .int 0, .ref q_7, .ref q_15, .null, .null, .null, .null, .int 0, .null, .null, .null, .null, .null, .null, .null, .null, .null, .null, .int 0, .int 0, .long 0, .long 0, .int 0, .null])), (q_7, .inl (G.2 2, 16, .inl (fun _ => 0))), (q_15, .inl (G.2 2, 16, .inl (fun _ => 0))), (q_23, .inl (G.2 2, 16, .inl (fun _ => 0)))] := hD
  refine va_putF (D := G.1) (ci := 6) (v := .ref q_23) (ty := .array .int) (C := R_MOD) (T := T_MOD) (N := 25) hx hb hT in_MOD t_MOD tok_MOD nok_MOD hown hK hP hD hS 0 rfl rfl 4 (by decide) (hT _ wd_586) (fun _ h9 => h9) rfl hin rfl (by decide +kernel) rfl rfl (Nat.le_of_ble_eq_true rfl) d_MOD_init_25 (fun H locs hP hD hS => ?_)
  have hP : va_P G.1 vwCl [(z0, .inr (6, [.int 0, .int 0, .ref q_7, .ref q_15, .ref q_23, .null, .null, .null, .int 0, .null, .null, .null, .null, .null, .null, .null, .null, .null, .null, .int 0, .int 0, .long 0, .long 0, .int 0, .null])), (q_7, .inl (G.2 2, 16, .inl (fun _ => 0))), (q_15, .inl (G.2 2, 16, .inl (fun _ => 0))), (q_23, .inl (G.2 2, 16, .inl (fun _ => 0)))] H := hP
  have hD : va_D A [(z0, .inr (6, [.int 0, .int 0, .ref q_7, .ref q_15, .ref q_23, .null, .null, .null, .int 0, .null, .null, .null, .null, .null, .null, .null, .null, .null, .null, .int 0, .int 0, .long 0, .long 0, .int 0, .null])), (q_7, .inl (G.2 2, 16, .inl (fun _ => 0))), (q_15, .inl (G.2 2, 16, .inl (fun _ => 0))), (q_23, .inl (G.2 2, 16, .inl (fun _ => 0)))] := hD
  refine lv_aload_n hx hb d_MOD_init_28 rfl (lv_at hl 0 rfl) ?_
  refine lv_bipush (v := 16) hx hb d_MOD_init_29 (by decide) ?_
  refine va_newa (atype := .int) (a0 := (16, .inl (fun _ => 0))) hx hb (hT _ wd_658) rfl hK hP hD hS hA (fun _ => rfl) (by decide) (by decide) (by decide) (Nat.le_of_ble_eq_true rfl) (Nat.le_of_ble_eq_true rfl) d_MOD_init_31 (fun q_31 cA H hK9 hP hD hS => ?_)
  obtain rfl : cA = G.2 2 := bx_cI hK9 (i := 2) (j := 5) rfl rfl
  have hP : va_P G.1 vwCl [(z0, .inr (6, [.int 0, .int 0, .ref q_7, .ref q_15, .ref q_23, .null, .null, .null, .int 0, .null, .null, .null, .null, .null, .null, .null, .null, .null, .null, .int 0, .int 0, .long 0, .long 0, .int 0, .null])), (q_7, .inl (G.2 2, 16, .inl (fun _ => 0))), (q_15, .inl (G.2 2, 16, .inl (fun _ => 0))), (q_23, .inl (G.2 2, 16, .inl (fun _ => 0))), (q_31, .inl (G.2 2, 16, .inl (fun _ => 0)))] H := hP
  have hD : va_D A [(z0, .inr (6, [.int 0, .int 0, .ref q_7, .ref q_15, .ref q_23, .null, .null, .null, .int 0, .null, .null, .null, .null, .null, .null, .null, .null, .null, .null, .int 0, .int 0, .long 0, .long 0, .int 0, .null])), (q_7, .inl (G.2 2, 16, .inl (fun _ => 0))), (q_15, .inl (G.2 2, 16, .inl (fun _ => 0))), (q_23, .inl (G.2 2, 16, .inl (fun _ => 0))), (q_31, .inl (G.2 2, 16, .inl (fun _ => 0)))] := hD
  refine va_putF (D := G.1) (ci := 6) (v := .ref q_31) (ty := .array .int) (C := R_MOD) (T := T_MOD) (N := 25) hx hb hT in_MOD t_MOD tok_MOD nok_MOD hown hK hP hD hS 0 rfl rfl 5 (by decide) (hT _ wd_587) (fun _ h9 => h9) rfl hin rfl (by decide +kernel) rfl rfl (Nat.le_of_ble_eq_true rfl) d_MOD_init_33 (fun H locs hP hD hS => ?_)
  have hP : va_P G.1 vwCl [(z0, .inr (6, [.int 0, .int 0, .ref q_7, .ref q_15, .ref q_23, .ref q_31, .null, .null, .int 0, .null, .null, .null, .null, .null, .null, .null, .null, .null, .null, .int 0, .int 0, .long 0, .long 0, .int 0, .null])), (q_7, .inl (G.2 2, 16, .inl (fun _ => 0))), (q_15, .inl (G.2 2, 16, .inl (fun _ => 0))), (q_23, .inl (G.2 2, 16, .inl (fun _ => 0))), (q_31, .inl (G.2 2, 16, .inl (fun _ => 0)))] H := hP
  have hD : va_D A [(z0, .inr (6, [.int 0, .int 0, .ref q_7, .ref q_15, .ref q_23, .ref q_31, .null, .null, .int 0, .null, .null, .null, .null, .null, .null, .null, .null, .null, .null, .int 0, .int 0, .long 0, .long 0, .int 0, .null])), (q_7, .inl (G.2 2, 16, .inl (fun _ => 0))), (q_15, .inl (G.2 2, 16, .inl (fun _ => 0))), (q_23, .inl (G.2 2, 16, .inl (fun _ => 0))), (q_31, .inl (G.2 2, 16, .inl (fun _ => 0)))] := hD
  refine lv_aload_n hx hb d_MOD_init_36 rfl (lv_at hl 0 rfl) ?_
  refine lv_bipush (v := 16) hx hb d_MOD_init_37 (by decide) ?_
  refine va_newa (atype := .int) (a0 := (16, .inl (fun _ => 0))) hx hb (hT _ wd_658) rfl hK hP hD hS hA (fun _ => rfl) (by decide) (by decide) (by decide) (Nat.le_of_ble_eq_true rfl) (Nat.le_of_ble_eq_true rfl) d_MOD_init_39 (fun q_39 cA H hK9 hP hD hS => ?_)
  obtain rfl : cA = G.2 2 := bx_cI hK9 (i := 2) (j := 5) rfl rfl
  have hP : va_P G.1 vwCl [(z0, .inr (6, [.int 0, .int 0, .ref q_7, .ref q_15, .ref q_23, .ref q_31, .null, .null, .int 0, .null, .null, .null, .null, .null, .null, .null, .null, .null, .null, .int 0, .int 0, .long 0, .long 0, .int 0, .null])), (q_7, .inl (G.2 2, 16, .inl (fun _ => 0))), (q_15, .inl (G.2 2, 16, .inl (fun _ => 0))), (q_23, .inl (G.2 2, 16, .inl (fun _ => 0))), (q_31, .inl (G.2 2, 16, .inl (fun _ => 0))), (q_39, .inl (G.2 2, 16, .inl (fun _ => 0)))] H := hP
  have hD : va_D A [(z0, .inr (6, [.int 0, .int 0, .ref q_7, .ref q_15, .ref q_23, .ref q_31, .null, .null, .int 0, .null, .null, .null, .null, .null, .null, .null, .null, .null, .null, .int 0, .int 0, .long 0, .long 0, .int 0, .null])), (q_7, .inl (G.2 2, 16, .inl (fun _ => 0))), (q_15, .inl (G.2 2, 16, .inl (fun _ => 0))), (q_23, .inl (G.2 2, 16, .inl (fun _ => 0))), (q_31, .inl (G.2 2, 16, .inl (fun _ => 0))), (q_39, .inl (G.2 2, 16, .inl (fun _ => 0)))] := hD
  refine va_putF (D := G.1) (ci := 6) (v := .ref q_39) (ty := .array .int) (C := R_MOD) (T := T_MOD) (N := 25) hx hb hT in_MOD t_MOD tok_MOD nok_MOD hown hK hP hD hS 0 rfl rfl 6 (by decide) (hT _ wd_588) (fun _ h9 => h9) rfl hin rfl (by decide +kernel) rfl rfl (Nat.le_of_ble_eq_true rfl) d_MOD_init_41 (fun H locs hP hD hS => ?_)
  have hP : va_P G.1 vwCl [(z0, .inr (6, [.int 0, .int 0, .ref q_7, .ref q_15, .ref q_23, .ref q_31, .ref q_39, .null, .int 0, .null, .null, .null, .null, .null, .null, .null, .null, .null, .null, .int 0, .int 0, .long 0, .long 0, .int 0, .null])), (q_7, .inl (G.2 2, 16, .inl (fun _ => 0))), (q_15, .inl (G.2 2, 16, .inl (fun _ => 0))), (q_23, .inl (G.2 2, 16, .inl (fun _ => 0))), (q_31, .inl (G.2 2, 16, .inl (fun _ => 0))), (q_39, .inl (G.2 2, 16, .inl (fun _ => 0)))] H := hP
  have hD : va_D A [(z0, .inr (6, [.int 0, .int 0, .ref q_7, .ref q_15, .ref q_23, .ref q_31, .ref q_39, .null, .int 0, .null, .null, .null, .null, .null, .null, .null, .null, .null, .null, .int 0, .int 0, .long 0, .long 0, .int 0, .null])), (q_7, .inl (G.2 2, 16, .inl (fun _ => 0))), (q_15, .inl (G.2 2, 16, .inl (fun _ => 0))), (q_23, .inl (G.2 2, 16, .inl (fun _ => 0))), (q_31, .inl (G.2 2, 16, .inl (fun _ => 0))), (q_39, .inl (G.2 2, 16, .inl (fun _ => 0)))] := hD
  refine lv_aload_n hx hb d_MOD_init_44 rfl (lv_at hl 0 rfl) ?_
  refine lv_bipush (v := 16) hx hb d_MOD_init_45 (by decide) ?_
  refine va_newa (atype := .boolean) (a0 := (16, .inl (fun _ => 0))) hx hb (hT _ wd_659) rfl hK hP hD hS hA (fun _ => rfl) (by decide) (by decide) (by decide) (Nat.le_of_ble_eq_true rfl) (Nat.le_of_ble_eq_true rfl) d_MOD_init_47 (fun q_47 cA H hK9 hP hD hS => ?_)
  obtain rfl : cA = G.2 3 := bx_cZ hK9 (i := 3) (j := 5) rfl rfl
  have hP : va_P G.1 vwCl [(z0, .inr (6, [.int 0, .int 0, .ref q_7, .ref q_15, .ref q_23, .ref q_31, .ref q_39, .null, .int 0, .null, .null, .null, .null, .null, .null, .null, .null, .null, .null, .int 0, .int 0, .long 0, .long 0, .int 0, .null])), (q_7, .inl (G.2 2, 16, .inl (fun _ => 0))), (q_15, .inl (G.2 2, 16, .inl (fun _ => 0))), (q_23, .inl (G.2 2, 16, .inl (fun _ => 0))), (q_31, .inl (G.2 2, 16, .inl (fun _ => 0))), (q_39, .inl (G.2 2, 16, .inl (fun _ => 0))), (q_47, .inl (G.2 3, 16, .inl (fun _ => 0)))] H := hP
  have hD : va_D A [(z0, .inr (6, [.int 0, .int 0, .ref q_7, .ref q_15, .ref q_23, .ref q_31, .ref q_39, .null, .int 0, .null, .null, .null, .null, .null, .null, .null, .null, .null, .null, .int 0, .int 0, .long 0, .long 0, .int 0, .null])), (q_7, .inl (G.2 2, 16, .inl (fun _ => 0))), (q_15, .inl (G.2 2, 16, .inl (fun _ => 0))), (q_23, .inl (G.2 2, 16, .inl (fun _ => 0))), (q_31, .inl (G.2 2, 16, .inl (fun _ => 0))), (q_39, .inl (G.2 2, 16, .inl (fun _ => 0))), (q_47, .inl (G.2 3, 16, .inl (fun _ => 0)))] := hD
  refine va_putF (D := G.1) (ci := 6) (v := .ref q_47) (ty := .array .boolean) (C := R_MOD) (T := T_MOD) (N := 25) hx hb hT in_MOD t_MOD tok_MOD nok_MOD hown hK hP hD hS 0 rfl rfl 7 (by decide) (hT _ wd_589) (fun _ h9 => h9) rfl hin rfl (by decide +kernel) rfl rfl (Nat.le_of_ble_eq_true rfl) d_MOD_init_49 (fun H locs hP hD hS => ?_)
  have hP : va_P G.1 vwCl [(z0, .inr (6, [.int 0, .int 0, .ref q_7, .ref q_15, .ref q_23, .ref q_31, .ref q_39, .ref q_47, .int 0, .null, .null, .null, .null, .null, .null, .null, .null, .null, .null, .int 0, .int 0, .long 0, .long 0, .int 0, .null])), (q_7, .inl (G.2 2, 16, .inl (fun _ => 0))), (q_15, .inl (G.2 2, 16, .inl (fun _ => 0))), (q_23, .inl (G.2 2, 16, .inl (fun _ => 0))), (q_31, .inl (G.2 2, 16, .inl (fun _ => 0))), (q_39, .inl (G.2 2, 16, .inl (fun _ => 0))), (q_47, .inl (G.2 3, 16, .inl (fun _ => 0)))] H := hP
  have hD : va_D A [(z0, .inr (6, [.int 0, .int 0, .ref q_7, .ref q_15, .ref q_23, .ref q_31, .ref q_39, .ref q_47, .int 0, .null, .null, .null, .null, .null, .null, .null, .null, .null, .null, .int 0, .int 0, .long 0, .long 0, .int 0, .null])), (q_7, .inl (G.2 2, 16, .inl (fun _ => 0))), (q_15, .inl (G.2 2, 16, .inl (fun _ => 0))), (q_23, .inl (G.2 2, 16, .inl (fun _ => 0))), (q_31, .inl (G.2 2, 16, .inl (fun _ => 0))), (q_39, .inl (G.2 2, 16, .inl (fun _ => 0))), (q_47, .inl (G.2 3, 16, .inl (fun _ => 0)))] := hD
  refine lv_aload_n hx hb d_MOD_init_52 rfl (lv_at hl 0 rfl) ?_
  refine lv_bipush (v := 20) hx hb d_MOD_init_53 (by decide) ?_
  refine va_newa (atype := .int) (a0 := (20, .inl (fun _ => 0))) hx hb (hT _ wd_658) rfl hK hP hD hS hA (fun _ => rfl) (by decide) (by decide) (by decide) (Nat.le_of_ble_eq_true rfl) (Nat.le_of_ble_eq_true rfl) d_MOD_init_55 (fun q_55 cA H hK9 hP hD hS => ?_)
  obtain rfl : cA = G.2 2 := bx_cI hK9 (i := 2) (j := 5) rfl rfl
  have hP : va_P G.1 vwCl [(z0, .inr (6, [.int 0, .int 0, .ref q_7, .ref q_15, .ref q_23, .ref q_31, .ref q_39, .ref q_47, .int 0, .null, .null, .null, .null, .null, .null, .null, .null, .null, .null, .int 0, .int 0, .long 0, .long 0, .int 0, .null])), (q_7, .inl (G.2 2, 16, .inl (fun _ => 0))), (q_15, .inl (G.2 2, 16, .inl (fun _ => 0))), (q_23, .inl (G.2 2, 16, .inl (fun _ => 0))), (q_31, .inl (G.2 2, 16, .inl (fun _ => 0))), (q_39, .inl (G.2 2, 16, .inl (fun _ => 0))), (q_47, .inl (G.2 3, 16, .inl (fun _ => 0))), (q_55, .inl (G.2 2, 20, .inl (fun _ => 0)))] H := hP
  have hD : va_D A [(z0, .inr (6, [.int 0, .int 0, .ref q_7, .ref q_15, .ref q_23, .ref q_31, .ref q_39, .ref q_47, .int 0, .null, .null, .null, .null, .null, .null, .null, .null, .null, .null, .int 0, .int 0, .long 0, .long 0, .int 0, .null])), (q_7, .inl (G.2 2, 16, .inl (fun _ => 0))), (q_15, .inl (G.2 2, 16, .inl (fun _ => 0))), (q_23, .inl (G.2 2, 16, .inl (fun _ => 0))), (q_31, .inl (G.2 2, 16, .inl (fun _ => 0))), (q_39, .inl (G.2 2, 16, .inl (fun _ => 0))), (q_47, .inl (G.2 3, 16, .inl (fun _ => 0))), (q_55, .inl (G.2 2, 20, .inl (fun _ => 0)))] := hD
  refine va_putF (D := G.1) (ci := 6) (v := .ref q_55) (ty := .array .int) (C := R_MOD) (T := T_MOD) (N := 25) hx hb hT in_MOD t_MOD tok_MOD nok_MOD hown hK hP hD hS 0 rfl rfl 9 (by decide) (hT _ wd_591) (fun _ h9 => h9) rfl hin rfl (by decide +kernel) rfl rfl (Nat.le_of_ble_eq_true rfl) d_MOD_init_57 (fun H locs hP hD hS => ?_)
  have hP : va_P G.1 vwCl [(z0, .inr (6, [.int 0, .int 0, .ref q_7, .ref q_15, .ref q_23, .ref q_31, .ref q_39, .ref q_47, .int 0, .ref q_55, .null, .null, .null, .null, .null, .null, .null, .null, .null, .int 0, .int 0, .long 0, .long 0, .int 0, .null])), (q_7, .inl (G.2 2, 16, .inl (fun _ => 0))), (q_15, .inl (G.2 2, 16, .inl (fun _ => 0))), (q_23, .inl (G.2 2, 16, .inl (fun _ => 0))), (q_31, .inl (G.2 2, 16, .inl (fun _ => 0))), (q_39, .inl (G.2 2, 16, .inl (fun _ => 0))), (q_47, .inl (G.2 3, 16, .inl (fun _ => 0))), (q_55, .inl (G.2 2, 20, .inl (fun _ => 0)))] H := hP
  have hD : va_D A [(z0, .inr (6, [.int 0, .int 0, .ref q_7, .ref q_15, .ref q_23, .ref q_31, .ref q_39, .ref q_47, .int 0, .ref q_55, .null, .null, .null, .null, .null, .null, .null, .null, .null, .int 0, .int 0, .long 0, .long 0, .int 0, .null])), (q_7, .inl (G.2 2, 16, .inl (fun _ => 0))), (q_15, .inl (G.2 2, 16, .inl (fun _ => 0))), (q_23, .inl (G.2 2, 16, .inl (fun _ => 0))), (q_31, .inl (G.2 2, 16, .inl (fun _ => 0))), (q_39, .inl (G.2 2, 16, .inl (fun _ => 0))), (q_47, .inl (G.2 3, 16, .inl (fun _ => 0))), (q_55, .inl (G.2 2, 20, .inl (fun _ => 0)))] := hD
  refine lv_aload_n hx hb d_MOD_init_60 rfl (lv_at hl 0 rfl) ?_
  refine lv_bipush (v := 20) hx hb d_MOD_init_61 (by decide) ?_
  refine va_newa (atype := .boolean) (a0 := (20, .inl (fun _ => 0))) hx hb (hT _ wd_659) rfl hK hP hD hS hA (fun _ => rfl) (by decide) (by decide) (by decide) (Nat.le_of_ble_eq_true rfl) (Nat.le_of_ble_eq_true rfl) d_MOD_init_63 (fun q_63 cA H hK9 hP hD hS => ?_)
  obtain rfl : cA = G.2 3 := bx_cZ hK9 (i := 3) (j := 5) rfl rfl
  have hP : va_P G.1 vwCl [(z0, .inr (6, [.int 0, .int 0, .ref q_7, .ref q_15, .ref q_23, .ref q_31, .ref q_39, .ref q_47, .int 0, .ref q_55, .null, .null, .null, .null, .null, .null, .null, .null, .null, .int 0, .int 0, .long 0, .long 0, .int 0, .null])), (q_7, .inl (G.2 2, 16, .inl (fun _ => 0))), (q_15, .inl (G.2 2, 16, .inl (fun _ => 0))), (q_23, .inl (G.2 2, 16, .inl (fun _ => 0))), (q_31, .inl (G.2 2, 16, .inl (fun _ => 0))), (q_39, .inl (G.2 2, 16, .inl (fun _ => 0))), (q_47, .inl (G.2 3, 16, .inl (fun _ => 0))), (q_55, .inl (G.2 2, 20, .inl (fun _ => 0))), (q_63, .inl (G.2 3, 20, .inl (fun _ => 0)))] H := hP
  have hD : va_D A [(z0, .inr (6, [.int 0, .int 0, .ref q_7, .ref q_15, .ref q_23, .ref q_31, .ref q_39, .ref q_47, .int 0, .ref q_55, .null, .null, .null, .null, .null, .null, .null, .null, .null, .int 0, .int 0, .long 0, .long 0, .int 0, .null])), (q_7, .inl (G.2 2, 16, .inl (fun _ => 0))), (q_15, .inl (G.2 2, 16, .inl (fun _ => 0))), (q_23, .inl (G.2 2, 16, .inl (fun _ => 0))), (q_31, .inl (G.2 2, 16, .inl (fun _ => 0))), (q_39, .inl (G.2 2, 16, .inl (fun _ => 0))), (q_47, .inl (G.2 3, 16, .inl (fun _ => 0))), (q_55, .inl (G.2 2, 20, .inl (fun _ => 0))), (q_63, .inl (G.2 3, 20, .inl (fun _ => 0)))] := hD
  refine va_putF (D := G.1) (ci := 6) (v := .ref q_63) (ty := .array .boolean) (C := R_MOD) (T := T_MOD) (N := 25) hx hb hT in_MOD t_MOD tok_MOD nok_MOD hown hK hP hD hS 0 rfl rfl 10 (by decide) (hT _ wd_592) (fun _ h9 => h9) rfl hin rfl (by decide +kernel) rfl rfl (Nat.le_of_ble_eq_true rfl) d_MOD_init_65 (fun H locs hP hD hS => ?_)
  have hP : va_P G.1 vwCl [(z0, .inr (6, [.int 0, .int 0, .ref q_7, .ref q_15, .ref q_23, .ref q_31, .ref q_39, .ref q_47, .int 0, .ref q_55, .ref q_63, .null, .null, .null, .null, .null, .null, .null, .null, .int 0, .int 0, .long 0, .long 0, .int 0, .null])), (q_7, .inl (G.2 2, 16, .inl (fun _ => 0))), (q_15, .inl (G.2 2, 16, .inl (fun _ => 0))), (q_23, .inl (G.2 2, 16, .inl (fun _ => 0))), (q_31, .inl (G.2 2, 16, .inl (fun _ => 0))), (q_39, .inl (G.2 2, 16, .inl (fun _ => 0))), (q_47, .inl (G.2 3, 16, .inl (fun _ => 0))), (q_55, .inl (G.2 2, 20, .inl (fun _ => 0))), (q_63, .inl (G.2 3, 20, .inl (fun _ => 0)))] H := hP
  have hD : va_D A [(z0, .inr (6, [.int 0, .int 0, .ref q_7, .ref q_15, .ref q_23, .ref q_31, .ref q_39, .ref q_47, .int 0, .ref q_55, .ref q_63, .null, .null, .null, .null, .null, .null, .null, .null, .int 0, .int 0, .long 0, .long 0, .int 0, .null])), (q_7, .inl (G.2 2, 16, .inl (fun _ => 0))), (q_15, .inl (G.2 2, 16, .inl (fun _ => 0))), (q_23, .inl (G.2 2, 16, .inl (fun _ => 0))), (q_31, .inl (G.2 2, 16, .inl (fun _ => 0))), (q_39, .inl (G.2 2, 16, .inl (fun _ => 0))), (q_47, .inl (G.2 3, 16, .inl (fun _ => 0))), (q_55, .inl (G.2 2, 20, .inl (fun _ => 0))), (q_63, .inl (G.2 3, 20, .inl (fun _ => 0)))] := hD
  refine lv_aload_n hx hb d_MOD_init_68 rfl (lv_at hl 0 rfl) ?_
  refine lv_bipush (v := 20) hx hb d_MOD_init_69 (by decide) ?_
  refine va_newa (atype := .boolean) (a0 := (20, .inl (fun _ => 0))) hx hb (hT _ wd_659) rfl hK hP hD hS hA (fun _ => rfl) (by decide) (by decide) (by decide) (Nat.le_of_ble_eq_true rfl) (Nat.le_of_ble_eq_true rfl) d_MOD_init_71 (fun q_71 cA H hK9 hP hD hS => ?_)
  obtain rfl : cA = G.2 3 := bx_cZ hK9 (i := 3) (j := 5) rfl rfl
  have hP : va_P G.1 vwCl [(z0, .inr (6, [.int 0, .int 0, .ref q_7, .ref q_15, .ref q_23, .ref q_31, .ref q_39, .ref q_47, .int 0, .ref q_55, .ref q_63, .null, .null, .null, .null, .null, .null, .null, .null, .int 0, .int 0, .long 0, .long 0, .int 0, .null])), (q_7, .inl (G.2 2, 16, .inl (fun _ => 0))), (q_15, .inl (G.2 2, 16, .inl (fun _ => 0))), (q_23, .inl (G.2 2, 16, .inl (fun _ => 0))), (q_31, .inl (G.2 2, 16, .inl (fun _ => 0))), (q_39, .inl (G.2 2, 16, .inl (fun _ => 0))), (q_47, .inl (G.2 3, 16, .inl (fun _ => 0))), (q_55, .inl (G.2 2, 20, .inl (fun _ => 0))), (q_63, .inl (G.2 3, 20, .inl (fun _ => 0))), (q_71, .inl (G.2 3, 20, .inl (fun _ => 0)))] H := hP
  have hD : va_D A [(z0, .inr (6, [.int 0, .int 0, .ref q_7, .ref q_15, .ref q_23, .ref q_31, .ref q_39, .ref q_47, .int 0, .ref q_55, .ref q_63, .null, .null, .null, .null, .null, .null, .null, .null, .int 0, .int 0, .long 0, .long 0, .int 0, .null])), (q_7, .inl (G.2 2, 16, .inl (fun _ => 0))), (q_15, .inl (G.2 2, 16, .inl (fun _ => 0))), (q_23, .inl (G.2 2, 16, .inl (fun _ => 0))), (q_31, .inl (G.2 2, 16, .inl (fun _ => 0))), (q_39, .inl (G.2 2, 16, .inl (fun _ => 0))), (q_47, .inl (G.2 3, 16, .inl (fun _ => 0))), (q_55, .inl (G.2 2, 20, .inl (fun _ => 0))), (q_63, .inl (G.2 3, 20, .inl (fun _ => 0))), (q_71, .inl (G.2 3, 20, .inl (fun _ => 0)))] := hD
  refine va_putF (D := G.1) (ci := 6) (v := .ref q_71) (ty := .array .boolean) (C := R_MOD) (T := T_MOD) (N := 25) hx hb hT in_MOD t_MOD tok_MOD nok_MOD hown hK hP hD hS 0 rfl rfl 11 (by decide) (hT _ wd_593) (fun _ h9 => h9) rfl hin rfl (by decide +kernel) rfl rfl (Nat.le_of_ble_eq_true rfl) d_MOD_init_73 (fun H locs hP hD hS => ?_)
  have hP : va_P G.1 vwCl [(z0, .inr (6, [.int 0, .int 0, .ref q_7, .ref q_15, .ref q_23, .ref q_31, .ref q_39, .ref q_47, .int 0, .ref q_55, .ref q_63, .ref q_71, .null, .null, .null, .null, .null, .null, .null, .int 0, .int 0, .long 0, .long 0, .int 0, .null])), (q_7, .inl (G.2 2, 16, .inl (fun _ => 0))), (q_15, .inl (G.2 2, 16, .inl (fun _ => 0))), (q_23, .inl (G.2 2, 16, .inl (fun _ => 0))), (q_31, .inl (G.2 2, 16, .inl (fun _ => 0))), (q_39, .inl (G.2 2, 16, .inl (fun _ => 0))), (q_47, .inl (G.2 3, 16, .inl (fun _ => 0))), (q_55, .inl (G.2 2, 20, .inl (fun _ => 0))), (q_63, .inl (G.2 3, 20, .inl (fun _ => 0))), (q_71, .inl (G.2 3, 20, .inl (fun _ => 0)))] H := hP
  have hD : va_D A [(z0, .inr (6, [.int 0, .int 0, .ref q_7, .ref q_15, .ref q_23, .ref q_31, .ref q_39, .ref q_47, .int 0, .ref q_55, .ref q_63, .ref q_71, .null, .null, .null, .null, .null, .null, .null, .int 0, .int 0, .long 0, .long 0, .int 0, .null])), (q_7, .inl (G.2 2, 16, .inl (fun _ => 0))), (q_15, .inl (G.2 2, 16, .inl (fun _ => 0))), (q_23, .inl (G.2 2, 16, .inl (fun _ => 0))), (q_31, .inl (G.2 2, 16, .inl (fun _ => 0))), (q_39, .inl (G.2 2, 16, .inl (fun _ => 0))), (q_47, .inl (G.2 3, 16, .inl (fun _ => 0))), (q_55, .inl (G.2 2, 20, .inl (fun _ => 0))), (q_63, .inl (G.2 3, 20, .inl (fun _ => 0))), (q_71, .inl (G.2 3, 20, .inl (fun _ => 0)))] := hD
  refine lv_aload_n hx hb d_MOD_init_76 rfl (lv_at hl 0 rfl) ?_
  refine lv_bipush (v := 20) hx hb d_MOD_init_77 (by decide) ?_
  refine va_newa (atype := .boolean) (a0 := (20, .inl (fun _ => 0))) hx hb (hT _ wd_659) rfl hK hP hD hS hA (fun _ => rfl) (by decide) (by decide) (by decide) (Nat.le_of_ble_eq_true rfl) (Nat.le_of_ble_eq_true rfl) d_MOD_init_79 (fun q_79 cA H hK9 hP hD hS => ?_)
  obtain rfl : cA = G.2 3 := bx_cZ hK9 (i := 3) (j := 5) rfl rfl
  have hP : va_P G.1 vwCl [(z0, .inr (6, [.int 0, .int 0, .ref q_7, .ref q_15, .ref q_23, .ref q_31, .ref q_39, .ref q_47, .int 0, .ref q_55, .ref q_63, .ref q_71, .null, .null, .null, .null, .null, .null, .null, .int 0, .int 0, .long 0, .long 0, .int 0, .null])), (q_7, .inl (G.2 2, 16, .inl (fun _ => 0))), (q_15, .inl (G.2 2, 16, .inl (fun _ => 0))), (q_23, .inl (G.2 2, 16, .inl (fun _ => 0))), (q_31, .inl (G.2 2, 16, .inl (fun _ => 0))), (q_39, .inl (G.2 2, 16, .inl (fun _ => 0))), (q_47, .inl (G.2 3, 16, .inl (fun _ => 0))), (q_55, .inl (G.2 2, 20, .inl (fun _ => 0))), (q_63, .inl (G.2 3, 20, .inl (fun _ => 0))), (q_71, .inl (G.2 3, 20, .inl (fun _ => 0))), (q_79, .inl (G.2 3, 20, .inl (fun _ => 0)))] H := hP
  have hD : va_D A [(z0, .inr (6, [.int 0, .int 0, .ref q_7, .ref q_15, .ref q_23, .ref q_31, .ref q_39, .ref q_47, .int 0, .ref q_55, .ref q_63, .ref q_71, .null, .null, .null, .null, .null, .null, .null, .int 0, .int 0, .long 0, .long 0, .int 0, .null])), (q_7, .inl (G.2 2, 16, .inl (fun _ => 0))), (q_15, .inl (G.2 2, 16, .inl (fun _ => 0))), (q_23, .inl (G.2 2, 16, .inl (fun _ => 0))), (q_31, .inl (G.2 2, 16, .inl (fun _ => 0))), (q_39, .inl (G.2 2, 16, .inl (fun _ => 0))), (q_47, .inl (G.2 3, 16, .inl (fun _ => 0))), (q_55, .inl (G.2 2, 20, .inl (fun _ => 0))), (q_63, .inl (G.2 3, 20, .inl (fun _ => 0))), (q_71, .inl (G.2 3, 20, .inl (fun _ => 0))), (q_79, .inl (G.2 3, 20, .inl (fun _ => 0)))] := hD
  refine va_putF (D := G.1) (ci := 6) (v := .ref q_79) (ty := .array .boolean) (C := R_MOD) (T := T_MOD) (N := 25) hx hb hT in_MOD t_MOD tok_MOD nok_MOD hown hK hP hD hS 0 rfl rfl 12 (by decide) (hT _ wd_594) (fun _ h9 => h9) rfl hin rfl (by decide +kernel) rfl rfl (Nat.le_of_ble_eq_true rfl) d_MOD_init_81 (fun H locs hP hD hS => ?_)
  have hP : va_P G.1 vwCl [(z0, .inr (6, [.int 0, .int 0, .ref q_7, .ref q_15, .ref q_23, .ref q_31, .ref q_39, .ref q_47, .int 0, .ref q_55, .ref q_63, .ref q_71, .ref q_79, .null, .null, .null, .null, .null, .null, .int 0, .int 0, .long 0, .long 0, .int 0, .null])), (q_7, .inl (G.2 2, 16, .inl (fun _ => 0))), (q_15, .inl (G.2 2, 16, .inl (fun _ => 0))), (q_23, .inl (G.2 2, 16, .inl (fun _ => 0))), (q_31, .inl (G.2 2, 16, .inl (fun _ => 0))), (q_39, .inl (G.2 2, 16, .inl (fun _ => 0))), (q_47, .inl (G.2 3, 16, .inl (fun _ => 0))), (q_55, .inl (G.2 2, 20, .inl (fun _ => 0))), (q_63, .inl (G.2 3, 20, .inl (fun _ => 0))), (q_71, .inl (G.2 3, 20, .inl (fun _ => 0))), (q_79, .inl (G.2 3, 20, .inl (fun _ => 0)))] H := hP
  have hD : va_D A [(z0, .inr (6, [.int 0, .int 0, .ref q_7, .ref q_15, .ref q_23, .ref q_31, .ref q_39, .ref q_47, .int 0, .ref q_55, .ref q_63, .ref q_71, .ref q_79, .null, .null, .null, .null, .null, .null, .int 0, .int 0, .long 0, .long 0, .int 0, .null])), (q_7, .inl (G.2 2, 16, .inl (fun _ => 0))), (q_15, .inl (G.2 2, 16, .inl (fun _ => 0))), (q_23, .inl (G.2 2, 16, .inl (fun _ => 0))), (q_31, .inl (G.2 2, 16, .inl (fun _ => 0))), (q_39, .inl (G.2 2, 16, .inl (fun _ => 0))), (q_47, .inl (G.2 3, 16, .inl (fun _ => 0))), (q_55, .inl (G.2 2, 20, .inl (fun _ => 0))), (q_63, .inl (G.2 3, 20, .inl (fun _ => 0))), (q_71, .inl (G.2 3, 20, .inl (fun _ => 0))), (q_79, .inl (G.2 3, 20, .inl (fun _ => 0)))] := hD
  refine lv_aload_n hx hb d_MOD_init_84 rfl (lv_at hl 0 rfl) ?_
  refine lv_bipush (v := 20) hx hb d_MOD_init_85 (by decide) ?_
  refine va_newa (atype := .boolean) (a0 := (20, .inl (fun _ => 0))) hx hb (hT _ wd_659) rfl hK hP hD hS hA (fun _ => rfl) (by decide) (by decide) (by decide) (Nat.le_of_ble_eq_true rfl) (Nat.le_of_ble_eq_true rfl) d_MOD_init_87 (fun q_87 cA H hK9 hP hD hS => ?_)
  obtain rfl : cA = G.2 3 := bx_cZ hK9 (i := 3) (j := 5) rfl rfl
  have hP : va_P G.1 vwCl [(z0, .inr (6, [.int 0, .int 0, .ref q_7, .ref q_15, .ref q_23, .ref q_31, .ref q_39, .ref q_47, .int 0, .ref q_55, .ref q_63, .ref q_71, .ref q_79, .null, .null, .null, .null, .null, .null, .int 0, .int 0, .long 0, .long 0, .int 0, .null])), (q_7, .inl (G.2 2, 16, .inl (fun _ => 0))), (q_15, .inl (G.2 2, 16, .inl (fun _ => 0))), (q_23, .inl (G.2 2, 16, .inl (fun _ => 0))), (q_31, .inl (G.2 2, 16, .inl (fun _ => 0))), (q_39, .inl (G.2 2, 16, .inl (fun _ => 0))), (q_47, .inl (G.2 3, 16, .inl (fun _ => 0))), (q_55, .inl (G.2 2, 20, .inl (fun _ => 0))), (q_63, .inl (G.2 3, 20, .inl (fun _ => 0))), (q_71, .inl (G.2 3, 20, .inl (fun _ => 0))), (q_79, .inl (G.2 3, 20, .inl (fun _ => 0))), (q_87, .inl (G.2 3, 20, .inl (fun _ => 0)))] H := hP
  have hD : va_D A [(z0, .inr (6, [.int 0, .int 0, .ref q_7, .ref q_15, .ref q_23, .ref q_31, .ref q_39, .ref q_47, .int 0, .ref q_55, .ref q_63, .ref q_71, .ref q_79, .null, .null, .null, .null, .null, .null, .int 0, .int 0, .long 0, .long 0, .int 0, .null])), (q_7, .inl (G.2 2, 16, .inl (fun _ => 0))), (q_15, .inl (G.2 2, 16, .inl (fun _ => 0))), (q_23, .inl (G.2 2, 16, .inl (fun _ => 0))), (q_31, .inl (G.2 2, 16, .inl (fun _ => 0))), (q_39, .inl (G.2 2, 16, .inl (fun _ => 0))), (q_47, .inl (G.2 3, 16, .inl (fun _ => 0))), (q_55, .inl (G.2 2, 20, .inl (fun _ => 0))), (q_63, .inl (G.2 3, 20, .inl (fun _ => 0))), (q_71, .inl (G.2 3, 20, .inl (fun _ => 0))), (q_79, .inl (G.2 3, 20, .inl (fun _ => 0))), (q_87, .inl (G.2 3, 20, .inl (fun _ => 0)))] := hD
  refine va_putF (D := G.1) (ci := 6) (v := .ref q_87) (ty := .array .boolean) (C := R_MOD) (T := T_MOD) (N := 25) hx hb hT in_MOD t_MOD tok_MOD nok_MOD hown hK hP hD hS 0 rfl rfl 13 (by decide) (hT _ wd_595) (fun _ h9 => h9) rfl hin rfl (by decide +kernel) rfl rfl (Nat.le_of_ble_eq_true rfl) d_MOD_init_89 (fun H locs hP hD hS => ?_)
  have hP : va_P G.1 vwCl [(z0, .inr (6, [.int 0, .int 0, .ref q_7, .ref q_15, .ref q_23, .ref q_31, .ref q_39, .ref q_47, .int 0, .ref q_55, .ref q_63, .ref q_71, .ref q_79, .ref q_87, .null, .null, .null, .null, .null, .int 0, .int 0, .long 0, .long 0, .int 0, .null])), (q_7, .inl (G.2 2, 16, .inl (fun _ => 0))), (q_15, .inl (G.2 2, 16, .inl (fun _ => 0))), (q_23, .inl (G.2 2, 16, .inl (fun _ => 0))), (q_31, .inl (G.2 2, 16, .inl (fun _ => 0))), (q_39, .inl (G.2 2, 16, .inl (fun _ => 0))), (q_47, .inl (G.2 3, 16, .inl (fun _ => 0))), (q_55, .inl (G.2 2, 20, .inl (fun _ => 0))), (q_63, .inl (G.2 3, 20, .inl (fun _ => 0))), (q_71, .inl (G.2 3, 20, .inl (fun _ => 0))), (q_79, .inl (G.2 3, 20, .inl (fun _ => 0))), (q_87, .inl (G.2 3, 20, .inl (fun _ => 0)))] H := hP
  have hD : va_D A [(z0, .inr (6, [.int 0, .int 0, .ref q_7, .ref q_15, .ref q_23, .ref q_31, .ref q_39, .ref q_47, .int 0, .ref q_55, .ref q_63, .ref q_71, .ref q_79, .ref q_87, .null, .null, .null, .null, .null, .int 0, .int 0, .long 0, .long 0, .int 0, .null])), (q_7, .inl (G.2 2, 16, .inl (fun _ => 0))), (q_15, .inl (G.2 2, 16, .inl (fun _ => 0))), (q_23, .inl (G.2 2, 16, .inl (fun _ => 0))), (q_31, .inl (G.2 2, 16, .inl (fun _ => 0))), (q_39, .inl (G.2 2, 16, .inl (fun _ => 0))), (q_47, .inl (G.2 3, 16, .inl (fun _ => 0))), (q_55, .inl (G.2 2, 20, .inl (fun _ => 0))), (q_63, .inl (G.2 3, 20, .inl (fun _ => 0))), (q_71, .inl (G.2 3, 20, .inl (fun _ => 0))), (q_79, .inl (G.2 3, 20, .inl (fun _ => 0))), (q_87, .inl (G.2 3, 20, .inl (fun _ => 0)))] := hD
  refine lv_aload_n hx hb d_MOD_init_92 rfl (lv_at hl 0 rfl) ?_
  refine lv_bipush (v := 20) hx hb d_MOD_init_93 (by decide) ?_
  refine va_newa (atype := .int) (a0 := (20, .inl (fun _ => 0))) hx hb (hT _ wd_658) rfl hK hP hD hS hA (fun _ => rfl) (by decide) (by decide) (by decide) (Nat.le_of_ble_eq_true rfl) (Nat.le_of_ble_eq_true rfl) d_MOD_init_95 (fun q_95 cA H hK9 hP hD hS => ?_)
  obtain rfl : cA = G.2 2 := bx_cI hK9 (i := 2) (j := 5) rfl rfl
  have hP : va_P G.1 vwCl [(z0, .inr (6, [.int 0, .int 0, .ref q_7, .ref q_15, .ref q_23, .ref q_31, .ref q_39, .ref q_47, .int 0, .ref q_55, .ref q_63, .ref q_71, .ref q_79, .ref q_87, .null, .null, .null, .null, .null, .int 0, .int 0, .long 0, .long 0, .int 0, .null])), (q_7, .inl (G.2 2, 16, .inl (fun _ => 0))), (q_15, .inl (G.2 2, 16, .inl (fun _ => 0))), (q_23, .inl (G.2 2, 16, .inl (fun _ => 0))), (q_31, .inl (G.2 2, 16, .inl (fun _ => 0))), (q_39, .inl (G.2 2, 16, .inl (fun _ => 0))), (q_47, .inl (G.2 3, 16, .inl (fun _ => 0))), (q_55, .inl (G.2 2, 20, .inl (fun _ => 0))), (q_63, .inl (G.2 3, 20, .inl (fun _ => 0))), (q_71, .inl (G.2 3, 20, .inl (fun _ => 0))), (q_79, .inl (G.2 3, 20, .inl (fun _ => 0))), (q_87, .inl (G.2 3, 20, .inl (fun _ => 0))), (q_95, .inl (G.2 2, 20, .inl (fun _ => 0)))] H := hP
  have hD : va_D A [(z0, .inr (6, [.int 0, .int 0, .ref q_7, .ref q_15, .ref q_23, .ref q_31, .ref q_39, .ref q_47, .int 0, .ref q_55, .ref q_63, .ref q_71, .ref q_79, .ref q_87, .null, .null, .null, .null, .null, .int 0, .int 0, .long 0, .long 0, .int 0, .null])), (q_7, .inl (G.2 2, 16, .inl (fun _ => 0))), (q_15, .inl (G.2 2, 16, .inl (fun _ => 0))), (q_23, .inl (G.2 2, 16, .inl (fun _ => 0))), (q_31, .inl (G.2 2, 16, .inl (fun _ => 0))), (q_39, .inl (G.2 2, 16, .inl (fun _ => 0))), (q_47, .inl (G.2 3, 16, .inl (fun _ => 0))), (q_55, .inl (G.2 2, 20, .inl (fun _ => 0))), (q_63, .inl (G.2 3, 20, .inl (fun _ => 0))), (q_71, .inl (G.2 3, 20, .inl (fun _ => 0))), (q_79, .inl (G.2 3, 20, .inl (fun _ => 0))), (q_87, .inl (G.2 3, 20, .inl (fun _ => 0))), (q_95, .inl (G.2 2, 20, .inl (fun _ => 0)))] := hD
  refine va_putF (D := G.1) (ci := 6) (v := .ref q_95) (ty := .array .int) (C := R_MOD) (T := T_MOD) (N := 25) hx hb hT in_MOD t_MOD tok_MOD nok_MOD hown hK hP hD hS 0 rfl rfl 14 (by decide) (hT _ wd_596) (fun _ h9 => h9) rfl hin rfl (by decide +kernel) rfl rfl (Nat.le_of_ble_eq_true rfl) d_MOD_init_97 (fun H locs hP hD hS => ?_)
  have hP : va_P G.1 vwCl [(z0, .inr (6, [.int 0, .int 0, .ref q_7, .ref q_15, .ref q_23, .ref q_31, .ref q_39, .ref q_47, .int 0, .ref q_55, .ref q_63, .ref q_71, .ref q_79, .ref q_87, .ref q_95, .null, .null, .null, .null, .int 0, .int 0, .long 0, .long 0, .int 0, .null])), (q_7, .inl (G.2 2, 16, .inl (fun _ => 0))), (q_15, .inl (G.2 2, 16, .inl (fun _ => 0))), (q_23, .inl (G.2 2, 16, .inl (fun _ => 0))), (q_31, .inl (G.2 2, 16, .inl (fun _ => 0))), (q_39, .inl (G.2 2, 16, .inl (fun _ => 0))), (q_47, .inl (G.2 3, 16, .inl (fun _ => 0))), (q_55, .inl (G.2 2, 20, .inl (fun _ => 0))), (q_63, .inl (G.2 3, 20, .inl (fun _ => 0))), (q_71, .inl (G.2 3, 20, .inl (fun _ => 0))), (q_79, .inl (G.2 3, 20, .inl (fun _ => 0))), (q_87, .inl (G.2 3, 20, .inl (fun _ => 0))), (q_95, .inl (G.2 2, 20, .inl (fun _ => 0)))] H := hP
  have hD : va_D A [(z0, .inr (6, [.int 0, .int 0, .ref q_7, .ref q_15, .ref q_23, .ref q_31, .ref q_39, .ref q_47, .int 0, .ref q_55, .ref q_63, .ref q_71, .ref q_79, .ref q_87, .ref q_95, .null, .null, .null, .null, .int 0, .int 0, .long 0, .long 0, .int 0, .null])), (q_7, .inl (G.2 2, 16, .inl (fun _ => 0))), (q_15, .inl (G.2 2, 16, .inl (fun _ => 0))), (q_23, .inl (G.2 2, 16, .inl (fun _ => 0))), (q_31, .inl (G.2 2, 16, .inl (fun _ => 0))), (q_39, .inl (G.2 2, 16, .inl (fun _ => 0))), (q_47, .inl (G.2 3, 16, .inl (fun _ => 0))), (q_55, .inl (G.2 2, 20, .inl (fun _ => 0))), (q_63, .inl (G.2 3, 20, .inl (fun _ => 0))), (q_71, .inl (G.2 3, 20, .inl (fun _ => 0))), (q_79, .inl (G.2 3, 20, .inl (fun _ => 0))), (q_87, .inl (G.2 3, 20, .inl (fun _ => 0))), (q_95, .inl (G.2 2, 20, .inl (fun _ => 0)))] := hD
  refine lv_aload_n hx hb d_MOD_init_100 rfl (lv_at hl 0 rfl) ?_
  refine lv_bipush (v := 20) hx hb d_MOD_init_101 (by decide) ?_
  refine va_newa (atype := .int) (a0 := (20, .inl (fun _ => 0))) hx hb (hT _ wd_658) rfl hK hP hD hS hA (fun _ => rfl) (by decide) (by decide) (by decide) (Nat.le_of_ble_eq_true rfl) (Nat.le_of_ble_eq_true rfl) d_MOD_init_103 (fun q_103 cA H hK9 hP hD hS => ?_)
  obtain rfl : cA = G.2 2 := bx_cI hK9 (i := 2) (j := 5) rfl rfl
  have hP : va_P G.1 vwCl [(z0, .inr (6, [.int 0, .int 0, .ref q_7, .ref q_15, .ref q_23, .ref q_31, .ref q_39, .ref q_47, .int 0, .ref q_55, .ref q_63, .ref q_71, .ref q_79, .ref q_87, .ref q_95, .null, .null, .null, .null, .int 0, .int 0, .long 0, .long 0, .int 0, .null])), (q_7, .inl (G.2 2, 16, .inl (fun _ => 0))), (q_15, .inl (G.2 2, 16, .inl (fun _ => 0))), (q_23, .inl (G.2 2, 16, .inl (fun _ => 0))), (q_31, .inl (G.2 2, 16, .inl (fun _ => 0))), (q_39, .inl (G.2 2, 16, .inl (fun _ => 0))), (q_47, .inl (G.2 3, 16, .inl (fun _ => 0))), (q_55, .inl (G.2 2, 20, .inl (fun _ => 0))), (q_63, .inl (G.2 3, 20, .inl (fun _ => 0))), (q_71, .inl (G.2 3, 20, .inl (fun _ => 0))), (q_79, .inl (G.2 3, 20, .inl (fun _ => 0))), (q_87, .inl (G.2 3, 20, .inl (fun _ => 0))), (q_95, .inl (G.2 2, 20, .inl (fun _ => 0))), (q_103, .inl (G.2 2, 20, .inl (fun _ => 0)))] H := hP
  have hD : va_D A [(z0, .inr (6, [.int 0, .int 0, .ref q_7, .ref q_15, .ref q_23, .ref q_31, .ref q_39, .ref q_47, .int 0, .ref q_55, .ref q_63, .ref q_71, .ref q_79, .ref q_87, .ref q_95, .null, .null, .null, .null, .int 0, .int 0, .long 0, .long 0, .int 0, .null])), (q_7, .inl (G.2 2, 16, .inl (fun _ => 0))), (q_15, .inl (G.2 2, 16, .inl (fun _ => 0))), (q_23, .inl (G.2 2, 16, .inl (fun _ => 0))), (q_31, .inl (G.2 2, 16, .inl (fun _ => 0))), (q_39, .inl (G.2 2, 16, .inl (fun _ => 0))), (q_47, .inl (G.2 3, 16, .inl (fun _ => 0))), (q_55, .inl (G.2 2, 20, .inl (fun _ => 0))), (q_63, .inl (G.2 3, 20, .inl (fun _ => 0))), (q_71, .inl (G.2 3, 20, .inl (fun _ => 0))), (q_79, .inl (G.2 3, 20, .inl (fun _ => 0))), (q_87, .inl (G.2 3, 20, .inl (fun _ => 0))), (q_95, .inl (G.2 2, 20, .inl (fun _ => 0))), (q_103, .inl (G.2 2, 20, .inl (fun _ => 0)))] := hD
  refine va_putF (D := G.1) (ci := 6) (v := .ref q_103) (ty := .array .int) (C := R_MOD) (T := T_MOD) (N := 25) hx hb hT in_MOD t_MOD tok_MOD nok_MOD hown hK hP hD hS 0 rfl rfl 15 (by decide) (hT _ wd_597) (fun _ h9 => h9) rfl hin rfl (by decide +kernel) rfl rfl (Nat.le_of_ble_eq_true rfl) d_MOD_init_105 (fun H locs hP hD hS => ?_)
  have hP : va_P G.1 vwCl [(z0, .inr (6, [.int 0, .int 0, .ref q_7, .ref q_15, .ref q_23, .ref q_31, .ref q_39, .ref q_47, .int 0, .ref q_55, .ref q_63, .ref q_71, .ref q_79, .ref q_87, .ref q_95, .ref q_103, .null, .null, .null, .int 0, .int 0, .long 0, .long 0, .int 0, .null])), (q_7, .inl (G.2 2, 16, .inl (fun _ => 0))), (q_15, .inl (G.2 2, 16, .inl (fun _ => 0))), (q_23, .inl (G.2 2, 16, .inl (fun _ => 0))), (q_31, .inl (G.2 2, 16, .inl (fun _ => 0))), (q_39, .inl (G.2 2, 16, .inl (fun _ => 0))), (q_47, .inl (G.2 3, 16, .inl (fun _ => 0))), (q_55, .inl (G.2 2, 20, .inl (fun _ => 0))), (q_63, .inl (G.2 3, 20, .inl (fun _ => 0))), (q_71, .inl (G.2 3, 20, .inl (fun _ => 0))), (q_79, .inl (G.2 3, 20, .inl (fun _ => 0))), (q_87, .inl (G.2 3, 20, .inl (fun _ => 0))), (q_95, .inl (G.2 2, 20, .inl (fun _ => 0))), (q_103, .inl (G.2 2, 20, .inl (fun _ => 0)))] H := hP
  have hD : va_D A [(z0, .inr (6, [.int 0, .int 0, .ref q_7, .ref q_15, .ref q_23, .ref q_31, .ref q_39, .ref q_47, .int 0, .ref q_55, .ref q_63, .ref q_71, .ref q_79, .ref q_87, .ref q_95, .ref q_103, .null, .null, .null, .int 0, .int 0, .long 0, .long 0, .int 0, .null])), (q_7, .inl (G.2 2, 16, .inl (fun _ => 0))), (q_15, .inl (G.2 2, 16, .inl (fun _ => 0))), (q_23, .inl (G.2 2, 16, .inl (fun _ => 0))), (q_31, .inl (G.2 2, 16, .inl (fun _ => 0))), (q_39, .inl (G.2 2, 16, .inl (fun _ => 0))), (q_47, .inl (G.2 3, 16, .inl (fun _ => 0))), (q_55, .inl (G.2 2, 20, .inl (fun _ => 0))), (q_63, .inl (G.2 3, 20, .inl (fun _ => 0))), (q_71, .inl (G.2 3, 20, .inl (fun _ => 0))), (q_79, .inl (G.2 3, 20, .inl (fun _ => 0))), (q_87, .inl (G.2 3, 20, .inl (fun _ => 0))), (q_95, .inl (G.2 2, 20, .inl (fun _ => 0))), (q_103, .inl (G.2 2, 20, .inl (fun _ => 0)))] := hD
  refine lv_aload_n hx hb d_MOD_init_108 rfl (lv_at hl 0 rfl) ?_
  refine lv_bipush (v := 20) hx hb d_MOD_init_109 (by decide) ?_
  refine va_newa (atype := .boolean) (a0 := (20, .inl (fun _ => 0))) hx hb (hT _ wd_659) rfl hK hP hD hS hA (fun _ => rfl) (by decide) (by decide) (by decide) (Nat.le_of_ble_eq_true rfl) (Nat.le_of_ble_eq_true rfl) d_MOD_init_111 (fun q_111 cA H hK9 hP hD hS => ?_)
  obtain rfl : cA = G.2 3 := bx_cZ hK9 (i := 3) (j := 5) rfl rfl
  have hP : va_P G.1 vwCl [(z0, .inr (6, [.int 0, .int 0, .ref q_7, .ref q_15, .ref q_23, .ref q_31, .ref q_39, .ref q_47, .int 0, .ref q_55, .ref q_63, .ref q_71, .ref q_79, .ref q_87, .ref q_95, .ref q_103, .null, .null, .null, .int 0, .int 0, .long 0, .long 0, .int 0, .null])), (q_7, .inl (G.2 2, 16, .inl (fun _ => 0))), (q_15, .inl (G.2 2, 16, .inl (fun _ => 0))), (q_23, .inl (G.2 2, 16, .inl (fun _ => 0))), (q_31, .inl (G.2 2, 16, .inl (fun _ => 0))), (q_39, .inl (G.2 2, 16, .inl (fun _ => 0))), (q_47, .inl (G.2 3, 16, .inl (fun _ => 0))), (q_55, .inl (G.2 2, 20, .inl (fun _ => 0))), (q_63, .inl (G.2 3, 20, .inl (fun _ => 0))), (q_71, .inl (G.2 3, 20, .inl (fun _ => 0))), (q_79, .inl (G.2 3, 20, .inl (fun _ => 0))), (q_87, .inl (G.2 3, 20, .inl (fun _ => 0))), (q_95, .inl (G.2 2, 20, .inl (fun _ => 0))), (q_103, .inl (G.2 2, 20, .inl (fun _ => 0))), (q_111, .inl (G.2 3, 20, .inl (fun _ => 0)))] H := hP
  have hD : va_D A [(z0, .inr (6, [.int 0, .int 0, .ref q_7, .ref q_15, .ref q_23, .ref q_31, .ref q_39, .ref q_47, .int 0, .ref q_55, .ref q_63, .ref q_71, .ref q_79, .ref q_87, .ref q_95, .ref q_103, .null, .null, .null, .int 0, .int 0, .long 0, .long 0, .int 0, .null])), (q_7, .inl (G.2 2, 16, .inl (fun _ => 0))), (q_15, .inl (G.2 2, 16, .inl (fun _ => 0))), (q_23, .inl (G.2 2, 16, .inl (fun _ => 0))), (q_31, .inl (G.2 2, 16, .inl (fun _ => 0))), (q_39, .inl (G.2 2, 16, .inl (fun _ => 0))), (q_47, .inl (G.2 3, 16, .inl (fun _ => 0))), (q_55, .inl (G.2 2, 20, .inl (fun _ => 0))), (q_63, .inl (G.2 3, 20, .inl (fun _ => 0))), (q_71, .inl (G.2 3, 20, .inl (fun _ => 0))), (q_79, .inl (G.2 3, 20, .inl (fun _ => 0))), (q_87, .inl (G.2 3, 20, .inl (fun _ => 0))), (q_95, .inl (G.2 2, 20, .inl (fun _ => 0))), (q_103, .inl (G.2 2, 20, .inl (fun _ => 0))), (q_111, .inl (G.2 3, 20, .inl (fun _ => 0)))] := hD
  refine va_putF (D := G.1) (ci := 6) (v := .ref q_111) (ty := .array .boolean) (C := R_MOD) (T := T_MOD) (N := 25) hx hb hT in_MOD t_MOD tok_MOD nok_MOD hown hK hP hD hS 0 rfl rfl 16 (by decide) (hT _ wd_598) (fun _ h9 => h9) rfl hin rfl (by decide +kernel) rfl rfl (Nat.le_of_ble_eq_true rfl) d_MOD_init_113 (fun H locs hP hD hS => ?_)
  have hP : va_P G.1 vwCl [(z0, .inr (6, [.int 0, .int 0, .ref q_7, .ref q_15, .ref q_23, .ref q_31, .ref q_39, .ref q_47, .int 0, .ref q_55, .ref q_63, .ref q_71, .ref q_79, .ref q_87, .ref q_95, .ref q_103, .ref q_111, .null, .null, .int 0, .int 0, .long 0, .long 0, .int 0, .null])), (q_7, .inl (G.2 2, 16, .inl (fun _ => 0))), (q_15, .inl (G.2 2, 16, .inl (fun _ => 0))), (q_23, .inl (G.2 2, 16, .inl (fun _ => 0))), (q_31, .inl (G.2 2, 16, .inl (fun _ => 0))), (q_39, .inl (G.2 2, 16, .inl (fun _ => 0))), (q_47, .inl (G.2 3, 16, .inl (fun _ => 0))), (q_55, .inl (G.2 2, 20, .inl (fun _ => 0))), (q_63, .inl (G.2 3, 20, .inl (fun _ => 0))), (q_71, .inl (G.2 3, 20, .inl (fun _ => 0))), (q_79, .inl (G.2 3, 20, .inl (fun _ => 0))), (q_87, .inl (G.2 3, 20, .inl (fun _ => 0))), (q_95, .inl (G.2 2, 20, .inl (fun _ => 0))), (q_103, .inl (G.2 2, 20, .inl (fun _ => 0))), (q_111, .inl (G.2 3, 20, .inl (fun _ => 0)))] H := hP
  have hD : va_D A [(z0, .inr (6, [.int 0, .int 0, .ref q_7, .ref q_15, .ref q_23, .ref q_31, .ref q_39, .ref q_47, .int 0, .ref q_55, .ref q_63, .ref q_71, .ref q_79, .ref q_87, .ref q_95, .ref q_103, .ref q_111, .null, .null, .int 0, .int 0, .long 0, .long 0, .int 0, .null])), (q_7, .inl (G.2 2, 16, .inl (fun _ => 0))), (q_15, .inl (G.2 2, 16, .inl (fun _ => 0))), (q_23, .inl (G.2 2, 16, .inl (fun _ => 0))), (q_31, .inl (G.2 2, 16, .inl (fun _ => 0))), (q_39, .inl (G.2 2, 16, .inl (fun _ => 0))), (q_47, .inl (G.2 3, 16, .inl (fun _ => 0))), (q_55, .inl (G.2 2, 20, .inl (fun _ => 0))), (q_63, .inl (G.2 3, 20, .inl (fun _ => 0))), (q_71, .inl (G.2 3, 20, .inl (fun _ => 0))), (q_79, .inl (G.2 3, 20, .inl (fun _ => 0))), (q_87, .inl (G.2 3, 20, .inl (fun _ => 0))), (q_95, .inl (G.2 2, 20, .inl (fun _ => 0))), (q_103, .inl (G.2 2, 20, .inl (fun _ => 0))), (q_111, .inl (G.2 3, 20, .inl (fun _ => 0)))] := hD
  refine lv_aload_n hx hb d_MOD_init_116 rfl (lv_at hl 0 rfl) ?_
  refine lv_bipush (v := 20) hx hb d_MOD_init_117 (by decide) ?_
  refine va_newa (atype := .int) (a0 := (20, .inl (fun _ => 0))) hx hb (hT _ wd_658) rfl hK hP hD hS hA (fun _ => rfl) (by decide) (by decide) (by decide) (Nat.le_of_ble_eq_true rfl) (Nat.le_of_ble_eq_true rfl) d_MOD_init_119 (fun q_119 cA H hK9 hP hD hS => ?_)
  obtain rfl : cA = G.2 2 := bx_cI hK9 (i := 2) (j := 5) rfl rfl
  have hP : va_P G.1 vwCl [(z0, .inr (6, [.int 0, .int 0, .ref q_7, .ref q_15, .ref q_23, .ref q_31, .ref q_39, .ref q_47, .int 0, .ref q_55, .ref q_63, .ref q_71, .ref q_79, .ref q_87, .ref q_95, .ref q_103, .ref q_111, .null, .null, .int 0, .int 0, .long 0, .long 0, .int 0, .null])), (q_7, .inl (G.2 2, 16, .inl (fun _ => 0))), (q_15, .inl (G.2 2, 16, .inl (fun _ => 0))), (q_23, .inl (G.2 2, 16, .inl (fun _ => 0))), (q_31, .inl (G.2 2, 16, .inl (fun _ => 0))), (q_39, .inl (G.2 2, 16, .inl (fun _ => 0))), (q_47, .inl (G.2 3, 16, .inl (fun _ => 0))), (q_55, .inl (G.2 2, 20, .inl (fun _ => 0))), (q_63, .inl (G.2 3, 20, .inl (fun _ => 0))), (q_71, .inl (G.2 3, 20, .inl (fun _ => 0))), (q_79, .inl (G.2 3, 20, .inl (fun _ => 0))), (q_87, .inl (G.2 3, 20, .inl (fun _ => 0))), (q_95, .inl (G.2 2, 20, .inl (fun _ => 0))), (q_103, .inl (G.2 2, 20, .inl (fun _ => 0))), (q_111, .inl (G.2 3, 20, .inl (fun _ => 0))), (q_119, .inl (G.2 2, 20, .inl (fun _ => 0)))] H := hP
  have hD : va_D A [(z0, .inr (6, [.int 0, .int 0, .ref q_7, .ref q_15, .ref q_23, .ref q_31, .ref q_39, .ref q_47, .int 0, .ref q_55, .ref q_63, .ref q_71, .ref q_79, .ref q_87, .ref q_95, .ref q_103, .ref q_111, .null, .null, .int 0, .int 0, .long 0, .long 0, .int 0, .null])), (q_7, .inl (G.2 2, 16, .inl (fun _ => 0))), (q_15, .inl (G.2 2, 16, .inl (fun _ => 0))), (q_23, .inl (G.2 2, 16, .inl (fun _ => 0))), (q_31, .inl (G.2 2, 16, .inl (fun _ => 0))), (q_39, .inl (G.2 2, 16, .inl (fun _ => 0))), (q_47, .inl (G.2 3, 16, .inl (fun _ => 0))), (q_55, .inl (G.2 2, 20, .inl (fun _ => 0))), (q_63, .inl (G.2 3, 20, .inl (fun _ => 0))), (q_71, .inl (G.2 3, 20, .inl (fun _ => 0))), (q_79, .inl (G.2 3, 20, .inl (fun _ => 0))), (q_87, .inl (G.2 3, 20, .inl (fun _ => 0))), (q_95, .inl (G.2 2, 20, .inl (fun _ => 0))), (q_103, .inl (G.2 2, 20, .inl (fun _ => 0))), (q_111, .inl (G.2 3, 20, .inl (fun _ => 0))), (q_119, .inl (G.2 2, 20, .inl (fun _ => 0)))] := hD
  refine va_putF (D := G.1) (ci := 6) (v := .ref q_119) (ty := .array .int) (C := R_MOD) (T := T_MOD) (N := 25) hx hb hT in_MOD t_MOD tok_MOD nok_MOD hown hK hP hD hS 0 rfl rfl 17 (by decide) (hT _ wd_599) (fun _ h9 => h9) rfl hin rfl (by decide +kernel) rfl rfl (Nat.le_of_ble_eq_true rfl) d_MOD_init_121 (fun H locs hP hD hS => ?_)
  have hP : va_P G.1 vwCl [(z0, .inr (6, [.int 0, .int 0, .ref q_7, .ref q_15, .ref q_23, .ref q_31, .ref q_39, .ref q_47, .int 0, .ref q_55, .ref q_63, .ref q_71, .ref q_79, .ref q_87, .ref q_95, .ref q_103, .ref q_111, .ref q_119, .null, .int 0, .int 0, .long 0, .long 0, .int 0, .null])), (q_7, .inl (G.2 2, 16, .inl (fun _ => 0))), (q_15, .inl (G.2 2, 16, .inl (fun _ => 0))), (q_23, .inl (G.2 2, 16, .inl (fun _ => 0))), (q_31, .inl (G.2 2, 16, .inl (fun _ => 0))), (q_39, .inl (G.2 2, 16, .inl (fun _ => 0))), (q_47, .inl (G.2 3, 16, .inl (fun _ => 0))), (q_55, .inl (G.2 2, 20, .inl (fun _ => 0))), (q_63, .inl (G.2 3, 20, .inl (fun _ => 0))), (q_71, .inl (G.2 3, 20, .inl (fun _ => 0))), (q_79, .inl (G.2 3, 20, .inl (fun _ => 0))), (q_87, .inl (G.2 3, 20, .inl (fun _ => 0))), (q_95, .inl (G.2 2, 20, .inl (fun _ => 0))), (q_103, .inl (G.2 2, 20, .inl (fun _ => 0))), (q_111, .inl (G.2 3, 20, .inl (fun _ => 0))), (q_119, .inl (G.2 2, 20, .inl (fun _ => 0)))] H := hP
  have hD : va_D A [(z0, .inr (6, [.int 0, .int 0, .ref q_7, .ref q_15, .ref q_23, .ref q_31, .ref q_39, .ref q_47, .int 0, .ref q_55, .ref q_63, .ref q_71, .ref q_79, .ref q_87, .ref q_95, .ref q_103, .ref q_111, .ref q_119, .null, .int 0, .int 0, .long 0, .long 0, .int 0, .null])), (q_7, .inl (G.2 2, 16, .inl (fun _ => 0))), (q_15, .inl (G.2 2, 16, .inl (fun _ => 0))), (q_23, .inl (G.2 2, 16, .inl (fun _ => 0))), (q_31, .inl (G.2 2, 16, .inl (fun _ => 0))), (q_39, .inl (G.2 2, 16, .inl (fun _ => 0))), (q_47, .inl (G.2 3, 16, .inl (fun _ => 0))), (q_55, .inl (G.2 2, 20, .inl (fun _ => 0))), (q_63, .inl (G.2 3, 20, .inl (fun _ => 0))), (q_71, .inl (G.2 3, 20, .inl (fun _ => 0))), (q_79, .inl (G.2 3, 20, .inl (fun _ => 0))), (q_87, .inl (G.2 3, 20, .inl (fun _ => 0))), (q_95, .inl (G.2 2, 20, .inl (fun _ => 0))), (q_103, .inl (G.2 2, 20, .inl (fun _ => 0))), (q_111, .inl (G.2 3, 20, .inl (fun _ => 0))), (q_119, .inl (G.2 2, 20, .inl (fun _ => 0)))] := hD
  refine lv_aload_n hx hb d_MOD_init_124 rfl (lv_at hl 0 rfl) ?_
  refine lv_bipush (v := 20) hx hb d_MOD_init_125 (by decide) ?_
  refine va_newa (atype := .int) (a0 := (20, .inl (fun _ => 0))) hx hb (hT _ wd_658) rfl hK hP hD hS hA (fun _ => rfl) (by decide) (by decide) (by decide) (Nat.le_of_ble_eq_true rfl) (Nat.le_of_ble_eq_true rfl) d_MOD_init_127 (fun q_127 cA H hK9 hP hD hS => ?_)
  obtain rfl : cA = G.2 2 := bx_cI hK9 (i := 2) (j := 5) rfl rfl
  have hP : va_P G.1 vwCl [(z0, .inr (6, [.int 0, .int 0, .ref q_7, .ref q_15, .ref q_23, .ref q_31, .ref q_39, .ref q_47, .int 0, .ref q_55, .ref q_63, .ref q_71, .ref q_79, .ref q_87, .ref q_95, .ref q_103, .ref q_111, .ref q_119, .null, .int 0, .int 0, .long 0, .long 0, .int 0, .null])), (q_7, .inl (G.2 2, 16, .inl (fun _ => 0))), (q_15, .inl (G.2 2, 16, .inl (fun _ => 0))), (q_23, .inl (G.2 2, 16, .inl (fun _ => 0))), (q_31, .inl (G.2 2, 16, .inl (fun _ => 0))), (q_39, .inl (G.2 2, 16, .inl (fun _ => 0))), (q_47, .inl (G.2 3, 16, .inl (fun _ => 0))), (q_55, .inl (G.2 2, 20, .inl (fun _ => 0))), (q_63, .inl (G.2 3, 20, .inl (fun _ => 0))), (q_71, .inl (G.2 3, 20, .inl (fun _ => 0))), (q_79, .inl (G.2 3, 20, .inl (fun _ => 0))), (q_87, .inl (G.2 3, 20, .inl (fun _ => 0))), (q_95, .inl (G.2 2, 20, .inl (fun _ => 0))), (q_103, .inl (G.2 2, 20, .inl (fun _ => 0))), (q_111, .inl (G.2 3, 20, .inl (fun _ => 0))), (q_119, .inl (G.2 2, 20, .inl (fun _ => 0))), (q_127, .inl (G.2 2, 20, .inl (fun _ => 0)))] H := hP
  have hD : va_D A [(z0, .inr (6, [.int 0, .int 0, .ref q_7, .ref q_15, .ref q_23, .ref q_31, .ref q_39, .ref q_47, .int 0, .ref q_55, .ref q_63, .ref q_71, .ref q_79, .ref q_87, .ref q_95, .ref q_103, .ref q_111, .ref q_119, .null, .int 0, .int 0, .long 0, .long 0, .int 0, .null])), (q_7, .inl (G.2 2, 16, .inl (fun _ => 0))), (q_15, .inl (G.2 2, 16, .inl (fun _ => 0))), (q_23, .inl (G.2 2, 16, .inl (fun _ => 0))), (q_31, .inl (G.2 2, 16, .inl (fun _ => 0))), (q_39, .inl (G.2 2, 16, .inl (fun _ => 0))), (q_47, .inl (G.2 3, 16, .inl (fun _ => 0))), (q_55, .inl (G.2 2, 20, .inl (fun _ => 0))), (q_63, .inl (G.2 3, 20, .inl (fun _ => 0))), (q_71, .inl (G.2 3, 20, .inl (fun _ => 0))), (q_79, .inl (G.2 3, 20, .inl (fun _ => 0))), (q_87, .inl (G.2 3, 20, .inl (fun _ => 0))), (q_95, .inl (G.2 2, 20, .inl (fun _ => 0))), (q_103, .inl (G.2 2, 20, .inl (fun _ => 0))), (q_111, .inl (G.2 3, 20, .inl (fun _ => 0))), (q_119, .inl (G.2 2, 20, .inl (fun _ => 0))), (q_127, .inl (G.2 2, 20, .inl (fun _ => 0)))] := hD
  refine va_putF (D := G.1) (ci := 6) (v := .ref q_127) (ty := .array .int) (C := R_MOD) (T := T_MOD) (N := 25) hx hb hT in_MOD t_MOD tok_MOD nok_MOD hown hK hP hD hS 0 rfl rfl 18 (by decide) (hT _ wd_600) (fun _ h9 => h9) rfl hin rfl (by decide +kernel) rfl rfl (Nat.le_of_ble_eq_true rfl) d_MOD_init_129 (fun H locs hP hD hS => ?_)
  have hP : va_P G.1 vwCl [(z0, .inr (6, [.int 0, .int 0, .ref q_7, .ref q_15, .ref q_23, .ref q_31, .ref q_39, .ref q_47, .int 0, .ref q_55, .ref q_63, .ref q_71, .ref q_79, .ref q_87, .ref q_95, .ref q_103, .ref q_111, .ref q_119, .ref q_127, .int 0, .int 0, .long 0, .long 0, .int 0, .null])), (q_7, .inl (G.2 2, 16, .inl (fun _ => 0))), (q_15, .inl (G.2 2, 16, .inl (fun _ => 0))), (q_23, .inl (G.2 2, 16, .inl (fun _ => 0))), (q_31, .inl (G.2 2, 16, .inl (fun _ => 0))), (q_39, .inl (G.2 2, 16, .inl (fun _ => 0))), (q_47, .inl (G.2 3, 16, .inl (fun _ => 0))), (q_55, .inl (G.2 2, 20, .inl (fun _ => 0))), (q_63, .inl (G.2 3, 20, .inl (fun _ => 0))), (q_71, .inl (G.2 3, 20, .inl (fun _ => 0))), (q_79, .inl (G.2 3, 20, .inl (fun _ => 0))), (q_87, .inl (G.2 3, 20, .inl (fun _ => 0))), (q_95, .inl (G.2 2, 20, .inl (fun _ => 0))), (q_103, .inl (G.2 2, 20, .inl (fun _ => 0))), (q_111, .inl (G.2 3, 20, .inl (fun _ => 0))), (q_119, .inl (G.2 2, 20, .inl (fun _ => 0))), (q_127, .inl (G.2 2, 20, .inl (fun _ => 0)))] H := hP
  have hD : va_D A [(z0, .inr (6, [.int 0, .int 0, .ref q_7, .ref q_15, .ref q_23, .ref q_31, .ref q_39, .ref q_47, .int 0, .ref q_55, .ref q_63, .ref q_71, .ref q_79, .ref q_87, .ref q_95, .ref q_103, .ref q_111, .ref q_119, .ref q_127, .int 0, .int 0, .long 0, .long 0, .int 0, .null])), (q_7, .inl (G.2 2, 16, .inl (fun _ => 0))), (q_15, .inl (G.2 2, 16, .inl (fun _ => 0))), (q_23, .inl (G.2 2, 16, .inl (fun _ => 0))), (q_31, .inl (G.2 2, 16, .inl (fun _ => 0))), (q_39, .inl (G.2 2, 16, .inl (fun _ => 0))), (q_47, .inl (G.2 3, 16, .inl (fun _ => 0))), (q_55, .inl (G.2 2, 20, .inl (fun _ => 0))), (q_63, .inl (G.2 3, 20, .inl (fun _ => 0))), (q_71, .inl (G.2 3, 20, .inl (fun _ => 0))), (q_79, .inl (G.2 3, 20, .inl (fun _ => 0))), (q_87, .inl (G.2 3, 20, .inl (fun _ => 0))), (q_95, .inl (G.2 2, 20, .inl (fun _ => 0))), (q_103, .inl (G.2 2, 20, .inl (fun _ => 0))), (q_111, .inl (G.2 3, 20, .inl (fun _ => 0))), (q_119, .inl (G.2 2, 20, .inl (fun _ => 0))), (q_127, .inl (G.2 2, 20, .inl (fun _ => 0)))] := hD
  refine lv_aload_n hx hb d_MOD_init_132 rfl (lv_at hl 0 rfl) ?_
  refine lv_bipush (v := 64) hx hb d_MOD_init_133 (by decide) ?_
  refine va_newa (atype := .int) (a0 := (64, .inl (fun _ => 0))) hx hb (hT _ wd_658) rfl hK hP hD hS hA (fun _ => rfl) (by decide) (by decide) (by decide) (Nat.le_of_ble_eq_true rfl) (Nat.le_of_ble_eq_true rfl) d_MOD_init_135 (fun q_135 cA H hK9 hP hD hS => ?_)
  obtain rfl : cA = G.2 2 := bx_cI hK9 (i := 2) (j := 5) rfl rfl
  have hP : va_P G.1 vwCl [(z0, .inr (6, [.int 0, .int 0, .ref q_7, .ref q_15, .ref q_23, .ref q_31, .ref q_39, .ref q_47, .int 0, .ref q_55, .ref q_63, .ref q_71, .ref q_79, .ref q_87, .ref q_95, .ref q_103, .ref q_111, .ref q_119, .ref q_127, .int 0, .int 0, .long 0, .long 0, .int 0, .null])), (q_7, .inl (G.2 2, 16, .inl (fun _ => 0))), (q_15, .inl (G.2 2, 16, .inl (fun _ => 0))), (q_23, .inl (G.2 2, 16, .inl (fun _ => 0))), (q_31, .inl (G.2 2, 16, .inl (fun _ => 0))), (q_39, .inl (G.2 2, 16, .inl (fun _ => 0))), (q_47, .inl (G.2 3, 16, .inl (fun _ => 0))), (q_55, .inl (G.2 2, 20, .inl (fun _ => 0))), (q_63, .inl (G.2 3, 20, .inl (fun _ => 0))), (q_71, .inl (G.2 3, 20, .inl (fun _ => 0))), (q_79, .inl (G.2 3, 20, .inl (fun _ => 0))), (q_87, .inl (G.2 3, 20, .inl (fun _ => 0))), (q_95, .inl (G.2 2, 20, .inl (fun _ => 0))), (q_103, .inl (G.2 2, 20, .inl (fun _ => 0))), (q_111, .inl (G.2 3, 20, .inl (fun _ => 0))), (q_119, .inl (G.2 2, 20, .inl (fun _ => 0))), (q_127, .inl (G.2 2, 20, .inl (fun _ => 0))), (q_135, .inl (G.2 2, 64, .inl (fun _ => 0)))] H := hP
  have hD : va_D A [(z0, .inr (6, [.int 0, .int 0, .ref q_7, .ref q_15, .ref q_23, .ref q_31, .ref q_39, .ref q_47, .int 0, .ref q_55, .ref q_63, .ref q_71, .ref q_79, .ref q_87, .ref q_95, .ref q_103, .ref q_111, .ref q_119, .ref q_127, .int 0, .int 0, .long 0, .long 0, .int 0, .null])), (q_7, .inl (G.2 2, 16, .inl (fun _ => 0))), (q_15, .inl (G.2 2, 16, .inl (fun _ => 0))), (q_23, .inl (G.2 2, 16, .inl (fun _ => 0))), (q_31, .inl (G.2 2, 16, .inl (fun _ => 0))), (q_39, .inl (G.2 2, 16, .inl (fun _ => 0))), (q_47, .inl (G.2 3, 16, .inl (fun _ => 0))), (q_55, .inl (G.2 2, 20, .inl (fun _ => 0))), (q_63, .inl (G.2 3, 20, .inl (fun _ => 0))), (q_71, .inl (G.2 3, 20, .inl (fun _ => 0))), (q_79, .inl (G.2 3, 20, .inl (fun _ => 0))), (q_87, .inl (G.2 3, 20, .inl (fun _ => 0))), (q_95, .inl (G.2 2, 20, .inl (fun _ => 0))), (q_103, .inl (G.2 2, 20, .inl (fun _ => 0))), (q_111, .inl (G.2 3, 20, .inl (fun _ => 0))), (q_119, .inl (G.2 2, 20, .inl (fun _ => 0))), (q_127, .inl (G.2 2, 20, .inl (fun _ => 0))), (q_135, .inl (G.2 2, 64, .inl (fun _ => 0)))] := hD
  refine va_putF (D := G.1) (ci := 6) (v := .ref q_135) (ty := .array .int) (C := R_MOD) (T := T_MOD) (N := 25) hx hb hT in_MOD t_MOD tok_MOD nok_MOD hown hK hP hD hS 0 rfl rfl 24 (by decide) (hT _ wd_606) (fun _ h9 => h9) rfl hin rfl (by decide +kernel) rfl rfl (Nat.le_of_ble_eq_true rfl) d_MOD_init_137 (fun H locs hP hD hS => ?_)
  have hP : va_P G.1 vwCl [(z0, .inr (6, [.int 0, .int 0, .ref q_7, .ref q_15, .ref q_23, .ref q_31, .ref q_39, .ref q_47, .int 0, .ref q_55, .ref q_63, .ref q_71, .ref q_79, .ref q_87, .ref q_95, .ref q_103, .ref q_111, .ref q_119, .ref q_127, .int 0, .int 0, .long 0, .long 0, .int 0, .ref q_135])), (q_7, .inl (G.2 2, 16, .inl (fun _ => 0))), (q_15, .inl (G.2 2, 16, .inl (fun _ => 0))), (q_23, .inl (G.2 2, 16, .inl (fun _ => 0))), (q_31, .inl (G.2 2, 16, .inl (fun _ => 0))), (q_39, .inl (G.2 2, 16, .inl (fun _ => 0))), (q_47, .inl (G.2 3, 16, .inl (fun _ => 0))), (q_55, .inl (G.2 2, 20, .inl (fun _ => 0))), (q_63, .inl (G.2 3, 20, .inl (fun _ => 0))), (q_71, .inl (G.2 3, 20, .inl (fun _ => 0))), (q_79, .inl (G.2 3, 20, .inl (fun _ => 0))), (q_87, .inl (G.2 3, 20, .inl (fun _ => 0))), (q_95, .inl (G.2 2, 20, .inl (fun _ => 0))), (q_103, .inl (G.2 2, 20, .inl (fun _ => 0))), (q_111, .inl (G.2 3, 20, .inl (fun _ => 0))), (q_119, .inl (G.2 2, 20, .inl (fun _ => 0))), (q_127, .inl (G.2 2, 20, .inl (fun _ => 0))), (q_135, .inl (G.2 2, 64, .inl (fun _ => 0)))] H := hP
  have hD : va_D A [(z0, .inr (6, [.int 0, .int 0, .ref q_7, .ref q_15, .ref q_23, .ref q_31, .ref q_39, .ref q_47, .int 0, .ref q_55, .ref q_63, .ref q_71, .ref q_79, .ref q_87, .ref q_95, .ref q_103, .ref q_111, .ref q_119, .ref q_127, .int 0, .int 0, .long 0, .long 0, .int 0, .ref q_135])), (q_7, .inl (G.2 2, 16, .inl (fun _ => 0))), (q_15, .inl (G.2 2, 16, .inl (fun _ => 0))), (q_23, .inl (G.2 2, 16, .inl (fun _ => 0))), (q_31, .inl (G.2 2, 16, .inl (fun _ => 0))), (q_39, .inl (G.2 2, 16, .inl (fun _ => 0))), (q_47, .inl (G.2 3, 16, .inl (fun _ => 0))), (q_55, .inl (G.2 2, 20, .inl (fun _ => 0))), (q_63, .inl (G.2 3, 20, .inl (fun _ => 0))), (q_71, .inl (G.2 3, 20, .inl (fun _ => 0))), (q_79, .inl (G.2 3, 20, .inl (fun _ => 0))), (q_87, .inl (G.2 3, 20, .inl (fun _ => 0))), (q_95, .inl (G.2 2, 20, .inl (fun _ => 0))), (q_103, .inl (G.2 2, 20, .inl (fun _ => 0))), (q_111, .inl (G.2 3, 20, .inl (fun _ => 0))), (q_119, .inl (G.2 2, 20, .inl (fun _ => 0))), (q_127, .inl (G.2 2, 20, .inl (fun _ => 0))), (q_135, .inl (G.2 2, 64, .inl (fun _ => 0)))] := hD
  refine W.widen (k := 17) (n := 424) (Nat.le_of_ble_eq_true rfl) (Nat.le_of_ble_eq_true rfl) ?_
  exact W.vret hx hb hr (fun t ht hW => ⟨⟨(fun i => if i = 1 then q_7 else if i = 2 then q_15 else if i = 3 then q_23 else if i = 4 then q_31 else if i = 5 then q_39 else if i = 6 then q_47 else if i = 7 then q_55 else if i = 8 then q_63 else if i = 9 then q_71 else if i = 10 then q_79 else if i = 11 then q_87 else if i = 12 then q_95 else if i = 13 then q_103 else if i = 14 then q_111 else if i = 15 then q_119 else if i = 16 then q_127 else q_135), rfl, by rw [ht]; exact hP, by rw [hAe]; exact hD, trivial⟩, by rw [hAe]; exact hS.F ht⟩) hS.2.2 d_MOD_init_140
end
section
abbrev b_ABC_init : ByteArray := prog_19_method_1_code
def y_ABC_init : MethodName := ⟨R_ABC, "<init>", "()V"⟩
def w_ABC_init : List Cond := .code y_ABC_init b_ABC_init 1 none :: lwG
theorem d_ABC_init_0 : decode b_ABC_init 0 = .ok (.aload_n 0, 1) := by decide +kernel
theorem d_ABC_init_1 : decode b_ABC_init 1 = .ok (.invokespecial 1, 3) := by decide +kernel
theorem d_ABC_init_4 : decode b_ABC_init 4 = .ok (.return_, 1) := by decide +kernel
abbrev b_ABL_init : ByteArray := prog_20_method_1_code
def y_ABL_init : MethodName := ⟨R_ABL, "<init>", "()V"⟩
def w_ABL_init : List Cond := .code y_ABL_init b_ABL_init 1 none :: lwG
theorem d_ABL_init_0 : decode b_ABL_init 0 = .ok (.aload_n 0, 1) := by decide +kernel
theorem d_ABL_init_1 : decode b_ABL_init 1 = .ok (.invokespecial 1, 3) := by decide +kernel
theorem d_ABL_init_4 : decode b_ABL_init 4 = .ok (.aload_n 0, 1) := by decide +kernel
theorem d_ABL_init_5 : decode b_ABL_init 5 = .ok (.iconst 0, 1) := by decide +kernel
theorem d_ABL_init_6 : decode b_ABL_init 6 = .ok (.putfield 7, 3) := by decide +kernel
theorem d_ABL_init_9 : decode b_ABL_init 9 = .ok (.return_, 1) := by decide +kernel
abbrev b_AL_init : ByteArray := prog_21_method_2_code
def y_AL_init : MethodName := ⟨R_AL, "<init>", "()V"⟩
def w_AL_init : List Cond := .code y_AL_init b_AL_init 1 none :: lwG
theorem d_AL_init_0 : decode b_AL_init 0 = .ok (.aload_n 0, 1) := by decide +kernel
theorem d_AL_init_1 : decode b_AL_init 1 = .ok (.invokespecial 1, 3) := by decide +kernel
theorem d_AL_init_4 : decode b_AL_init 4 = .ok (.aload_n 0, 1) := by decide +kernel
theorem d_AL_init_5 : decode b_AL_init 5 = .ok (.getstatic 39, 3) := by decide +kernel
theorem d_AL_init_8 : decode b_AL_init 8 = .ok (.putfield 9, 3) := by decide +kernel
theorem d_AL_init_11 : decode b_AL_init 11 = .ok (.return_, 1) := by decide +kernel
abbrev b_ASUP_newLength : ByteArray := prog_28_method_27_code
def y_ASUP_newLength : MethodName := ⟨R_ASUP, "newLength", "(III)I"⟩
def w_ASUP_newLength : List Cond := .code y_ASUP_newLength b_ASUP_newLength 4 (some .int) :: lwG
theorem d_ASUP_newLength_0 : decode b_ASUP_newLength 0 = .ok (.iload_n 0, 1) := by decide +kernel
theorem d_ASUP_newLength_1 : decode b_ASUP_newLength 1 = .ok (.iload_n 1, 1) := by decide +kernel
theorem d_ASUP_newLength_2 : decode b_ASUP_newLength 2 = .ok (.iload_n 2, 1) := by decide +kernel
theorem d_ASUP_newLength_3 : decode b_ASUP_newLength 3 = .ok (.invokestatic 194, 3) := by decide +kernel
theorem d_ASUP_newLength_6 : decode b_ASUP_newLength 6 = .ok (.iadd, 1) := by decide +kernel
theorem d_ASUP_newLength_7 : decode b_ASUP_newLength 7 = .ok (.istore_n 3, 1) := by decide +kernel
theorem d_ASUP_newLength_8 : decode b_ASUP_newLength 8 = .ok (.iconst 0, 1) := by decide +kernel
theorem d_ASUP_newLength_9 : decode b_ASUP_newLength 9 = .ok (.iload_n 3, 1) := by decide +kernel
theorem d_ASUP_newLength_10 : decode b_ASUP_newLength 10 = .ok (.if_icmp .ge 11, 3) := by decide +kernel
theorem d_ASUP_newLength_13 : decode b_ASUP_newLength 13 = .ok (.iload_n 3, 1) := by decide +kernel
theorem d_ASUP_newLength_14 : decode b_ASUP_newLength 14 = .ok (.ldc 200, 2) := by decide +kernel
theorem d_ASUP_newLength_16 : decode b_ASUP_newLength 16 = .ok (.if_icmp .gt 5, 3) := by decide +kernel
theorem d_ASUP_newLength_19 : decode b_ASUP_newLength 19 = .ok (.iload_n 3, 1) := by decide +kernel
theorem d_ASUP_newLength_20 : decode b_ASUP_newLength 20 = .ok (.ireturn, 1) := by decide +kernel
theorem d_ASUP_newLength_21 : decode b_ASUP_newLength 21 = .ok (.iload_n 0, 1) := by decide +kernel
theorem d_ASUP_newLength_22 : decode b_ASUP_newLength 22 = .ok (.iload_n 1, 1) := by decide +kernel
theorem d_ASUP_newLength_23 : decode b_ASUP_newLength 23 = .ok (.invokestatic 201, 3) := by decide +kernel
theorem d_ASUP_newLength_26 : decode b_ASUP_newLength 26 = .ok (.ireturn, 1) := by decide +kernel
abbrev b_ARRS_copyOf_1 : ByteArray := prog_22_method_120_code
def y_ARRS_copyOf_1 : MethodName := ⟨R_ARRS, "copyOf", "([Ljava/lang/Object;ILjava/lang/Class;)[Ljava/lang/Object;"⟩
def w_ARRS_copyOf_1 : List Cond := .code y_ARRS_copyOf_1 b_ARRS_copyOf_1 4 (some (.array (.object "java/lang/Object"))) :: lwG
theorem d_ARRS_copyOf_1_0 : decode b_ARRS_copyOf_1 0 = .ok (.aload_n 2, 1) := by decide +kernel
theorem d_ARRS_copyOf_1_1 : decode b_ARRS_copyOf_1 1 = .ok (.ldc 110, 2) := by decide +kernel
theorem d_ARRS_copyOf_1_3 : decode b_ARRS_copyOf_1 3 = .ok (.if_acmp .ne 10, 3) := by decide +kernel
theorem d_ARRS_copyOf_1_6 : decode b_ARRS_copyOf_1 6 = .ok (.iload_n 1, 1) := by decide +kernel
theorem d_ARRS_copyOf_1_7 : decode b_ARRS_copyOf_1 7 = .ok (.anewarray 2, 3) := by decide +kernel
theorem d_ARRS_copyOf_1_10 : decode b_ARRS_copyOf_1 10 = .ok (.goto 14, 3) := by decide +kernel
theorem d_ARRS_copyOf_1_13 : decode b_ARRS_copyOf_1 13 = .ok (.aload_n 2, 1) := by decide +kernel
theorem d_ARRS_copyOf_1_14 : decode b_ARRS_copyOf_1 14 = .ok (.invokevirtual 90, 3) := by decide +kernel
theorem d_ARRS_copyOf_1_17 : decode b_ARRS_copyOf_1 17 = .ok (.iload_n 1, 1) := by decide +kernel
theorem d_ARRS_copyOf_1_18 : decode b_ARRS_copyOf_1 18 = .ok (.invokestatic 95, 3) := by decide +kernel
theorem d_ARRS_copyOf_1_21 : decode b_ARRS_copyOf_1 21 = .ok (.checkcast 110, 3) := by decide +kernel
theorem d_ARRS_copyOf_1_24 : decode b_ARRS_copyOf_1 24 = .ok (.astore_n 3, 1) := by decide +kernel
theorem d_ARRS_copyOf_1_25 : decode b_ARRS_copyOf_1 25 = .ok (.aload_n 0, 1) := by decide +kernel
theorem d_ARRS_copyOf_1_26 : decode b_ARRS_copyOf_1 26 = .ok (.iconst 0, 1) := by decide +kernel
theorem d_ARRS_copyOf_1_27 : decode b_ARRS_copyOf_1 27 = .ok (.aload_n 3, 1) := by decide +kernel
theorem d_ARRS_copyOf_1_28 : decode b_ARRS_copyOf_1 28 = .ok (.iconst 0, 1) := by decide +kernel
theorem d_ARRS_copyOf_1_29 : decode b_ARRS_copyOf_1 29 = .ok (.aload_n 0, 1) := by decide +kernel
theorem d_ARRS_copyOf_1_30 : decode b_ARRS_copyOf_1 30 = .ok (.arraylength, 1) := by decide +kernel
theorem d_ARRS_copyOf_1_31 : decode b_ARRS_copyOf_1 31 = .ok (.iload_n 1, 1) := by decide +kernel
theorem d_ARRS_copyOf_1_32 : decode b_ARRS_copyOf_1 32 = .ok (.invokestatic 304, 3) := by decide +kernel
theorem d_ARRS_copyOf_1_35 : decode b_ARRS_copyOf_1 35 = .ok (.invokestatic 150, 3) := by decide +kernel
theorem d_ARRS_copyOf_1_38 : decode b_ARRS_copyOf_1 38 = .ok (.aload_n 3, 1) := by decide +kernel
theorem d_ARRS_copyOf_1_39 : decode b_ARRS_copyOf_1 39 = .ok (.areturn, 1) := by decide +kernel
end
section
set_option maxHeartbeats 4000000 in
set_option maxRecDepth 100000 in
theorem c_ABC_init (l : Launch) (G : GG) (sz : Nat) (h0 : Nat) (mo : Int32) (lsz : Int32)  : Met l y_ABC_init w_ABC_init ({ frames := 1, cells := 0, slots := 0, locals := 12 }) (va_Pc [.ref h0] (Pw G sz [(h0, .inr (1, [.int mo, .null, .int lsz]))])) (QW G none [(h0, .inr (1, [.int mo, .null, .int lsz]))] [(h0, .inr (1, [.int mo, .null, .int lsz]))] sz) 0 0 (va_A [(h0, .inr (1, [.int mo, .null, .int lsz]))] sz) := by
  refine Met.ofW (cc := b_ABC_init) (maxL := 1) (ret := none) (by decide) rfl ?_
  intro p e s m args below meth c s₁ B hml hv
  obtain ⟨rfl, hsz, hP, hGK, hD0⟩ := hv
  have hx := B.exec
  have hb := B.bytes
  have hr := B.returns
  have hts := atoms_spec (ws := w_ABC_init) B.pre
  have hT : ∀ w ∈ lwG, w.before _ s = true := fun w h => hts w (List.mem_cons_of_mem _ h)
  have hown : s.vm.findClass R_ABC = some m.cls := findClass_of_methodNamed B.named
  have hlocks := B.notSynchronized
  have hK := hGK.1
  have hN := hGK.2
  have hin : meth.name = "<init>" := (name_of_methodNamed B.named B.method).1
  subst hsz
  have hD := hD0.self (sz := s.heap.size)
  generalize hAe : va_A [(h0, .inr (1, [.int mo, .null, .int lsz]))] s.heap.size = A at hD ⊢
  have hA : ∀ q : Nat, s.heap.size ≤ q → A q := fun q h => by rw [← hAe]; exact Or.inr h
  have hS : va_S A s.heap s.heap [] := va_S.rf
  have hP : va_P G.1 vwCl [(h0, .inr (1, [.int mo, .null, .int lsz]))] s.heap := hP
  have hl := lv_entry ([.ref h0]) (n := 1) (Nat.le_of_ble_eq_true rfl)
  rw [lg_entry_eq]
  generalize (lg_sl ([.ref h0]) ++ List.replicate (1 - (lg_sl ([.ref h0])).length) Slot.unset).toArray = ls at hl ⊢
  have hl : lv_has ls 1 [(0, .ref h0)] := hl
  refine lv_aload_n hx hb d_ABC_init_0 rfl (lv_at hl 0 rfl) ?_
  refine W.objInit hx hb hown (hT _ wd_84) (hT _ wd_71) (hT _ wd_72) rfl (by rw [hml]; exact hl.1) rfl d_ABC_init_1 (Nat.le_of_ble_eq_true rfl) (Nat.le_of_ble_eq_true rfl) ?_
  refine W.eq (g2 := F0 m 4 ls []) rfl ?_
  exact W.vret hx hb hr (fun t ht hW => ⟨⟨rfl, by rw [ht]; exact hP, by rw [hAe]; exact hD⟩, by rw [hAe]; exact hS.F ht⟩) hS.2.2 d_ABC_init_4
set_option maxHeartbeats 4000000 in
set_option maxRecDepth 100000 in
theorem c_ABL_init (l : Launch) (G : GG) (sz : Nat) (h0 : Nat) (mo : Int32) (lsz : Int32)  : Met l y_ABL_init w_ABL_init ({ frames := 2, cells := 0, slots := 0, locals := 32 }) (va_Pc [.ref h0] (Pw G sz [(h0, .inr (1, [.int mo, .null, .int lsz]))])) (QW G none [(h0, .inr (1, [.int mo, .null, .int lsz]))] [(h0, .inr (1, [.int 0, .null, .int lsz]))] sz) 0 0 (va_A [(h0, .inr (1, [.int mo, .null, .int lsz]))] sz) := by
  refine Met.ofW (cc := b_ABL_init) (maxL := 1) (ret := none) (by decide) rfl ?_
  intro p e s m args below meth c s₁ B hml hv
  obtain ⟨rfl, hsz, hP, hGK, hD0⟩ := hv
  have hx := B.exec
  have hb := B.bytes
  have hr := B.returns
  have hts := atoms_spec (ws := w_ABL_init) B.pre
  have hT : ∀ w ∈ lwG, w.before _ s = true := fun w h => hts w (List.mem_cons_of_mem _ h)
  have hown : s.vm.findClass R_ABL = some m.cls := findClass_of_methodNamed B.named
  have hlocks := B.notSynchronized
  have hK := hGK.1
  have hN := hGK.2
  have hin : meth.name = "<init>" := (name_of_methodNamed B.named B.method).1
  subst hsz
  have hD := hD0.self (sz := s.heap.size)
  generalize hAe : va_A [(h0, .inr (1, [.int mo, .null, .int lsz]))] s.heap.size = A at hD ⊢
  have hA : ∀ q : Nat, s.heap.size ≤ q → A q := fun q h => by rw [← hAe]; exact Or.inr h
  have hS : va_S A s.heap s.heap [] := va_S.rf
  have hP : va_P G.1 vwCl [(h0, .inr (1, [.int mo, .null, .int lsz]))] s.heap := hP
  have hl := lv_entry ([.ref h0]) (n := 1) (Nat.le_of_ble_eq_true rfl)
  rw [lg_entry_eq]
  generalize (lg_sl ([.ref h0]) ++ List.replicate (1 - (lg_sl ([.ref h0])).length) Slot.unset).toArray = ls at hl ⊢
  have hl : lv_has ls 1 [(0, .ref h0)] := hl
  refine lv_aload_n hx hb d_ABL_init_0 rfl (lv_at hl 0 rfl) ?_
  have hPc := hP.sub (ws' := [(h0, .inr (1, [.int mo, .null, .int lsz]))]) [0] rfl
  have hDc := hD.sub (ws' := [(h0, .inr (1, [.int mo, .null, .int lsz]))]) [0] (by decide) rfl
  refine bx_callKv [0] (va_runI (As := []) (rest := []) ⟨hx, hb, hml, hown, hts⟩ (c_ABC_init l G s.heap.size h0 mo lsz) ⟨(callB_of 0 hts (gi_all wd_83) rfl rfl rfl (hT _ wd_46) (hT _ wd_81) (by decide +kernel) ⟨Nat.le_of_ble_eq_true rfl, Nat.le_of_ble_eq_true rfl⟩), rfl, (hT _ wd_82)⟩ (psW hPc hGK hDc) rfl rfl hl.1 rfl (lv_room (Nat.le_of_ble_eq_true rfl)) d_ABL_init_1 ⟨Nat.le_of_ble_eq_true rfl, Nat.le_of_ble_eq_true rfl⟩) hP hD hS hA rfl rfl rfl (fun H locs hP hD hS => ?_)
  have hP : va_P G.1 vwCl [(h0, .inr (1, [.int mo, .null, .int lsz]))] H := hP
  have hD : va_D A [(h0, .inr (1, [.int mo, .null, .int lsz]))] := hD
  refine lv_aload_n hx hb d_ABL_init_4 rfl (lv_at hl 0 rfl) ?_
  refine lv_iconst (v := 0) hx hb d_ABL_init_5 (by decide) ?_
  refine va_put (D := G.1) (ci := 1) (v := .int 0) (ty := .int) (C := R_AL) (T := T_AL) (N := 3) hx hb hT in_AL t_AL tok_AL nok_AL hown hK hP hD hS 0 rfl rfl 0 (by decide) (hT _ wd_89) (fun _ h9 => h9) rfl (by decide +kernel) rfl rfl (Nat.le_of_ble_eq_true rfl) d_ABL_init_6 (fun H locs hP hD hS => ?_)
  have hP : va_P G.1 vwCl [(h0, .inr (1, [.int 0, .null, .int lsz]))] H := hP
  have hD : va_D A [(h0, .inr (1, [.int 0, .null, .int lsz]))] := hD
  exact W.vret hx hb hr (fun t ht hW => ⟨⟨rfl, by rw [ht]; exact hP, by rw [hAe]; exact hD⟩, by rw [hAe]; exact hS.F ht⟩) hS.2.2 d_ABL_init_9
set_option maxHeartbeats 4000000 in
set_option maxRecDepth 100000 in
theorem c_AL_init (l : Launch) (G : GG) (sz : Nat) (e0 mi0 : Nat) (h0 : Nat) (mo : Int32) (lsz : Int32)  : Met l y_AL_init w_AL_init ({ frames := 3, cells := 0, slots := 0, locals := 52 }) (va_Pc [.ref h0] (PwX G sz e0 mi0 ([] : List Nat) [(h0, .inr (1, [.int mo, .null, .int lsz]))])) (QA (S := Unit) G (fun _ => none) [(h0, .inr (1, [.int mo, .null, .int lsz]))] (fun _ => [(h0, .inr (1, [.int 0, .ref e0, .int lsz]))]) (fun _ => True) sz) 0 0 (va_A [(h0, .inr (1, [.int mo, .null, .int lsz]))] sz) := by
  refine Met.ofW (cc := b_AL_init) (maxL := 1) (ret := none) (by decide) rfl ?_
  intro p e s m args below meth c s₁ B hml hv
  obtain ⟨rfl, ⟨hsz, hP, hGK, hD0⟩, hX⟩ := hv
  have hx := B.exec
  have hb := B.bytes
  have hr := B.returns
  have hts := atoms_spec (ws := w_AL_init) B.pre
  have hT : ∀ w ∈ lwG, w.before _ s = true := fun w h => hts w (List.mem_cons_of_mem _ h)
  have hown : s.vm.findClass R_AL = some m.cls := findClass_of_methodNamed B.named
  have hlocks := B.notSynchronized
  have hK := hGK.1
  have hN := hGK.2
  have hin : meth.name = "<init>" := (name_of_methodNamed B.named B.method).1
  subst hsz
  have hD := hD0.self (sz := s.heap.size)
  generalize hAe : va_A [(h0, .inr (1, [.int mo, .null, .int lsz]))] s.heap.size = A at hD hX ⊢
  have hA : ∀ q : Nat, s.heap.size ≤ q → A q := fun q h => by rw [← hAe]; exact Or.inr h
  have hS : va_S A s.heap s.heap [] := va_S.rf
  have hP : va_P G.1 vwCl [(h0, .inr (1, [.int mo, .null, .int lsz]))] s.heap := hP
  have hl := lv_entry ([.ref h0]) (n := 1) (Nat.le_of_ble_eq_true rfl)
  rw [lg_entry_eq]
  generalize (lg_sl ([.ref h0]) ++ List.replicate (1 - (lg_sl ([.ref h0])).length) Slot.unset).toArray = ls at hl ⊢
  have hl : lv_has ls 1 [(0, .ref h0)] := hl
  refine lv_aload_n hx hb d_AL_init_0 rfl (lv_at hl 0 rfl) ?_
  have hPc := hP.sub (ws' := [(h0, .inr (1, [.int mo, .null, .int lsz]))]) [0] rfl
  have hDc := hD.sub (ws' := [(h0, .inr (1, [.int mo, .null, .int lsz]))]) [0] (by decide) rfl
  refine bx_callKv [0] (va_runI (As := []) (rest := []) ⟨hx, hb, hml, hown, hts⟩ (c_ABL_init l G s.heap.size h0 mo lsz) ⟨(callB_of 0 hts (gi_all wd_80) rfl rfl rfl (hT _ wd_47) (hT _ wd_78) (by decide +kernel) ⟨Nat.le_of_ble_eq_true rfl, Nat.le_of_ble_eq_true rfl⟩), rfl, (hT _ wd_79)⟩ (psW hPc hGK hDc) rfl rfl hl.1 rfl (lv_room (Nat.le_of_ble_eq_true rfl)) d_AL_init_1 ⟨Nat.le_of_ble_eq_true rfl, Nat.le_of_ble_eq_true rfl⟩) hP hD hS hA rfl rfl rfl (fun H locs hP hD hS => ?_)
  have hP : va_P G.1 vwCl [(h0, .inr (1, [.int 0, .null, .int lsz]))] H := hP
  have hD : va_D A [(h0, .inr (1, [.int 0, .null, .int lsz]))] := hD
  refine lv_aload_n hx hb d_AL_init_4 rfl (lv_at hl 0 rfl) ?_
  refine va_gets (A := A) hx hb hX.1.1 hS hown (hT _ wd_85) (fun _ h9 => h9) d_AL_init_5 ?_
  refine va_put (D := G.1) (ci := 1) (v := .ref e0) (ty := .array (.object "java/lang/Object")) (C := R_AL) (T := T_AL) (N := 3) hx hb hT in_AL t_AL tok_AL nok_AL hown hK hP hD hS 0 rfl rfl 1 (by decide) (hT _ wd_87) (fun _ h9 => h9) rfl (by decide +kernel) rfl rfl (Nat.le_of_ble_eq_true rfl) d_AL_init_8 (fun H locs hP hD hS => ?_)
  have hP : va_P G.1 vwCl [(h0, .inr (1, [.int 0, .ref e0, .int lsz]))] H := hP
  have hD : va_D A [(h0, .inr (1, [.int 0, .ref e0, .int lsz]))] := hD
  refine W.widen (k := 0) (n := 0) (Nat.le_of_ble_eq_true rfl) (Nat.le_of_ble_eq_true rfl) ?_
  exact W.vret hx hb hr (fun t ht hW => ⟨⟨(), rfl, by rw [ht]; exact hP, by rw [hAe]; exact hD, trivial⟩, by rw [hAe]; exact hS.F ht⟩) hS.2.2 d_AL_init_11
set_option maxHeartbeats 4000000 in
set_option maxRecDepth 100000 in
theorem c_newLength (l : Launch) (G : GG) (no : Int32) (ng : Int32) (np : Int32) (h1 : ¬ no + (if ng < np then np else ng) ≤ 0) (h2 : ¬ 2147483639 < no + (if ng < np then np else ng)) : Met l y_ASUP_newLength w_ASUP_newLength ({ frames := 1, cells := 0, slots := 0, locals := 14 }) (va_Pc [.int no, .int ng, .int np] (Rw G [])) (k2_QcV (.int (no + (if ng < np then np else ng)))) 0 0 (fun _ => False) := by
  refine Met.ofW (cc := b_ASUP_newLength) (maxL := 4) (ret := (some .int)) (by decide) rfl ?_
  intro p e s m args below meth c s₁ B hml hv
  obtain ⟨rfl, hP, hGK⟩ := hv
  have hx := B.exec
  have hb := B.bytes
  have hr := B.returns
  have hts := atoms_spec (ws := w_ASUP_newLength) B.pre
  have hT : ∀ w ∈ lwG, w.before _ s = true := fun w h => hts w (List.mem_cons_of_mem _ h)
  have hown : s.vm.findClass R_ASUP = some m.cls := findClass_of_methodNamed B.named
  have hlocks := B.notSynchronized
  have hK := hGK.1
  have hN := hGK.2
  have hP : va_P G.1 vwCl [] s.heap := hP
  have hl := lv_entry ([.int no, .int ng, .int np]) (n := 4) (Nat.le_of_ble_eq_true rfl)
  rw [lg_entry_eq]
  generalize (lg_sl ([.int no, .int ng, .int np]) ++ List.replicate (4 - (lg_sl ([.int no, .int ng, .int np])).length) Slot.unset).toArray = ls at hl ⊢
  have hl : lv_has ls 4 [(0, .int no), (1, .int ng), (2, .int np)] := hl
  generalize hHe : s.heap = H at hP ⊢
  refine lv_iload_n hx hb d_ASUP_newLength_0 rfl (lv_at hl 0 rfl) ?_
  refine lv_iload_n hx hb d_ASUP_newLength_1 rfl (lv_at hl 1 rfl) ?_
  refine lv_iload_n hx hb d_ASUP_newLength_2 rfl (lv_at hl 2 rfl) ?_
  refine va_mmax hx hb (hml.trans hl.1.symm) hown (hT _ wd_209) (hT _ wd_210) (hT _ wd_54) (hT _ wd_211) (Nat.le_of_ble_eq_true rfl) (Nat.le_of_ble_eq_true rfl) (Nat.zero_le _) (Nat.zero_le _) d_ASUP_newLength_3 ?_
  refine lv_iadd hx hb d_ASUP_newLength_6 ?_
  refine lv_istore_n (lv' := [(3, .int (no + (if ng < np then np else ng))), (0, .int no), (1, .int ng), (2, .int np)]) hx hb d_ASUP_newLength_7 rfl hl (by decide) rfl (fun ls hl => ?_)
  refine lv_iconst (v := 0) hx hb d_ASUP_newLength_8 (by decide) ?_
  refine lv_iload_n hx hb d_ASUP_newLength_9 rfl (lv_at hl 0 rfl) ?_
  refine lv_icmp_ge (tgt := 21) hx hb d_ASUP_newLength_10 (by decide) (fun c_10 => ?_) (fun c_10 => ?_)
  · exact absurd c_10 h1
  · refine lv_iload_n hx hb d_ASUP_newLength_13 rfl (lv_at hl 0 rfl) ?_
    refine lv_ldc (v := 2147483639) hx hb hown (hT _ wd_212) d_ASUP_newLength_14 ?_
    refine lv_icmp_gt (tgt := 21) hx hb d_ASUP_newLength_16 (by decide) (fun c_16 => ?_) (fun c_16 => ?_)
    · exact absurd c_16 h2
    · refine lv_iload_n hx hb d_ASUP_newLength_19 rfl (lv_at hl 0 rfl) ?_
      exact W.iret (v := no + (if ng < np then np else ng)) hx hb hr (fun t ht _ => ⟨rfl, ht.trans hHe.symm⟩) (fun _ h => by cases h) d_ASUP_newLength_20
set_option maxHeartbeats 4000000 in
set_option maxRecDepth 100000 in
theorem c_copyOf3 (l : Launch) (G : GG) (sz : Nat) (e0 mi0 : Nat) (a0 : Nat) (cap : Nat) (n2 : Nat) (f : Nat → Option Nat) (els : List Nat) (hc : cap ≤ n2) (hn2 : n2 ≤ 22) (hf : ∀ i, i < cap → ∀ y, f i = some y → y ∈ els) : Met l y_ARRS_copyOf_1 w_ARRS_copyOf_1 ({ frames := 1, cells := 1, slots := 22, locals := 30 }) (va_Pc [.ref a0, .int (nI n2), .ref mi0] (PwX G sz e0 mi0 els [(a0, .inl (G.2 0, cap, .inr (.inr (.inr (.inr f)))))])) (QA (S := Nat × (Nat → Option Nat)) G (fun u => some (.ref u.1)) [(a0, .inl (G.2 0, cap, .inr (.inr (.inr (.inr f)))))] (fun u => [(a0, .inl (G.2 0, cap, .inr (.inr (.inr (.inr f))))), (u.1, .inl (G.2 0, n2, .inr (.inr (.inr (.inr u.2)))))]) (fun u => ∀ i, i < cap → u.2 i = f i) sz) 1 22 (va_A [(a0, .inl (G.2 0, cap, .inr (.inr (.inr (.inr f)))))] sz) := by
  refine Met.ofW (cc := b_ARRS_copyOf_1) (maxL := 4) (ret := (some (.array (.object "java/lang/Object")))) (by decide) rfl ?_
  intro p e s m args below meth c s₁ B hml hv
  obtain ⟨rfl, ⟨hsz, hP, hGK, hD0⟩, hX⟩ := hv
  have hx := B.exec
  have hb := B.bytes
  have hr := B.returns
  have hts := atoms_spec (ws := w_ARRS_copyOf_1) B.pre
  have hT : ∀ w ∈ lwG, w.before _ s = true := fun w h => hts w (List.mem_cons_of_mem _ h)
  have hown : s.vm.findClass R_ARRS = some m.cls := findClass_of_methodNamed B.named
  have hlocks := B.notSynchronized
  have hK := hGK.1
  have hN := hGK.2
  subst hsz
  have hD := hD0.self (sz := s.heap.size)
  generalize hAe : va_A [(a0, .inl (G.2 0, cap, .inr (.inr (.inr (.inr f)))))] s.heap.size = A at hD hX ⊢
  have hA : ∀ q : Nat, s.heap.size ≤ q → A q := fun q h => by rw [← hAe]; exact Or.inr h
  have hS : va_S A s.heap s.heap [] := va_S.rf
  have hP : va_P G.1 vwCl [(a0, .inl (G.2 0, cap, .inr (.inr (.inr (.inr f)))))] s.heap := hP
  have hl := lv_entry ([.ref a0, .int (nI n2), .ref mi0]) (n := 4) (Nat.le_of_ble_eq_true rfl)
  rw [lg_entry_eq]
  generalize (lg_sl ([.ref a0, .int (nI n2), .ref mi0]) ++ List.replicate (4 - (lg_sl ([.ref a0, .int (nI n2), .ref mi0])).length) Slot.unset).toArray = ls at hl ⊢
  have hl : lv_has ls 4 [(0, .ref a0), (1, .int (nI n2)), (2, .ref mi0)] := hl
  refine lv_aload_n hx hb d_ARRS_copyOf_1_0 rfl (lv_at hl 2 rfl) ?_
  refine va_ldcM hx hb hown (hT _ wd_235) hX.1.2.2.1 d_ARRS_copyOf_1_1 ?_
  refine lv_acmp_ne (rx := some mi0) (ry := some mi0) (tgt := 13) hx hb d_ARRS_copyOf_1_3 (by decide) (fun c_3 => absurd rfl c_3) (fun _ => ?_)
  refine lv_iload_n hx hb d_ARRS_copyOf_1_6 rfl (lv_at hl 1 rfl) ?_
  refine va_newq (N' := n2) hx hb hown (hT _ wd_237) hX.1.2.2.2.2 hK hP hD hS hA (nI_pos (by omega)) (nI_clamp (by omega)) (by omega) (Nat.le_of_ble_eq_true rfl) (show 0 + n2 ≤ 22 by omega) d_ARRS_copyOf_1_7 (fun q_7 cA H hK9 hP hD hS => ?_)
  obtain rfl : cA = G.2 0 := bx_cA hK9 (i := 0) (j := 5) rfl rfl
  have hP : va_P G.1 vwCl [(a0, .inl (G.2 0, cap, .inr (.inr (.inr (.inr f))))), (q_7, .inl (G.2 0, n2, .inr (.inr (.inr (.inr (fun _ => none))))))] H := hP
  have hD : va_D A [(a0, .inl (G.2 0, cap, .inr (.inr (.inr (.inr f))))), (q_7, .inl (G.2 0, n2, .inr (.inr (.inr (.inr (fun _ => none))))))] := hD
  refine lv_goto (tgt := 24) hx hb d_ARRS_copyOf_1_10 (by decide) ?_
  refine lv_astore_n (lv' := [(3, .ref q_7), (0, .ref a0), (1, .int (nI n2)), (2, .ref mi0)]) hx hb d_ARRS_copyOf_1_24 rfl hl (by decide) rfl (fun ls hl => ?_)
  refine lv_aload_n hx hb d_ARRS_copyOf_1_25 rfl (lv_at hl 1 rfl) ?_
  refine lv_iconst (v := 0) hx hb d_ARRS_copyOf_1_26 (by decide) ?_
  refine lv_aload_n hx hb d_ARRS_copyOf_1_27 rfl (lv_at hl 0 rfl) ?_
  refine lv_iconst (v := 0) hx hb d_ARRS_copyOf_1_28 (by decide) ?_
  refine lv_aload_n hx hb d_ARRS_copyOf_1_29 rfl (lv_at hl 1 rfl) ?_
  refine va_alen (v := nI cap) hx hb hK hP 0 0 rfl rfl rfl d_ARRS_copyOf_1_30 ?_
  refine lv_iload_n hx hb d_ARRS_copyOf_1_31 rfl (lv_at hl 2 rfl) ?_
  refine va_mmin hx hb (hml.trans hl.1.symm) hown (hT _ wd_238) (hT _ wd_239) (hT _ wd_54) (hT _ wd_240) (Nat.le_of_ble_eq_true rfl) (Nat.le_of_ble_eq_true rfl) (Nat.le_of_ble_eq_true rfl) (show 0 + n2 ≤ 22 by omega) d_ARRS_copyOf_1_32 ?_
  refine W.eq (g2 := F0 m 35 ls (.int (nI cap) :: [.int 0, .ref q_7, .int 0, .ref a0])) (by rw [if_neg (nI_nlt hc (by omega))]) ?_
  refine va_copyM hx hb (hml.trans hl.1.symm) hown (hT _ wd_241) (hT _ wd_243) (hT _ wd_242) (hT _ wd_56) hK hP hD hS 0 1 0 0 rfl rfl rfl rfl (by decide) (by decide) (nI_pos (by omega)) (by rw [nI_clamp (by omega), sb_cl0]; omega) (by rw [nI_clamp (by omega), sb_cl0]; omega) (fun i hi y hy => ((hX.kept hS.2.1).2 y (hf i (by rw [nI_clamp (by omega)] at hi; exact hi) y (by rw [sb_cl0, Nat.zero_add] at hy; exact hy))).1) (Nat.le_of_ble_eq_true rfl) (Nat.le_of_ble_eq_true rfl) d_ARRS_copyOf_1_35 (fun H locs hP hD hS => ?_)
  rw [nI_clamp (by omega), sb_cl0] at hP hD
  have hP : va_P G.1 vwCl [(a0, .inl (G.2 0, cap, .inr (.inr (.inr (.inr f))))), (q_7, .inl (G.2 0, n2, .inr (.inr (.inr (.inr (va_cpy f (fun _ => none) 0 0 cap))))))] H := hP
  have hD : va_D A [(a0, .inl (G.2 0, cap, .inr (.inr (.inr (.inr f))))), (q_7, .inl (G.2 0, n2, .inr (.inr (.inr (.inr (va_cpy f (fun _ => none) 0 0 cap))))))] := hD
  refine lv_aload_n hx hb d_ARRS_copyOf_1_38 rfl (lv_at hl 0 rfl) ?_
  refine W.widen (k := 1) (n := 22) (Nat.le_of_ble_eq_true rfl) (show 0 + n2 ≤ 22 by omega) ?_
  exact W.aret (v := .ref q_7) hx hb hr (Or.inr ⟨_, rfl⟩) (Or.inr ⟨_, rfl⟩) (fun t ht hW => ⟨⟨(q_7, va_cpy f (fun _ => none) 0 0 cap), rfl, by rw [ht]; exact hP, by rw [hAe]; exact hD, fun i hi => by show va_cpy f (fun _ => none) 0 0 cap i = f i; rw [pk_cpy_in (sp := 0) (dp := 0) (n := cap) (Nat.zero_le i) (by omega), Nat.zero_add, Nat.sub_zero]⟩, by rw [hAe]; exact hS.F ht⟩) hS.2.2 d_ARRS_copyOf_1_39
end
section
abbrev b_ARRS_copyOf_0 : ByteArray := prog_22_method_119_code
def y_ARRS_copyOf_0 : MethodName := ⟨R_ARRS, "copyOf", "([Ljava/lang/Object;I)[Ljava/lang/Object;"⟩
def w_ARRS_copyOf_0 : List Cond := .code y_ARRS_copyOf_0 b_ARRS_copyOf_0 2 (some (.array (.object "java/lang/Object"))) :: lwG
theorem d_ARRS_copyOf_0_0 : decode b_ARRS_copyOf_0 0 = .ok (.aload_n 0, 1) := by decide +kernel
theorem d_ARRS_copyOf_0_1 : decode b_ARRS_copyOf_0 1 = .ok (.iload_n 1, 1) := by decide +kernel
theorem d_ARRS_copyOf_0_2 : decode b_ARRS_copyOf_0 2 = .ok (.aload_n 0, 1) := by decide +kernel
theorem d_ARRS_copyOf_0_3 : decode b_ARRS_copyOf_0 3 = .ok (.invokevirtual 86, 3) := by decide +kernel
theorem d_ARRS_copyOf_0_6 : decode b_ARRS_copyOf_0 6 = .ok (.invokestatic 300, 3) := by decide +kernel
theorem d_ARRS_copyOf_0_9 : decode b_ARRS_copyOf_0 9 = .ok (.areturn, 1) := by decide +kernel
end
section
set_option maxHeartbeats 4000000 in
set_option maxRecDepth 100000 in
theorem c_copyOf2 (l : Launch) (G : GG) (sz : Nat) (e0 mi0 : Nat) (a0 : Nat) (cap : Nat) (n2 : Nat) (f : Nat → Option Nat) (els : List Nat) (hc : cap ≤ n2) (hn2 : n2 ≤ 22) (hf : ∀ i, i < cap → ∀ y, f i = some y → y ∈ els) : Met l y_ARRS_copyOf_0 w_ARRS_copyOf_0 ({ frames := 2, cells := 1, slots := 22, locals := 53 }) (va_Pc [.ref a0, .int (nI n2)] (PwX G sz e0 mi0 els [(a0, .inl (G.2 0, cap, .inr (.inr (.inr (.inr f)))))])) (QA (S := Nat × (Nat → Option Nat)) G (fun u => some (.ref u.1)) [(a0, .inl (G.2 0, cap, .inr (.inr (.inr (.inr f)))))] (fun u => [(a0, .inl (G.2 0, cap, .inr (.inr (.inr (.inr f))))), (u.1, .inl (G.2 0, n2, .inr (.inr (.inr (.inr u.2)))))]) (fun u => ∀ i, i < cap → u.2 i = f i) sz) 1 22 (va_A [(a0, .inl (G.2 0, cap, .inr (.inr (.inr (.inr f)))))] sz) := by
  refine Met.ofW (cc := b_ARRS_copyOf_0) (maxL := 2) (ret := (some (.array (.object "java/lang/Object")))) (by decide) rfl ?_
  intro p e s m args below meth c s₁ B hml hv
  obtain ⟨rfl, ⟨hsz, hP, hGK, hD0⟩, hX⟩ := hv
  have hx := B.exec
  have hb := B.bytes
  have hr := B.returns
  have hts := atoms_spec (ws := w_ARRS_copyOf_0) B.pre
  have hT : ∀ w ∈ lwG, w.before _ s = true := fun w h => hts w (List.mem_cons_of_mem _ h)
  have hown : s.vm.findClass R_ARRS = some m.cls := findClass_of_methodNamed B.named
  have hlocks := B.notSynchronized
  have hK := hGK.1
  have hN := hGK.2
  subst hsz
  have hD := hD0.self (sz := s.heap.size)
  generalize hAe : va_A [(a0, .inl (G.2 0, cap, .inr (.inr (.inr (.inr f)))))] s.heap.size = A at hD hX ⊢
  have hA : ∀ q : Nat, s.heap.size ≤ q → A q := fun q h => by rw [← hAe]; exact Or.inr h
  have hS : va_S A s.heap s.heap [] := va_S.rf
  have hP : va_P G.1 vwCl [(a0, .inl (G.2 0, cap, .inr (.inr (.inr (.inr f)))))] s.heap := hP
  have hl := lv_entry ([.ref a0, .int (nI n2)]) (n := 2) (Nat.le_of_ble_eq_true rfl)
  rw [lg_entry_eq]
  generalize (lg_sl ([.ref a0, .int (nI n2)]) ++ List.replicate (2 - (lg_sl ([.ref a0, .int (nI n2)])).length) Slot.unset).toArray = ls at hl ⊢
  have hl : lv_has ls 2 [(0, .ref a0), (1, .int (nI n2))] := hl
  refine lv_aload_n hx hb d_ARRS_copyOf_0_0 rfl (lv_at hl 0 rfl) ?_
  refine lv_iload_n hx hb d_ARRS_copyOf_0_1 rfl (lv_at hl 1 rfl) ?_
  refine lv_aload_n hx hb d_ARRS_copyOf_0_2 rfl (lv_at hl 0 rfl) ?_
  have hrc : ∃ cell : Cell, s.heap[a0]? = some cell ∧ cell.vm.isStatics = false ∧ s.vm.findClass "[Ljava/lang/Object;" = some cell.cls := ⟨_, hP 0 _ rfl, rfl, va_nmO (hK.2 0 _ rfl).2 (by decide)⟩
  refine va_getC hx hb (hml.trans hl.1.symm) hown (hT _ wd_219) (va_Dc.use hX.1.2.2.2.1) (hT _ wd_783) (hT _ wd_220) (hT _ wd_231) hX.1.2.2.1 hrc (Nat.le_of_ble_eq_true rfl) (Nat.le_of_ble_eq_true rfl) d_ARRS_copyOf_0_3 ?_
  have hpm : ([(a0, .inl (G.2 0, cap, .inr (.inr (.inr (.inr f)))))] : va_W).Perm ([(a0, .inl (G.2 0, cap, .inr (.inr (.inr (.inr f)))))] ++ []) := List.Perm.refl _
  have hPc := bx_PR hpm hP
  have hDc := bx_DR hpm hD
  have hXc : XE e0 mi0 els (va_A [(a0, .inl (G.2 0, cap, .inr (.inr (.inr (.inr f)))))] s.heap.size) s s.heap := (hX.kept hS.2.1).narrow (bx_freeR hpm hD hS hA)
  refine bx_callA (va_runS (As := [.ref a0, .int (nI n2), .ref mi0]) (rest := []) ⟨hx, hb, hml, hown, hts⟩ (c_copyOf3 l G s.heap.size e0 mi0 a0 cap n2 f els hc hn2 hf) ⟨(callB_of 3 hts (gi_all wd_234) rfl rfl rfl (hT _ wd_55) (hT _ wd_232) (by decide +kernel) ⟨Nat.le_of_ble_eq_true rfl, Nat.le_of_ble_eq_true rfl⟩), (hT _ wd_233)⟩ (psX hPc hGK hDc hXc) rfl rfl hl.1 rfl (lv_room (Nat.le_of_ble_eq_true rfl)) d_ARRS_copyOf_0_6 ⟨Nat.le_of_ble_eq_true rfl, Nat.le_of_ble_eq_true rfl⟩) hpm hP hD hS hA (fun u H locs hu hP hD hS => ?_)
  obtain ⟨q9, f9⟩ := u
  have hP : va_P G.1 vwCl [(a0, .inl (G.2 0, cap, .inr (.inr (.inr (.inr f))))), (q9, .inl (G.2 0, n2, .inr (.inr (.inr (.inr f9)))))] H := hP
  have hD : va_D A [(a0, .inl (G.2 0, cap, .inr (.inr (.inr (.inr f))))), (q9, .inl (G.2 0, n2, .inr (.inr (.inr (.inr f9)))))] := hD
  refine W.eq (g2 := F0 m 9 ls [.ref q9]) rfl ?_
  refine W.widen (k := 1) (n := 22) (Nat.le_of_ble_eq_true rfl) (Nat.le_of_ble_eq_true rfl) ?_
  exact W.aret (v := .ref q9) hx hb hr (Or.inr ⟨_, rfl⟩) (Or.inr ⟨_, rfl⟩) (fun t ht hW => ⟨⟨(q9, f9), rfl, by rw [ht]; exact hP, by rw [hAe]; exact hD, hu⟩, by rw [hAe]; exact hS.F ht⟩) hS.2.2 d_ARRS_copyOf_0_9
end
section
abbrev b_AL_grow_1 : ByteArray := prog_21_method_6_code
def y_AL_grow_1 : MethodName := ⟨R_AL, "grow", "(I)[Ljava/lang/Object;"⟩
def w_AL_grow_1 : List Cond := .code y_AL_grow_1 b_AL_grow_1 4 (some (.array (.object "java/lang/Object"))) :: lwG
theorem d_AL_grow_1_0 : decode b_AL_grow_1 0 = .ok (.aload_n 0, 1) := by decide +kernel
theorem d_AL_grow_1_1 : decode b_AL_grow_1 1 = .ok (.getfield 9, 3) := by decide +kernel
theorem d_AL_grow_1_4 : decode b_AL_grow_1 4 = .ok (.arraylength, 1) := by decide +kernel
theorem d_AL_grow_1_5 : decode b_AL_grow_1 5 = .ok (.istore_n 2, 1) := by decide +kernel
theorem d_AL_grow_1_6 : decode b_AL_grow_1 6 = .ok (.iload_n 2, 1) := by decide +kernel
theorem d_AL_grow_1_7 : decode b_AL_grow_1 7 = .ok (.ifCond .gt 13, 3) := by decide +kernel
theorem d_AL_grow_1_10 : decode b_AL_grow_1 10 = .ok (.aload_n 0, 1) := by decide +kernel
theorem d_AL_grow_1_11 : decode b_AL_grow_1 11 = .ok (.getfield 9, 3) := by decide +kernel
theorem d_AL_grow_1_14 : decode b_AL_grow_1 14 = .ok (.getstatic 39, 3) := by decide +kernel
theorem d_AL_grow_1_17 : decode b_AL_grow_1 17 = .ok (.if_acmp .eq 28, 3) := by decide +kernel
theorem d_AL_grow_1_20 : decode b_AL_grow_1 20 = .ok (.iload_n 2, 1) := by decide +kernel
theorem d_AL_grow_1_21 : decode b_AL_grow_1 21 = .ok (.iload_n 1, 1) := by decide +kernel
theorem d_AL_grow_1_22 : decode b_AL_grow_1 22 = .ok (.iload_n 2, 1) := by decide +kernel
theorem d_AL_grow_1_23 : decode b_AL_grow_1 23 = .ok (.isub, 1) := by decide +kernel
theorem d_AL_grow_1_24 : decode b_AL_grow_1 24 = .ok (.iload_n 2, 1) := by decide +kernel
theorem d_AL_grow_1_25 : decode b_AL_grow_1 25 = .ok (.iconst 1, 1) := by decide +kernel
theorem d_AL_grow_1_26 : decode b_AL_grow_1 26 = .ok (.ishr, 1) := by decide +kernel
theorem d_AL_grow_1_27 : decode b_AL_grow_1 27 = .ok (.invokestatic 73, 3) := by decide +kernel
theorem d_AL_grow_1_30 : decode b_AL_grow_1 30 = .ok (.istore_n 3, 1) := by decide +kernel
theorem d_AL_grow_1_31 : decode b_AL_grow_1 31 = .ok (.aload_n 0, 1) := by decide +kernel
theorem d_AL_grow_1_32 : decode b_AL_grow_1 32 = .ok (.aload_n 0, 1) := by decide +kernel
theorem d_AL_grow_1_33 : decode b_AL_grow_1 33 = .ok (.getfield 9, 3) := by decide +kernel
theorem d_AL_grow_1_36 : decode b_AL_grow_1 36 = .ok (.iload_n 3, 1) := by decide +kernel
theorem d_AL_grow_1_37 : decode b_AL_grow_1 37 = .ok (.invokestatic 66, 3) := by decide +kernel
theorem d_AL_grow_1_40 : decode b_AL_grow_1 40 = .ok (.dup_x1, 1) := by decide +kernel
theorem d_AL_grow_1_41 : decode b_AL_grow_1 41 = .ok (.putfield 9, 3) := by decide +kernel
theorem d_AL_grow_1_44 : decode b_AL_grow_1 44 = .ok (.areturn, 1) := by decide +kernel
theorem d_AL_grow_1_45 : decode b_AL_grow_1 45 = .ok (.aload_n 0, 1) := by decide +kernel
theorem d_AL_grow_1_46 : decode b_AL_grow_1 46 = .ok (.bipush 10, 2) := by decide +kernel
theorem d_AL_grow_1_48 : decode b_AL_grow_1 48 = .ok (.iload_n 1, 1) := by decide +kernel
theorem d_AL_grow_1_49 : decode b_AL_grow_1 49 = .ok (.invokestatic 79, 3) := by decide +kernel
theorem d_AL_grow_1_52 : decode b_AL_grow_1 52 = .ok (.anewarray 7, 3) := by decide +kernel
theorem d_AL_grow_1_55 : decode b_AL_grow_1 55 = .ok (.dup_x1, 1) := by decide +kernel
theorem d_AL_grow_1_56 : decode b_AL_grow_1 56 = .ok (.putfield 9, 3) := by decide +kernel
theorem d_AL_grow_1_59 : decode b_AL_grow_1 59 = .ok (.areturn, 1) := by decide +kernel
end
section
set_option maxHeartbeats 4000000 in
set_option maxRecDepth 100000 in
theorem c_grow1A (l : Launch) (G : GG) (sz : Nat) (e0 mi0 : Nat) (h0 : Nat) (mo : Int32) (els : List Nat)  : Met l y_AL_grow_1 w_AL_grow_1 ({ frames := 1, cells := 1, slots := 22, locals := 14 }) (va_Pc [.ref h0, .int (nI 1)] (PwX G sz e0 mi0 els [(h0, .inr (1, [.int mo, .ref e0, .int (nI 0)]))])) (QA (S := Nat × (Nat → Option Nat)) G (fun u => some (.ref u.1)) [(h0, .inr (1, [.int mo, .ref e0, .int (nI 0)]))] (fun u => [(h0, .inr (1, [.int mo, .ref u.1, .int (nI 0)])), (u.1, .inl (G.2 0, 10, .inr (.inr (.inr (.inr u.2)))))]) (fun _ => True) sz) 1 22 (va_A [(h0, .inr (1, [.int mo, .ref e0, .int (nI 0)]))] sz) := by
  refine Met.ofW (cc := b_AL_grow_1) (maxL := 4) (ret := (some (.array (.object "java/lang/Object")))) (by decide) rfl ?_
  intro p e s m args below meth c s₁ B hml hv
  obtain ⟨rfl, ⟨hsz, hP, hGK, hD0⟩, hX⟩ := hv
  have hx := B.exec
  have hb := B.bytes
  have hr := B.returns
  have hts := atoms_spec (ws := w_AL_grow_1) B.pre
  have hT : ∀ w ∈ lwG, w.before _ s = true := fun w h => hts w (List.mem_cons_of_mem _ h)
  have hown : s.vm.findClass R_AL = some m.cls := findClass_of_methodNamed B.named
  have hlocks := B.notSynchronized
  have hK := hGK.1
  have hN := hGK.2
  subst hsz
  have hD := hD0.self (sz := s.heap.size)
  generalize hAe : va_A [(h0, .inr (1, [.int mo, .ref e0, .int (nI 0)]))] s.heap.size = A at hD hX ⊢
  have hA : ∀ q : Nat, s.heap.size ≤ q → A q := fun q h => by rw [← hAe]; exact Or.inr h
  have hS : va_S A s.heap s.heap [] := va_S.rf
  have hP : va_P G.1 vwCl [(h0, .inr (1, [.int mo, .ref e0, .int (nI 0)]))] s.heap := hP
  have hl := lv_entry ([.ref h0, .int (nI 1)]) (n := 4) (Nat.le_of_ble_eq_true rfl)
  rw [lg_entry_eq]
  generalize (lg_sl ([.ref h0, .int (nI 1)]) ++ List.replicate (4 - (lg_sl ([.ref h0, .int (nI 1)])).length) Slot.unset).toArray = ls at hl ⊢
  have hl : lv_has ls 4 [(0, .ref h0), (1, .int (nI 1))] := hl
  refine lv_aload_n hx hb d_AL_grow_1_0 rfl (lv_at hl 0 rfl) ?_
  refine va_get (D := G.1) (ci := 1) (v := .ref e0) (C := R_AL) (T := T_AL) (N := 3) hx hb hT in_AL hown hK hP 0 rfl rfl 1 (by decide) (hT _ wd_87) (fun _ h9 => h9) rfl d_AL_grow_1_1 ?_
  refine va_tlen (v := 0) hx hb hX.1.2.1 hS (by decide) d_AL_grow_1_4 ?_
  refine lv_istore_n (lv' := [(2, .int 0), (0, .ref h0), (1, .int (nI 1))]) hx hb d_AL_grow_1_5 rfl hl (by decide) rfl (fun ls hl => ?_)
  refine lv_iload_n hx hb d_AL_grow_1_6 rfl (lv_at hl 0 rfl) ?_
  refine lv_if_gt (tgt := 20) hx hb d_AL_grow_1_7 (by decide) (fun c_7 => ?_) (fun c_7 => ?_)
  · exact absurd c_7 (by decide)
  · refine lv_aload_n hx hb d_AL_grow_1_10 rfl (lv_at hl 1 rfl) ?_
    refine va_get (D := G.1) (ci := 1) (v := .ref e0) (C := R_AL) (T := T_AL) (N := 3) hx hb hT in_AL hown hK hP 0 rfl rfl 1 (by decide) (hT _ wd_87) (fun _ h9 => h9) rfl d_AL_grow_1_11 ?_
    refine va_gets (A := A) hx hb hX.1.1 hS hown (hT _ wd_85) (fun _ h9 => h9) d_AL_grow_1_14 ?_
    refine lv_acmp_eq (rx := some e0) (ry := some e0) (tgt := 45) hx hb d_AL_grow_1_17 (by decide) (fun _ => ?_) (fun c_17 => absurd rfl c_17)
    refine lv_aload_n hx hb d_AL_grow_1_45 rfl (lv_at hl 1 rfl) ?_
    refine lv_bipush (v := 10) hx hb d_AL_grow_1_46 (by decide) ?_
    refine lv_iload_n hx hb d_AL_grow_1_48 rfl (lv_at hl 2 rfl) ?_
    refine va_mmax hx hb (hml.trans hl.1.symm) hown (hT _ wd_244) (hT _ wd_210) (hT _ wd_54) (hT _ wd_211) (Nat.le_of_ble_eq_true rfl) (Nat.le_of_ble_eq_true rfl) (Nat.zero_le _) (Nat.zero_le _) d_AL_grow_1_49 ?_
    refine W.eq (g2 := F0 m 52 ls (.int 10 :: [.ref h0])) (by rw [show (if (10 : Int32) < nI 1 then nI 1 else 10) = 10 from by decide]) ?_
    refine va_newq (N' := 10) hx hb hown (hT _ wd_245) hX.1.2.2.2.2 hK hP hD hS hA (by decide) (by decide) (by decide) (Nat.le_of_ble_eq_true rfl) (Nat.le_of_ble_eq_true rfl) d_AL_grow_1_52 (fun q_52 cA H hK9 hP hD hS => ?_)
    obtain rfl : cA = G.2 0 := bx_cA hK9 (i := 0) (j := 5) rfl rfl
    have hP : va_P G.1 vwCl [(h0, .inr (1, [.int mo, .ref e0, .int (nI 0)])), (q_52, .inl (G.2 0, 10, .inr (.inr (.inr (.inr (fun _ => none))))))] H := hP
    have hD : va_D A [(h0, .inr (1, [.int mo, .ref e0, .int (nI 0)])), (q_52, .inl (G.2 0, 10, .inr (.inr (.inr (.inr (fun _ => none))))))] := hD
    refine lv_dup_x1 hx hb d_AL_grow_1_55 rfl rfl ?_
    refine va_put (D := G.1) (ci := 1) (v := .ref q_52) (ty := .array (.object "java/lang/Object")) (C := R_AL) (T := T_AL) (N := 3) hx hb hT in_AL t_AL tok_AL nok_AL hown hK hP hD hS 0 rfl rfl 1 (by decide) (hT _ wd_87) (fun _ h9 => h9) rfl (by decide +kernel) rfl rfl (Nat.le_of_ble_eq_true rfl) d_AL_grow_1_56 (fun H locs hP hD hS => ?_)
    have hP : va_P G.1 vwCl [(h0, .inr (1, [.int mo, .ref q_52, .int (nI 0)])), (q_52, .inl (G.2 0, 10, .inr (.inr (.inr (.inr (fun _ => none))))))] H := hP
    have hD : va_D A [(h0, .inr (1, [.int mo, .ref q_52, .int (nI 0)])), (q_52, .inl (G.2 0, 10, .inr (.inr (.inr (.inr (fun _ => none))))))] := hD
    refine W.widen (k := 1) (n := 22) (Nat.le_of_ble_eq_true rfl) (Nat.le_of_ble_eq_true rfl) ?_
    exact W.aret (v := .ref q_52) hx hb hr (Or.inr ⟨_, rfl⟩) (Or.inr ⟨_, rfl⟩) (fun t ht hW => ⟨⟨(q_52, fun _ => none), rfl, by rw [ht]; exact hP, by rw [hAe]; exact hD, trivial⟩, by rw [hAe]; exact hS.F ht⟩) hS.2.2 d_AL_grow_1_59
set_option maxHeartbeats 4000000 in
set_option maxRecDepth 100000 in
theorem c_grow1C (l : Launch) (G : GG) (sz : Nat) (e0 mi0 : Nat) (h0 : Nat) (ed : Nat) (mo : Int32) (cap : Nat) (c2 : Nat) (f : Nat → Option Nat) (els : List Nat) (hcc : (cap = 10 ∧ c2 = 15) ∨ (cap = 15 ∧ c2 = 22)) (hf : ∀ i, i < cap → ∀ y, f i = some y → y ∈ els) : Met l y_AL_grow_1 w_AL_grow_1 ({ frames := 3, cells := 1, slots := 22, locals := 74 }) (va_Pc [.ref h0, .int (nI (cap + 1))] (PwX G sz e0 mi0 els [(h0, .inr (1, [.int mo, .ref ed, .int (nI cap)])), (ed, .inl (G.2 0, cap, .inr (.inr (.inr (.inr f)))))])) (QA (S := Nat × (Nat → Option Nat)) G (fun u => some (.ref u.1)) [(h0, .inr (1, [.int mo, .ref ed, .int (nI cap)])), (ed, .inl (G.2 0, cap, .inr (.inr (.inr (.inr f)))))] (fun u => [(h0, .inr (1, [.int mo, .ref u.1, .int (nI cap)])), (u.1, .inl (G.2 0, c2, .inr (.inr (.inr (.inr u.2)))))]) (fun u => ∀ i, i < cap → u.2 i = f i) sz) 1 22 (va_A [(h0, .inr (1, [.int mo, .ref ed, .int (nI cap)])), (ed, .inl (G.2 0, cap, .inr (.inr (.inr (.inr f)))))] sz) := by
  refine Met.ofW (cc := b_AL_grow_1) (maxL := 4) (ret := (some (.array (.object "java/lang/Object")))) (by decide) rfl ?_
  intro p e s m args below meth c s₁ B hml hv
  obtain ⟨rfl, ⟨hsz, hP, hGK, hD0⟩, hX⟩ := hv
  have hx := B.exec
  have hb := B.bytes
  have hr := B.returns
  have hts := atoms_spec (ws := w_AL_grow_1) B.pre
  have hT : ∀ w ∈ lwG, w.before _ s = true := fun w h => hts w (List.mem_cons_of_mem _ h)
  have hown : s.vm.findClass R_AL = some m.cls := findClass_of_methodNamed B.named
  have hlocks := B.notSynchronized
  have hK := hGK.1
  have hN := hGK.2
  subst hsz
  have hD := hD0.self (sz := s.heap.size)
  generalize hAe : va_A [(h0, .inr (1, [.int mo, .ref ed, .int (nI cap)])), (ed, .inl (G.2 0, cap, .inr (.inr (.inr (.inr f)))))] s.heap.size = A at hD hX ⊢
  have hA : ∀ q : Nat, s.heap.size ≤ q → A q := fun q h => by rw [← hAe]; exact Or.inr h
  have hS : va_S A s.heap s.heap [] := va_S.rf
  have hP : va_P G.1 vwCl [(h0, .inr (1, [.int mo, .ref ed, .int (nI cap)])), (ed, .inl (G.2 0, cap, .inr (.inr (.inr (.inr f)))))] s.heap := hP
  have hl := lv_entry ([.ref h0, .int (nI (cap + 1))]) (n := 4) (Nat.le_of_ble_eq_true rfl)
  rw [lg_entry_eq]
  generalize (lg_sl ([.ref h0, .int (nI (cap + 1))]) ++ List.replicate (4 - (lg_sl ([.ref h0, .int (nI (cap + 1))])).length) Slot.unset).toArray = ls at hl ⊢
  have hl : lv_has ls 4 [(0, .ref h0), (1, .int (nI (cap + 1)))] := hl
  have hcap : cap ≤ 15 := by omega
  have hnl : nI cap + (if nI (cap + 1) - nI cap < nI cap >>> ((1 : Int32) &&& 31) then nI cap >>> ((1 : Int32) &&& 31) else nI (cap + 1) - nI cap) = nI c2 := by rcases hcc with ⟨rfl, rfl⟩ | ⟨rfl, rfl⟩ <;> decide
  have hn1 : ¬ nI cap + (if nI (cap + 1) - nI cap < nI cap >>> ((1 : Int32) &&& 31) then nI cap >>> ((1 : Int32) &&& 31) else nI (cap + 1) - nI cap) ≤ 0 := by rw [hnl]; exact nI_nle (by omega) (by omega)
  have hn2 : ¬ 2147483639 < nI cap + (if nI (cap + 1) - nI cap < nI cap >>> ((1 : Int32) &&& 31) then nI cap >>> ((1 : Int32) &&& 31) else nI (cap + 1) - nI cap) := by rw [hnl]; exact nI_nlt (a := 2147483639) (b := c2) (by omega) (by decide)
  refine lv_aload_n hx hb d_AL_grow_1_0 rfl (lv_at hl 0 rfl) ?_
  refine va_get (D := G.1) (ci := 1) (v := .ref ed) (C := R_AL) (T := T_AL) (N := 3) hx hb hT in_AL hown hK hP 0 rfl rfl 1 (by decide) (hT _ wd_87) (fun _ h9 => h9) rfl d_AL_grow_1_1 ?_
  refine va_alen (v := nI cap) hx hb hK hP 1 0 rfl rfl rfl d_AL_grow_1_4 ?_
  refine lv_istore_n (lv' := [(2, .int (nI cap)), (0, .ref h0), (1, .int (nI (cap + 1)))]) hx hb d_AL_grow_1_5 rfl hl (by decide) rfl (fun ls hl => ?_)
  refine lv_iload_n hx hb d_AL_grow_1_6 rfl (lv_at hl 0 rfl) ?_
  refine lv_if_gt (tgt := 20) hx hb d_AL_grow_1_7 (by decide) (fun c_7 => ?_) (fun c_7 => ?_)
  · refine lv_iload_n hx hb d_AL_grow_1_20 rfl (lv_at hl 0 rfl) ?_
    refine lv_iload_n hx hb d_AL_grow_1_21 rfl (lv_at hl 2 rfl) ?_
    refine lv_iload_n hx hb d_AL_grow_1_22 rfl (lv_at hl 0 rfl) ?_
    refine lv_isub hx hb d_AL_grow_1_23 ?_
    refine lv_iload_n hx hb d_AL_grow_1_24 rfl (lv_at hl 0 rfl) ?_
    refine lv_iconst (v := 1) hx hb d_AL_grow_1_25 (by decide) ?_
    refine lv_ishr hx hb d_AL_grow_1_26 ?_
    refine bx_callV (W.runS (As := [.int (nI cap), .int ((nI (cap + 1)) - (nI cap)), .int ((nI cap) >>> ((1 : Int32) &&& 31))]) (rest := []) ⟨hx, hb, hml, hown, hts⟩ (c_newLength l G (nI cap) ((nI (cap + 1)) - (nI cap)) ((nI cap) >>> ((1 : Int32) &&& 31)) hn1 hn2) ⟨(callB_of 3 hts (gi_all wd_208) rfl rfl rfl (hT _ wd_53) (hT _ wd_206) (by decide +kernel) ⟨Nat.le_of_ble_eq_true rfl, Nat.le_of_ble_eq_true rfl⟩), (hT _ wd_207)⟩ (psR bx_nil hGK) rfl rfl hl.1 rfl (lv_room (Nat.le_of_ble_eq_true rfl)) d_AL_grow_1_27 ⟨Nat.le_of_ble_eq_true rfl, Nat.le_of_ble_eq_true rfl⟩) ?_
    refine W.eq (g2 := F0 m 30 ls [.int (nI c2)]) (by rw [hnl]) ?_
    refine lv_istore_n (lv' := [(3, .int (nI c2)), (2, .int (nI cap)), (0, .ref h0), (1, .int (nI (cap + 1)))]) hx hb d_AL_grow_1_30 rfl hl (by decide) rfl (fun ls hl => ?_)
    refine lv_aload_n hx hb d_AL_grow_1_31 rfl (lv_at hl 2 rfl) ?_
    refine lv_aload_n hx hb d_AL_grow_1_32 rfl (lv_at hl 2 rfl) ?_
    refine va_get (D := G.1) (ci := 1) (v := .ref ed) (C := R_AL) (T := T_AL) (N := 3) hx hb hT in_AL hown hK hP 0 rfl rfl 1 (by decide) (hT _ wd_87) (fun _ h9 => h9) rfl d_AL_grow_1_33 ?_
    refine lv_iload_n hx hb d_AL_grow_1_36 rfl (lv_at hl 0 rfl) ?_
    have hpm : ([(h0, .inr (1, [.int mo, .ref ed, .int (nI cap)])), (ed, .inl (G.2 0, cap, .inr (.inr (.inr (.inr f)))))] : va_W).Perm ([(ed, .inl (G.2 0, cap, .inr (.inr (.inr (.inr f)))))] ++ [(h0, .inr (1, [.int mo, .ref ed, .int (nI cap)]))]) := List.Perm.swap _ _ _
    have hPc := bx_PR hpm hP
    have hDc := bx_DR hpm hD
    have hXc : XE e0 mi0 els (va_A [(ed, .inl (G.2 0, cap, .inr (.inr (.inr (.inr f)))))] s.heap.size) s s.heap := (hX.kept hS.2.1).narrow (bx_freeR hpm hD hS hA)
    refine bx_callA (va_runS (As := [.ref ed, .int (nI c2)]) (rest := [.ref h0]) ⟨hx, hb, hml, hown, hts⟩ (c_copyOf2 l G s.heap.size e0 mi0 ed cap c2 f els (by omega) (by omega) hf) ⟨(callB_of 2 hts (gi_all wd_218) rfl rfl rfl (hT _ wd_55) (hT _ wd_216) (by decide +kernel) ⟨Nat.le_of_ble_eq_true rfl, Nat.le_of_ble_eq_true rfl⟩), (hT _ wd_217)⟩ (psX hPc hGK hDc hXc) rfl rfl hl.1 rfl (lv_room (Nat.le_of_ble_eq_true rfl)) d_AL_grow_1_37 ⟨Nat.le_of_ble_eq_true rfl, Nat.le_of_ble_eq_true rfl⟩) hpm hP hD hS hA (fun u H locs hu hP hD hS => ?_)
    obtain ⟨q9, f9⟩ := u
    have hP : va_P G.1 vwCl [(ed, .inl (G.2 0, cap, .inr (.inr (.inr (.inr f))))), (q9, .inl (G.2 0, c2, .inr (.inr (.inr (.inr f9))))), (h0, .inr (1, [.int mo, .ref ed, .int (nI cap)]))] H := hP
    have hD : va_D A [(ed, .inl (G.2 0, cap, .inr (.inr (.inr (.inr f))))), (q9, .inl (G.2 0, c2, .inr (.inr (.inr (.inr f9))))), (h0, .inr (1, [.int mo, .ref ed, .int (nI cap)]))] := hD
    refine W.eq (g2 := F0 m 40 ls [.ref q9, .ref h0]) rfl ?_
    refine lv_dup_x1 hx hb d_AL_grow_1_40 rfl rfl ?_
    refine va_put (D := G.1) (ci := 1) (v := .ref q9) (ty := .array (.object "java/lang/Object")) (C := R_AL) (T := T_AL) (N := 3) hx hb hT in_AL t_AL tok_AL nok_AL hown hK hP hD hS 2 rfl rfl 1 (by decide) (hT _ wd_87) (fun _ h9 => h9) rfl (by decide +kernel) rfl rfl (Nat.le_of_ble_eq_true rfl) d_AL_grow_1_41 (fun H locs hP hD hS => ?_)
    have hP : va_P G.1 vwCl [(ed, .inl (G.2 0, cap, .inr (.inr (.inr (.inr f))))), (q9, .inl (G.2 0, c2, .inr (.inr (.inr (.inr f9))))), (h0, .inr (1, [.int mo, .ref q9, .int (nI cap)]))] H := hP
    have hD : va_D A [(ed, .inl (G.2 0, cap, .inr (.inr (.inr (.inr f))))), (q9, .inl (G.2 0, c2, .inr (.inr (.inr (.inr f9))))), (h0, .inr (1, [.int mo, .ref q9, .int (nI cap)]))] := hD
    have hP := hP.sub (ws' := [(h0, .inr (1, [.int mo, .ref q9, .int (nI cap)])), (q9, .inl (G.2 0, c2, .inr (.inr (.inr (.inr f9)))))]) [2, 1] rfl
    have hD := hD.sub (ws' := [(h0, .inr (1, [.int mo, .ref q9, .int (nI cap)])), (q9, .inl (G.2 0, c2, .inr (.inr (.inr (.inr f9)))))]) [2, 1] (by decide) rfl
    refine W.widen (k := 1) (n := 22) (Nat.le_of_ble_eq_true rfl) (Nat.le_of_ble_eq_true rfl) ?_
    exact W.aret (v := .ref q9) hx hb hr (Or.inr ⟨_, rfl⟩) (Or.inr ⟨_, rfl⟩) (fun t ht hW => ⟨⟨(q9, f9), rfl, by rw [ht]; exact hP, by rw [hAe]; exact hD, hu⟩, by rw [hAe]; exact hS.F ht⟩) hS.2.2 d_AL_grow_1_44
  · exact absurd (nI_lt (a := 0) (b := cap) (by omega) (by omega)) c_7
end
section
abbrev b_AL_grow_0 : ByteArray := prog_21_method_7_code
def y_AL_grow_0 : MethodName := ⟨R_AL, "grow", "()[Ljava/lang/Object;"⟩
def w_AL_grow_0 : List Cond := .code y_AL_grow_0 b_AL_grow_0 1 (some (.array (.object "java/lang/Object"))) :: lwG
theorem d_AL_grow_0_0 : decode b_AL_grow_0 0 = .ok (.aload_n 0, 1) := by decide +kernel
theorem d_AL_grow_0_1 : decode b_AL_grow_0 1 = .ok (.aload_n 0, 1) := by decide +kernel
theorem d_AL_grow_0_2 : decode b_AL_grow_0 2 = .ok (.getfield 48, 3) := by decide +kernel
theorem d_AL_grow_0_5 : decode b_AL_grow_0 5 = .ok (.iconst 1, 1) := by decide +kernel
theorem d_AL_grow_0_6 : decode b_AL_grow_0 6 = .ok (.iadd, 1) := by decide +kernel
theorem d_AL_grow_0_7 : decode b_AL_grow_0 7 = .ok (.invokevirtual 69, 3) := by decide +kernel
theorem d_AL_grow_0_10 : decode b_AL_grow_0 10 = .ok (.areturn, 1) := by decide +kernel
end
section
set_option maxHeartbeats 4000000 in
set_option maxRecDepth 100000 in
theorem c_grow0A (l : Launch) (G : GG) (sz : Nat) (e0 mi0 : Nat) (h0 : Nat) (mo : Int32) (els : List Nat)  : Met l y_AL_grow_0 w_AL_grow_0 ({ frames := 2, cells := 1, slots := 22, locals := 37 }) (va_Pc [.ref h0] (PwX G sz e0 mi0 els [(h0, .inr (1, [.int mo, .ref e0, .int (nI 0)]))])) (QA (S := Nat × (Nat → Option Nat)) G (fun u => some (.ref u.1)) [(h0, .inr (1, [.int mo, .ref e0, .int (nI 0)]))] (fun u => [(h0, .inr (1, [.int mo, .ref u.1, .int (nI 0)])), (u.1, .inl (G.2 0, 10, .inr (.inr (.inr (.inr u.2)))))]) (fun _ => True) sz) 1 22 (va_A [(h0, .inr (1, [.int mo, .ref e0, .int (nI 0)]))] sz) := by
  refine Met.ofW (cc := b_AL_grow_0) (maxL := 1) (ret := (some (.array (.object "java/lang/Object")))) (by decide) rfl ?_
  intro p e s m args below meth c s₁ B hml hv
  obtain ⟨rfl, ⟨hsz, hP, hGK, hD0⟩, hX⟩ := hv
  have hx := B.exec
  have hb := B.bytes
  have hr := B.returns
  have hts := atoms_spec (ws := w_AL_grow_0) B.pre
  have hT : ∀ w ∈ lwG, w.before _ s = true := fun w h => hts w (List.mem_cons_of_mem _ h)
  have hown : s.vm.findClass R_AL = some m.cls := findClass_of_methodNamed B.named
  have hlocks := B.notSynchronized
  have hK := hGK.1
  have hN := hGK.2
  subst hsz
  have hD := hD0.self (sz := s.heap.size)
  generalize hAe : va_A [(h0, .inr (1, [.int mo, .ref e0, .int (nI 0)]))] s.heap.size = A at hD hX ⊢
  have hA : ∀ q : Nat, s.heap.size ≤ q → A q := fun q h => by rw [← hAe]; exact Or.inr h
  have hS : va_S A s.heap s.heap [] := va_S.rf
  have hP : va_P G.1 vwCl [(h0, .inr (1, [.int mo, .ref e0, .int (nI 0)]))] s.heap := hP
  have hl := lv_entry ([.ref h0]) (n := 1) (Nat.le_of_ble_eq_true rfl)
  rw [lg_entry_eq]
  generalize (lg_sl ([.ref h0]) ++ List.replicate (1 - (lg_sl ([.ref h0])).length) Slot.unset).toArray = ls at hl ⊢
  have hl : lv_has ls 1 [(0, .ref h0)] := hl
  refine lv_aload_n hx hb d_AL_grow_0_0 rfl (lv_at hl 0 rfl) ?_
  refine lv_aload_n hx hb d_AL_grow_0_1 rfl (lv_at hl 0 rfl) ?_
  refine va_get (D := G.1) (ci := 1) (v := .int (nI 0)) (C := R_AL) (T := T_AL) (N := 3) hx hb hT in_AL hown hK hP 0 rfl rfl 2 (by decide) (hT _ wd_88) (fun _ h9 => h9) rfl d_AL_grow_0_2 ?_
  refine lv_iconst (v := 1) hx hb d_AL_grow_0_5 (by decide) ?_
  refine lv_iadd hx hb d_AL_grow_0_6 ?_
  refine W.eq (g2 := F0 m 7 ls [.int (nI 1), .ref h0]) (by rw [nI_1]) ?_
  have hpm : ([(h0, .inr (1, [.int mo, .ref e0, .int (nI 0)]))] : va_W).Perm ([(h0, .inr (1, [.int mo, .ref e0, .int (nI 0)]))] ++ []) := List.Perm.refl _
  have hPc := bx_PR hpm hP
  have hDc := bx_DR hpm hD
  have hXc : XE e0 mi0 els (va_A [(h0, .inr (1, [.int mo, .ref e0, .int (nI 0)]))] s.heap.size) s s.heap := (hX.kept hS.2.1).narrow (bx_freeR hpm hD hS hA)
  refine bx_callA (va_runV (As := [.int (nI 1)]) (rest := []) ⟨hx, hb, hml, hown, hts⟩ (c_grow1A l G s.heap.size e0 mi0 h0 mo els) ⟨(callB_of 1 hts (gi_all wd_205) rfl rfl rfl (hT _ wd_48) (hT _ wd_202) (by decide +kernel) ⟨Nat.le_of_ble_eq_true rfl, Nat.le_of_ble_eq_true rfl⟩), (hT _ wd_204), (hT _ wd_2)⟩ (pvX hPc hGK hDc hXc (va_recv hK hPc (ci := 1) (q0 := 0) rfl rfl)) rfl rfl hl.1 rfl (lv_room (Nat.le_of_ble_eq_true rfl)) d_AL_grow_0_7 ⟨Nat.le_of_ble_eq_true rfl, Nat.le_of_ble_eq_true rfl⟩) hpm hP hD hS hA (fun u H locs hu hP hD hS => ?_)
  obtain ⟨q9, f9⟩ := u
  have hP : va_P G.1 vwCl [(h0, .inr (1, [.int mo, .ref q9, .int (nI 0)])), (q9, .inl (G.2 0, 10, .inr (.inr (.inr (.inr f9)))))] H := hP
  have hD : va_D A [(h0, .inr (1, [.int mo, .ref q9, .int (nI 0)])), (q9, .inl (G.2 0, 10, .inr (.inr (.inr (.inr f9)))))] := hD
  refine W.eq (g2 := F0 m 10 ls [.ref q9]) rfl ?_
  refine W.widen (k := 1) (n := 22) (Nat.le_of_ble_eq_true rfl) (Nat.le_of_ble_eq_true rfl) ?_
  exact W.aret (v := .ref q9) hx hb hr (Or.inr ⟨_, rfl⟩) (Or.inr ⟨_, rfl⟩) (fun t ht hW => ⟨⟨(q9, f9), rfl, by rw [ht]; exact hP, by rw [hAe]; exact hD, hu⟩, by rw [hAe]; exact hS.F ht⟩) hS.2.2 d_AL_grow_0_10
set_option maxHeartbeats 4000000 in
set_option maxRecDepth 100000 in
theorem c_grow0C (l : Launch) (G : GG) (sz : Nat) (e0 mi0 : Nat) (h0 : Nat) (ed : Nat) (mo : Int32) (cap : Nat) (c2 : Nat) (f : Nat → Option Nat) (els : List Nat) (hcc : (cap = 10 ∧ c2 = 15) ∨ (cap = 15 ∧ c2 = 22)) (hf : ∀ i, i < cap → ∀ y, f i = some y → y ∈ els) : Met l y_AL_grow_0 w_AL_grow_0 ({ frames := 4, cells := 1, slots := 22, locals := 97 }) (va_Pc [.ref h0] (PwX G sz e0 mi0 els [(h0, .inr (1, [.int mo, .ref ed, .int (nI cap)])), (ed, .inl (G.2 0, cap, .inr (.inr (.inr (.inr f)))))])) (QA (S := Nat × (Nat → Option Nat)) G (fun u => some (.ref u.1)) [(h0, .inr (1, [.int mo, .ref ed, .int (nI cap)])), (ed, .inl (G.2 0, cap, .inr (.inr (.inr (.inr f)))))] (fun u => [(h0, .inr (1, [.int mo, .ref u.1, .int (nI cap)])), (u.1, .inl (G.2 0, c2, .inr (.inr (.inr (.inr u.2)))))]) (fun u => ∀ i, i < cap → u.2 i = f i) sz) 1 22 (va_A [(h0, .inr (1, [.int mo, .ref ed, .int (nI cap)])), (ed, .inl (G.2 0, cap, .inr (.inr (.inr (.inr f)))))] sz) := by
  refine Met.ofW (cc := b_AL_grow_0) (maxL := 1) (ret := (some (.array (.object "java/lang/Object")))) (by decide) rfl ?_
  intro p e s m args below meth c s₁ B hml hv
  obtain ⟨rfl, ⟨hsz, hP, hGK, hD0⟩, hX⟩ := hv
  have hx := B.exec
  have hb := B.bytes
  have hr := B.returns
  have hts := atoms_spec (ws := w_AL_grow_0) B.pre
  have hT : ∀ w ∈ lwG, w.before _ s = true := fun w h => hts w (List.mem_cons_of_mem _ h)
  have hown : s.vm.findClass R_AL = some m.cls := findClass_of_methodNamed B.named
  have hlocks := B.notSynchronized
  have hK := hGK.1
  have hN := hGK.2
  subst hsz
  have hD := hD0.self (sz := s.heap.size)
  generalize hAe : va_A [(h0, .inr (1, [.int mo, .ref ed, .int (nI cap)])), (ed, .inl (G.2 0, cap, .inr (.inr (.inr (.inr f)))))] s.heap.size = A at hD hX ⊢
  have hA : ∀ q : Nat, s.heap.size ≤ q → A q := fun q h => by rw [← hAe]; exact Or.inr h
  have hS : va_S A s.heap s.heap [] := va_S.rf
  have hP : va_P G.1 vwCl [(h0, .inr (1, [.int mo, .ref ed, .int (nI cap)])), (ed, .inl (G.2 0, cap, .inr (.inr (.inr (.inr f)))))] s.heap := hP
  have hl := lv_entry ([.ref h0]) (n := 1) (Nat.le_of_ble_eq_true rfl)
  rw [lg_entry_eq]
  generalize (lg_sl ([.ref h0]) ++ List.replicate (1 - (lg_sl ([.ref h0])).length) Slot.unset).toArray = ls at hl ⊢
  have hl : lv_has ls 1 [(0, .ref h0)] := hl
  refine lv_aload_n hx hb d_AL_grow_0_0 rfl (lv_at hl 0 rfl) ?_
  refine lv_aload_n hx hb d_AL_grow_0_1 rfl (lv_at hl 0 rfl) ?_
  refine va_get (D := G.1) (ci := 1) (v := .int (nI cap)) (C := R_AL) (T := T_AL) (N := 3) hx hb hT in_AL hown hK hP 0 rfl rfl 2 (by decide) (hT _ wd_88) (fun _ h9 => h9) rfl d_AL_grow_0_2 ?_
  refine lv_iconst (v := 1) hx hb d_AL_grow_0_5 (by decide) ?_
  refine lv_iadd hx hb d_AL_grow_0_6 ?_
  refine W.eq (g2 := F0 m 7 ls [.int (nI (cap + 1)), .ref h0]) (by rw [nI_1]) ?_
  have hpm : ([(h0, .inr (1, [.int mo, .ref ed, .int (nI cap)])), (ed, .inl (G.2 0, cap, .inr (.inr (.inr (.inr f)))))] : va_W).Perm ([(h0, .inr (1, [.int mo, .ref ed, .int (nI cap)])), (ed, .inl (G.2 0, cap, .inr (.inr (.inr (.inr f)))))] ++ []) := List.Perm.refl _
  have hPc := bx_PR hpm hP
  have hDc := bx_DR hpm hD
  have hXc : XE e0 mi0 els (va_A [(h0, .inr (1, [.int mo, .ref ed, .int (nI cap)])), (ed, .inl (G.2 0, cap, .inr (.inr (.inr (.inr f)))))] s.heap.size) s s.heap := (hX.kept hS.2.1).narrow (bx_freeR hpm hD hS hA)
  refine bx_callA (va_runV (As := [.int (nI (cap + 1))]) (rest := []) ⟨hx, hb, hml, hown, hts⟩ (c_grow1C l G s.heap.size e0 mi0 h0 ed mo cap c2 f els hcc hf) ⟨(callB_of 1 hts (gi_all wd_205) rfl rfl rfl (hT _ wd_48) (hT _ wd_202) (by decide +kernel) ⟨Nat.le_of_ble_eq_true rfl, Nat.le_of_ble_eq_true rfl⟩), (hT _ wd_204), (hT _ wd_2)⟩ (pvX hPc hGK hDc hXc (va_recv hK hPc (ci := 1) (q0 := 0) rfl rfl)) rfl rfl hl.1 rfl (lv_room (Nat.le_of_ble_eq_true rfl)) d_AL_grow_0_7 ⟨Nat.le_of_ble_eq_true rfl, Nat.le_of_ble_eq_true rfl⟩) hpm hP hD hS hA (fun u H locs hu hP hD hS => ?_)
  obtain ⟨q9, f9⟩ := u
  have hP : va_P G.1 vwCl [(h0, .inr (1, [.int mo, .ref q9, .int (nI cap)])), (q9, .inl (G.2 0, c2, .inr (.inr (.inr (.inr f9)))))] H := hP
  have hD : va_D A [(h0, .inr (1, [.int mo, .ref q9, .int (nI cap)])), (q9, .inl (G.2 0, c2, .inr (.inr (.inr (.inr f9)))))] := hD
  refine W.eq (g2 := F0 m 10 ls [.ref q9]) rfl ?_
  refine W.widen (k := 1) (n := 22) (Nat.le_of_ble_eq_true rfl) (Nat.le_of_ble_eq_true rfl) ?_
  exact W.aret (v := .ref q9) hx hb hr (Or.inr ⟨_, rfl⟩) (Or.inr ⟨_, rfl⟩) (fun t ht hW => ⟨⟨(q9, f9), rfl, by rw [ht]; exact hP, by rw [hAe]; exact hD, hu⟩, by rw [hAe]; exact hS.F ht⟩) hS.2.2 d_AL_grow_0_10
end
section
abbrev b_AL_add_1 : ByteArray := prog_21_method_24_code
def y_AL_add_1 : MethodName := ⟨R_AL, "add", "(Ljava/lang/Object;[Ljava/lang/Object;I)V"⟩
def w_AL_add_1 : List Cond := .code y_AL_add_1 b_AL_add_1 4 none :: lwG
theorem d_AL_add_1_0 : decode b_AL_add_1 0 = .ok (.iload_n 3, 1) := by decide +kernel
theorem d_AL_add_1_1 : decode b_AL_add_1 1 = .ok (.aload_n 2, 1) := by decide +kernel
theorem d_AL_add_1_2 : decode b_AL_add_1 2 = .ok (.arraylength, 1) := by decide +kernel
theorem d_AL_add_1_3 : decode b_AL_add_1 3 = .ok (.if_icmp .ne 8, 3) := by decide +kernel
theorem d_AL_add_1_6 : decode b_AL_add_1 6 = .ok (.aload_n 0, 1) := by decide +kernel
theorem d_AL_add_1_7 : decode b_AL_add_1 7 = .ok (.invokevirtual 129, 3) := by decide +kernel
theorem d_AL_add_1_10 : decode b_AL_add_1 10 = .ok (.astore_n 2, 1) := by decide +kernel
theorem d_AL_add_1_11 : decode b_AL_add_1 11 = .ok (.aload_n 2, 1) := by decide +kernel
theorem d_AL_add_1_12 : decode b_AL_add_1 12 = .ok (.iload_n 3, 1) := by decide +kernel
theorem d_AL_add_1_13 : decode b_AL_add_1 13 = .ok (.aload_n 1, 1) := by decide +kernel
theorem d_AL_add_1_14 : decode b_AL_add_1 14 = .ok (.aastore, 1) := by decide +kernel
theorem d_AL_add_1_15 : decode b_AL_add_1 15 = .ok (.aload_n 0, 1) := by decide +kernel
theorem d_AL_add_1_16 : decode b_AL_add_1 16 = .ok (.iload_n 3, 1) := by decide +kernel
theorem d_AL_add_1_17 : decode b_AL_add_1 17 = .ok (.iconst 1, 1) := by decide +kernel
theorem d_AL_add_1_18 : decode b_AL_add_1 18 = .ok (.iadd, 1) := by decide +kernel
theorem d_AL_add_1_19 : decode b_AL_add_1 19 = .ok (.putfield 48, 3) := by decide +kernel
theorem d_AL_add_1_22 : decode b_AL_add_1 22 = .ok (.return_, 1) := by decide +kernel
end
section
set_option maxHeartbeats 4000000 in
set_option maxRecDepth 100000 in
theorem c_add3A (l : Launch) (G : GG) (sz : Nat) (e0 mi0 : Nat) (h0 : Nat) (mo : Int32) (els : List Nat) (q : Nat) (hq : q ∈ els) : Met l y_AL_add_1 w_AL_add_1 ({ frames := 3, cells := 1, slots := 22, locals := 57 }) (va_Pc [.ref h0, .ref q, .ref e0, .int (nI 0)] (PwX G sz e0 mi0 els [(h0, .inr (1, [.int mo, .ref e0, .int (nI 0)]))])) (QA (S := Nat × (Nat → Option Nat)) G (fun _ => none) [(h0, .inr (1, [.int mo, .ref e0, .int (nI 0)]))] (fun u => [(h0, .inr (1, [.int mo, .ref u.1, .int (nI (0 + 1))])), (u.1, .inl (G.2 0, 10, .inr (.inr (.inr (.inr u.2)))))]) (fun u => u.2 0 = some q) sz) 1 22 (va_A [(h0, .inr (1, [.int mo, .ref e0, .int (nI 0)]))] sz) := by
  refine Met.ofW (cc := b_AL_add_1) (maxL := 4) (ret := none) (by decide) rfl ?_
  intro p e s m args below meth c s₁ B hml hv
  obtain ⟨rfl, ⟨hsz, hP, hGK, hD0⟩, hX⟩ := hv
  have hx := B.exec
  have hb := B.bytes
  have hr := B.returns
  have hts := atoms_spec (ws := w_AL_add_1) B.pre
  have hT : ∀ w ∈ lwG, w.before _ s = true := fun w h => hts w (List.mem_cons_of_mem _ h)
  have hown : s.vm.findClass R_AL = some m.cls := findClass_of_methodNamed B.named
  have hlocks := B.notSynchronized
  have hK := hGK.1
  have hN := hGK.2
  subst hsz
  have hD := hD0.self (sz := s.heap.size)
  generalize hAe : va_A [(h0, .inr (1, [.int mo, .ref e0, .int (nI 0)]))] s.heap.size = A at hD hX ⊢
  have hA : ∀ q : Nat, s.heap.size ≤ q → A q := fun q h => by rw [← hAe]; exact Or.inr h
  have hS : va_S A s.heap s.heap [] := va_S.rf
  have hP : va_P G.1 vwCl [(h0, .inr (1, [.int mo, .ref e0, .int (nI 0)]))] s.heap := hP
  have hl := lv_entry ([.ref h0, .ref q, .ref e0, .int (nI 0)]) (n := 4) (Nat.le_of_ble_eq_true rfl)
  rw [lg_entry_eq]
  generalize (lg_sl ([.ref h0, .ref q, .ref e0, .int (nI 0)]) ++ List.replicate (4 - (lg_sl ([.ref h0, .ref q, .ref e0, .int (nI 0)])).length) Slot.unset).toArray = ls at hl ⊢
  have hl : lv_has ls 4 [(0, .ref h0), (1, .ref q), (2, .ref e0), (3, .int (nI 0))] := hl
  refine lv_iload_n hx hb d_AL_add_1_0 rfl (lv_at hl 3 rfl) ?_
  refine lv_aload_n hx hb d_AL_add_1_1 rfl (lv_at hl 2 rfl) ?_
  refine va_tlen (v := 0) hx hb hX.1.2.1 hS (by decide) d_AL_add_1_2 ?_
  refine lv_icmp_ne (tgt := 11) hx hb d_AL_add_1_3 (by decide) (fun c_3 => ?_) (fun c_3 => ?_)
  · exact absurd nI_0 c_3
  · refine lv_aload_n hx hb d_AL_add_1_6 rfl (lv_at hl 0 rfl) ?_
    have hpm : ([(h0, .inr (1, [.int mo, .ref e0, .int (nI 0)]))] : va_W).Perm ([(h0, .inr (1, [.int mo, .ref e0, .int (nI 0)]))] ++ []) := List.Perm.refl _
    have hPc := bx_PR hpm hP
    have hDc := bx_DR hpm hD
    have hXc : XE e0 mi0 els (va_A [(h0, .inr (1, [.int mo, .ref e0, .int (nI 0)]))] s.heap.size) s s.heap := (hX.kept hS.2.1).narrow (bx_freeR hpm hD hS hA)
    refine bx_callA (va_runV (As := []) (rest := []) ⟨hx, hb, hml, hown, hts⟩ (c_grow0A l G s.heap.size e0 mi0 h0 mo els) ⟨(callB_of 0 hts (gi_all wd_201) rfl rfl rfl (hT _ wd_48) (hT _ wd_198) (by decide +kernel) ⟨Nat.le_of_ble_eq_true rfl, Nat.le_of_ble_eq_true rfl⟩), (hT _ wd_200), (hT _ wd_1)⟩ (pvX hPc hGK hDc hXc (va_recv hK hPc (ci := 1) (q0 := 0) rfl rfl)) rfl rfl hl.1 rfl (lv_room (Nat.le_of_ble_eq_true rfl)) d_AL_add_1_7 ⟨Nat.le_of_ble_eq_true rfl, Nat.le_of_ble_eq_true rfl⟩) hpm hP hD hS hA (fun u H locs hu hP hD hS => ?_)
    obtain ⟨q9, f9⟩ := u
    have hP : va_P G.1 vwCl [(h0, .inr (1, [.int mo, .ref q9, .int (nI 0)])), (q9, .inl (G.2 0, 10, .inr (.inr (.inr (.inr f9)))))] H := hP
    have hD : va_D A [(h0, .inr (1, [.int mo, .ref q9, .int (nI 0)])), (q9, .inl (G.2 0, 10, .inr (.inr (.inr (.inr f9)))))] := hD
    refine W.eq (g2 := F0 m 10 ls [.ref q9]) rfl ?_
    refine lv_astore_n (lv' := [(2, .ref q9), (0, .ref h0), (1, .ref q), (3, .int (nI 0))]) hx hb d_AL_add_1_10 rfl hl (by decide) rfl (fun ls hl => ?_)
    refine lv_aload_n hx hb d_AL_add_1_11 rfl (lv_at hl 0 rfl) ?_
    refine lv_iload_n hx hb d_AL_add_1_12 rfl (lv_at hl 3 rfl) ?_
    refine lv_aload_n hx hb d_AL_add_1_13 rfl (lv_at hl 2 rfl) ?_
    refine va_astqM hx hb hK hP hD hS 1 0 (E := "java/lang/Object") rfl rfl ((hX.kept hS.2.1).2 q hq).1 (vp_in_nI (by omega) (by omega)) d_AL_add_1_14 (fun H locs hP hD hS => ?_)
    rw [nI_clamp (by omega)] at hP hD
    have hP : va_P G.1 vwCl [(h0, .inr (1, [.int mo, .ref q9, .int (nI 0)])), (q9, .inl (G.2 0, 10, .inr (.inr (.inr (.inr (va_up f9 0 (some q)))))))] H := hP
    have hD : va_D A [(h0, .inr (1, [.int mo, .ref q9, .int (nI 0)])), (q9, .inl (G.2 0, 10, .inr (.inr (.inr (.inr (va_up f9 0 (some q)))))))] := hD
    refine lv_aload_n hx hb d_AL_add_1_15 rfl (lv_at hl 1 rfl) ?_
    refine lv_iload_n hx hb d_AL_add_1_16 rfl (lv_at hl 3 rfl) ?_
    refine lv_iconst (v := 1) hx hb d_AL_add_1_17 (by decide) ?_
    refine lv_iadd hx hb d_AL_add_1_18 ?_
    refine W.eq (g2 := F0 m 19 ls [.int (nI (0 + 1)), .ref h0]) (by rw [nI_1]) ?_
    refine va_put (D := G.1) (ci := 1) (v := .int (nI (0 + 1))) (ty := .int) (C := R_AL) (T := T_AL) (N := 3) hx hb hT in_AL t_AL tok_AL nok_AL hown hK hP hD hS 0 rfl rfl 2 (by decide) (hT _ wd_88) (fun _ h9 => h9) rfl (by decide +kernel) rfl rfl (Nat.le_of_ble_eq_true rfl) d_AL_add_1_19 (fun H locs hP hD hS => ?_)
    have hP : va_P G.1 vwCl [(h0, .inr (1, [.int mo, .ref q9, .int (nI (0 + 1))])), (q9, .inl (G.2 0, 10, .inr (.inr (.inr (.inr (va_up f9 0 (some q)))))))] H := hP
    have hD : va_D A [(h0, .inr (1, [.int mo, .ref q9, .int (nI (0 + 1))])), (q9, .inl (G.2 0, 10, .inr (.inr (.inr (.inr (va_up f9 0 (some q)))))))] := hD
    refine W.widen (k := 1) (n := 22) (Nat.le_of_ble_eq_true rfl) (Nat.le_of_ble_eq_true rfl) ?_
    exact W.vret hx hb hr (fun t ht hW => ⟨⟨(q9, va_up f9 0 (some q)), rfl, by rw [ht]; exact hP, by rw [hAe]; exact hD, show va_up f9 0 (some q) 0 = some q from va_up_self _ _ _⟩, by rw [hAe]; exact hS.F ht⟩) hS.2.2 d_AL_add_1_22
set_option maxHeartbeats 4000000 in
set_option maxRecDepth 100000 in
theorem c_add3B (l : Launch) (G : GG) (sz : Nat) (e0 mi0 : Nat) (h0 : Nat) (ed : Nat) (mo : Int32) (n : Nat) (cap : Nat) (f : Nat → Option Nat) (els : List Nat) (q : Nat) (hnc : n < cap) (hcap : cap ≤ 22) (hq : q ∈ els) : Met l y_AL_add_1 w_AL_add_1 ({ frames := 0, cells := 1, slots := 22, locals := 0 }) (va_Pc [.ref h0, .ref q, .ref ed, .int (nI n)] (PwX G sz e0 mi0 els [(h0, .inr (1, [.int mo, .ref ed, .int (nI n)])), (ed, .inl (G.2 0, cap, .inr (.inr (.inr (.inr f)))))])) (QA (S := Nat × (Nat → Option Nat)) G (fun _ => none) [(h0, .inr (1, [.int mo, .ref ed, .int (nI n)])), (ed, .inl (G.2 0, cap, .inr (.inr (.inr (.inr f)))))] (fun u => [(h0, .inr (1, [.int mo, .ref u.1, .int (nI (n + 1))])), (u.1, .inl (G.2 0, cap, .inr (.inr (.inr (.inr u.2)))))]) (fun u => (∀ i, i < n → u.2 i = f i) ∧ u.2 n = some q) sz) 1 22 (va_A [(h0, .inr (1, [.int mo, .ref ed, .int (nI n)])), (ed, .inl (G.2 0, cap, .inr (.inr (.inr (.inr f)))))] sz) := by
  refine Met.ofW (cc := b_AL_add_1) (maxL := 4) (ret := none) (by decide) rfl ?_
  intro p e s m args below meth c s₁ B hml hv
  obtain ⟨rfl, ⟨hsz, hP, hGK, hD0⟩, hX⟩ := hv
  have hx := B.exec
  have hb := B.bytes
  have hr := B.returns
  have hts := atoms_spec (ws := w_AL_add_1) B.pre
  have hT : ∀ w ∈ lwG, w.before _ s = true := fun w h => hts w (List.mem_cons_of_mem _ h)
  have hown : s.vm.findClass R_AL = some m.cls := findClass_of_methodNamed B.named
  have hlocks := B.notSynchronized
  have hK := hGK.1
  have hN := hGK.2
  subst hsz
  have hD := hD0.self (sz := s.heap.size)
  generalize hAe : va_A [(h0, .inr (1, [.int mo, .ref ed, .int (nI n)])), (ed, .inl (G.2 0, cap, .inr (.inr (.inr (.inr f)))))] s.heap.size = A at hD hX ⊢
  have hA : ∀ q : Nat, s.heap.size ≤ q → A q := fun q h => by rw [← hAe]; exact Or.inr h
  have hS : va_S A s.heap s.heap [] := va_S.rf
  have hP : va_P G.1 vwCl [(h0, .inr (1, [.int mo, .ref ed, .int (nI n)])), (ed, .inl (G.2 0, cap, .inr (.inr (.inr (.inr f)))))] s.heap := hP
  have hl := lv_entry ([.ref h0, .ref q, .ref ed, .int (nI n)]) (n := 4) (Nat.le_of_ble_eq_true rfl)
  rw [lg_entry_eq]
  generalize (lg_sl ([.ref h0, .ref q, .ref ed, .int (nI n)]) ++ List.replicate (4 - (lg_sl ([.ref h0, .ref q, .ref ed, .int (nI n)])).length) Slot.unset).toArray = ls at hl ⊢
  have hl : lv_has ls 4 [(0, .ref h0), (1, .ref q), (2, .ref ed), (3, .int (nI n))] := hl
  refine lv_iload_n hx hb d_AL_add_1_0 rfl (lv_at hl 3 rfl) ?_
  refine lv_aload_n hx hb d_AL_add_1_1 rfl (lv_at hl 2 rfl) ?_
  refine va_alen (v := nI cap) hx hb hK hP 1 0 rfl rfl rfl d_AL_add_1_2 ?_
  refine lv_icmp_ne (tgt := 11) hx hb d_AL_add_1_3 (by decide) (fun c_3 => ?_) (fun c_3 => ?_)
  · refine lv_aload_n hx hb d_AL_add_1_11 rfl (lv_at hl 2 rfl) ?_
    refine lv_iload_n hx hb d_AL_add_1_12 rfl (lv_at hl 3 rfl) ?_
    refine lv_aload_n hx hb d_AL_add_1_13 rfl (lv_at hl 1 rfl) ?_
    refine va_astqM hx hb hK hP hD hS 1 0 (E := "java/lang/Object") rfl rfl ((hX.kept hS.2.1).2 q hq).1 (vp_in_nI (by omega) (by omega)) d_AL_add_1_14 (fun H locs hP hD hS => ?_)
    rw [nI_clamp (by omega)] at hP hD
    have hP : va_P G.1 vwCl [(h0, .inr (1, [.int mo, .ref ed, .int (nI n)])), (ed, .inl (G.2 0, cap, .inr (.inr (.inr (.inr (va_up f n (some q)))))))] H := hP
    have hD : va_D A [(h0, .inr (1, [.int mo, .ref ed, .int (nI n)])), (ed, .inl (G.2 0, cap, .inr (.inr (.inr (.inr (va_up f n (some q)))))))] := hD
    refine lv_aload_n hx hb d_AL_add_1_15 rfl (lv_at hl 0 rfl) ?_
    refine lv_iload_n hx hb d_AL_add_1_16 rfl (lv_at hl 3 rfl) ?_
    refine lv_iconst (v := 1) hx hb d_AL_add_1_17 (by decide) ?_
    refine lv_iadd hx hb d_AL_add_1_18 ?_
    refine W.eq (g2 := F0 m 19 ls [.int (nI (n + 1)), .ref h0]) (by rw [nI_1]) ?_
    refine va_put (D := G.1) (ci := 1) (v := .int (nI (n + 1))) (ty := .int) (C := R_AL) (T := T_AL) (N := 3) hx hb hT in_AL t_AL tok_AL nok_AL hown hK hP hD hS 0 rfl rfl 2 (by decide) (hT _ wd_88) (fun _ h9 => h9) rfl (by decide +kernel) rfl rfl (Nat.le_of_ble_eq_true rfl) d_AL_add_1_19 (fun H locs hP hD hS => ?_)
    have hP : va_P G.1 vwCl [(h0, .inr (1, [.int mo, .ref ed, .int (nI (n + 1))])), (ed, .inl (G.2 0, cap, .inr (.inr (.inr (.inr (va_up f n (some q)))))))] H := hP
    have hD : va_D A [(h0, .inr (1, [.int mo, .ref ed, .int (nI (n + 1))])), (ed, .inl (G.2 0, cap, .inr (.inr (.inr (.inr (va_up f n (some q)))))))] := hD
    refine W.widen (k := 1) (n := 22) (Nat.le_of_ble_eq_true rfl) (Nat.le_of_ble_eq_true rfl) ?_
    exact W.vret hx hb hr (fun t ht hW => ⟨⟨(ed, va_up f n (some q)), rfl, by rw [ht]; exact hP, by rw [hAe]; exact hD, ⟨fun i hi => va_up_ne _ _ (by omega), va_up_self _ _ _⟩⟩, by rw [hAe]; exact hS.F ht⟩) hS.2.2 d_AL_add_1_22
  · exact absurd ((nI_eq (by omega) (by omega)).mp c_3) (by omega)
set_option maxHeartbeats 4000000 in
set_option maxRecDepth 100000 in
theorem c_add3C (l : Launch) (G : GG) (sz : Nat) (e0 mi0 : Nat) (h0 : Nat) (ed : Nat) (mo : Int32) (cap : Nat) (c2 : Nat) (f : Nat → Option Nat) (els : List Nat) (q : Nat) (hcc : (cap = 10 ∧ c2 = 15) ∨ (cap = 15 ∧ c2 = 22)) (hf : ∀ i, i < cap → ∀ y, f i = some y → y ∈ els) (hq : q ∈ els) : Met l y_AL_add_1 w_AL_add_1 ({ frames := 5, cells := 1, slots := 22, locals := 117 }) (va_Pc [.ref h0, .ref q, .ref ed, .int (nI cap)] (PwX G sz e0 mi0 els [(h0, .inr (1, [.int mo, .ref ed, .int (nI cap)])), (ed, .inl (G.2 0, cap, .inr (.inr (.inr (.inr f)))))])) (QA (S := Nat × (Nat → Option Nat)) G (fun _ => none) [(h0, .inr (1, [.int mo, .ref ed, .int (nI cap)])), (ed, .inl (G.2 0, cap, .inr (.inr (.inr (.inr f)))))] (fun u => [(h0, .inr (1, [.int mo, .ref u.1, .int (nI (cap + 1))])), (u.1, .inl (G.2 0, c2, .inr (.inr (.inr (.inr u.2)))))]) (fun u => (∀ i, i < cap → u.2 i = f i) ∧ u.2 cap = some q) sz) 1 22 (va_A [(h0, .inr (1, [.int mo, .ref ed, .int (nI cap)])), (ed, .inl (G.2 0, cap, .inr (.inr (.inr (.inr f)))))] sz) := by
  refine Met.ofW (cc := b_AL_add_1) (maxL := 4) (ret := none) (by decide) rfl ?_
  intro p e s m args below meth c s₁ B hml hv
  obtain ⟨rfl, ⟨hsz, hP, hGK, hD0⟩, hX⟩ := hv
  have hx := B.exec
  have hb := B.bytes
  have hr := B.returns
  have hts := atoms_spec (ws := w_AL_add_1) B.pre
  have hT : ∀ w ∈ lwG, w.before _ s = true := fun w h => hts w (List.mem_cons_of_mem _ h)
  have hown : s.vm.findClass R_AL = some m.cls := findClass_of_methodNamed B.named
  have hlocks := B.notSynchronized
  have hK := hGK.1
  have hN := hGK.2
  subst hsz
  have hD := hD0.self (sz := s.heap.size)
  generalize hAe : va_A [(h0, .inr (1, [.int mo, .ref ed, .int (nI cap)])), (ed, .inl (G.2 0, cap, .inr (.inr (.inr (.inr f)))))] s.heap.size = A at hD hX ⊢
  have hA : ∀ q : Nat, s.heap.size ≤ q → A q := fun q h => by rw [← hAe]; exact Or.inr h
  have hS : va_S A s.heap s.heap [] := va_S.rf
  have hP : va_P G.1 vwCl [(h0, .inr (1, [.int mo, .ref ed, .int (nI cap)])), (ed, .inl (G.2 0, cap, .inr (.inr (.inr (.inr f)))))] s.heap := hP
  have hl := lv_entry ([.ref h0, .ref q, .ref ed, .int (nI cap)]) (n := 4) (Nat.le_of_ble_eq_true rfl)
  rw [lg_entry_eq]
  generalize (lg_sl ([.ref h0, .ref q, .ref ed, .int (nI cap)]) ++ List.replicate (4 - (lg_sl ([.ref h0, .ref q, .ref ed, .int (nI cap)])).length) Slot.unset).toArray = ls at hl ⊢
  have hl : lv_has ls 4 [(0, .ref h0), (1, .ref q), (2, .ref ed), (3, .int (nI cap))] := hl
  refine lv_iload_n hx hb d_AL_add_1_0 rfl (lv_at hl 3 rfl) ?_
  refine lv_aload_n hx hb d_AL_add_1_1 rfl (lv_at hl 2 rfl) ?_
  refine va_alen (v := nI cap) hx hb hK hP 1 0 rfl rfl rfl d_AL_add_1_2 ?_
  refine lv_icmp_ne (tgt := 11) hx hb d_AL_add_1_3 (by decide) (fun c_3 => ?_) (fun c_3 => ?_)
  · exact absurd rfl c_3
  · refine lv_aload_n hx hb d_AL_add_1_6 rfl (lv_at hl 0 rfl) ?_
    have hpm : ([(h0, .inr (1, [.int mo, .ref ed, .int (nI cap)])), (ed, .inl (G.2 0, cap, .inr (.inr (.inr (.inr f)))))] : va_W).Perm ([(h0, .inr (1, [.int mo, .ref ed, .int (nI cap)])), (ed, .inl (G.2 0, cap, .inr (.inr (.inr (.inr f)))))] ++ []) := List.Perm.refl _
    have hPc := bx_PR hpm hP
    have hDc := bx_DR hpm hD
    have hXc : XE e0 mi0 els (va_A [(h0, .inr (1, [.int mo, .ref ed, .int (nI cap)])), (ed, .inl (G.2 0, cap, .inr (.inr (.inr (.inr f)))))] s.heap.size) s s.heap := (hX.kept hS.2.1).narrow (bx_freeR hpm hD hS hA)
    refine bx_callA (va_runV (As := []) (rest := []) ⟨hx, hb, hml, hown, hts⟩ (c_grow0C l G s.heap.size e0 mi0 h0 ed mo cap c2 f els hcc hf) ⟨(callB_of 0 hts (gi_all wd_201) rfl rfl rfl (hT _ wd_48) (hT _ wd_198) (by decide +kernel) ⟨Nat.le_of_ble_eq_true rfl, Nat.le_of_ble_eq_true rfl⟩), (hT _ wd_200), (hT _ wd_1)⟩ (pvX hPc hGK hDc hXc (va_recv hK hPc (ci := 1) (q0 := 0) rfl rfl)) rfl rfl hl.1 rfl (lv_room (Nat.le_of_ble_eq_true rfl)) d_AL_add_1_7 ⟨Nat.le_of_ble_eq_true rfl, Nat.le_of_ble_eq_true rfl⟩) hpm hP hD hS hA (fun u H locs hu hP hD hS => ?_)
    obtain ⟨q9, f9⟩ := u
    have hP : va_P G.1 vwCl [(h0, .inr (1, [.int mo, .ref q9, .int (nI cap)])), (q9, .inl (G.2 0, c2, .inr (.inr (.inr (.inr f9)))))] H := hP
    have hD : va_D A [(h0, .inr (1, [.int mo, .ref q9, .int (nI cap)])), (q9, .inl (G.2 0, c2, .inr (.inr (.inr (.inr f9)))))] := hD
    refine W.eq (g2 := F0 m 10 ls [.ref q9]) rfl ?_
    refine lv_astore_n (lv' := [(2, .ref q9), (0, .ref h0), (1, .ref q), (3, .int (nI cap))]) hx hb d_AL_add_1_10 rfl hl (by decide) rfl (fun ls hl => ?_)
    refine lv_aload_n hx hb d_AL_add_1_11 rfl (lv_at hl 0 rfl) ?_
    refine lv_iload_n hx hb d_AL_add_1_12 rfl (lv_at hl 3 rfl) ?_
    refine lv_aload_n hx hb d_AL_add_1_13 rfl (lv_at hl 2 rfl) ?_
    refine va_astqM hx hb hK hP hD hS 1 0 (E := "java/lang/Object") rfl rfl ((hX.kept hS.2.1).2 q hq).1 (vp_in_nI (by omega) (by omega)) d_AL_add_1_14 (fun H locs hP hD hS => ?_)
    rw [nI_clamp (by omega)] at hP hD
    have hP : va_P G.1 vwCl [(h0, .inr (1, [.int mo, .ref q9, .int (nI cap)])), (q9, .inl (G.2 0, c2, .inr (.inr (.inr (.inr (va_up f9 cap (some q)))))))] H := hP
    have hD : va_D A [(h0, .inr (1, [.int mo, .ref q9, .int (nI cap)])), (q9, .inl (G.2 0, c2, .inr (.inr (.inr (.inr (va_up f9 cap (some q)))))))] := hD
    refine lv_aload_n hx hb d_AL_add_1_15 rfl (lv_at hl 1 rfl) ?_
    refine lv_iload_n hx hb d_AL_add_1_16 rfl (lv_at hl 3 rfl) ?_
    refine lv_iconst (v := 1) hx hb d_AL_add_1_17 (by decide) ?_
    refine lv_iadd hx hb d_AL_add_1_18 ?_
    refine W.eq (g2 := F0 m 19 ls [.int (nI (cap + 1)), .ref h0]) (by rw [nI_1]) ?_
    refine va_put (D := G.1) (ci := 1) (v := .int (nI (cap + 1))) (ty := .int) (C := R_AL) (T := T_AL) (N := 3) hx hb hT in_AL t_AL tok_AL nok_AL hown hK hP hD hS 0 rfl rfl 2 (by decide) (hT _ wd_88) (fun _ h9 => h9) rfl (by decide +kernel) rfl rfl (Nat.le_of_ble_eq_true rfl) d_AL_add_1_19 (fun H locs hP hD hS => ?_)
    have hP : va_P G.1 vwCl [(h0, .inr (1, [.int mo, .ref q9, .int (nI (cap + 1))])), (q9, .inl (G.2 0, c2, .inr (.inr (.inr (.inr (va_up f9 cap (some q)))))))] H := hP
    have hD : va_D A [(h0, .inr (1, [.int mo, .ref q9, .int (nI (cap + 1))])), (q9, .inl (G.2 0, c2, .inr (.inr (.inr (.inr (va_up f9 cap (some q)))))))] := hD
    refine W.widen (k := 1) (n := 22) (Nat.le_of_ble_eq_true rfl) (Nat.le_of_ble_eq_true rfl) ?_
    exact W.vret hx hb hr (fun t ht hW => ⟨⟨(q9, va_up f9 cap (some q)), rfl, by rw [ht]; exact hP, by rw [hAe]; exact hD, ⟨fun i hi => (va_up_ne _ _ (by omega)).trans (hu i hi), va_up_self _ _ _⟩⟩, by rw [hAe]; exact hS.F ht⟩) hS.2.2 d_AL_add_1_22
end
section
abbrev b_AL_add_0 : ByteArray := prog_21_method_25_code
def y_AL_add_0 : MethodName := ⟨R_AL, "add", "(Ljava/lang/Object;)Z"⟩
def w_AL_add_0 : List Cond := .code y_AL_add_0 b_AL_add_0 2 (some .boolean) :: lwG
theorem d_AL_add_0_0 : decode b_AL_add_0 0 = .ok (.aload_n 0, 1) := by decide +kernel
theorem d_AL_add_0_1 : decode b_AL_add_0 1 = .ok (.dup, 1) := by decide +kernel
theorem d_AL_add_0_2 : decode b_AL_add_0 2 = .ok (.getfield 63, 3) := by decide +kernel
theorem d_AL_add_0_5 : decode b_AL_add_0 5 = .ok (.iconst 1, 1) := by decide +kernel
theorem d_AL_add_0_6 : decode b_AL_add_0 6 = .ok (.iadd, 1) := by decide +kernel
theorem d_AL_add_0_7 : decode b_AL_add_0 7 = .ok (.putfield 63, 3) := by decide +kernel
theorem d_AL_add_0_10 : decode b_AL_add_0 10 = .ok (.aload_n 0, 1) := by decide +kernel
theorem d_AL_add_0_11 : decode b_AL_add_0 11 = .ok (.aload_n 1, 1) := by decide +kernel
theorem d_AL_add_0_12 : decode b_AL_add_0 12 = .ok (.aload_n 0, 1) := by decide +kernel
theorem d_AL_add_0_13 : decode b_AL_add_0 13 = .ok (.getfield 9, 3) := by decide +kernel
theorem d_AL_add_0_16 : decode b_AL_add_0 16 = .ok (.aload_n 0, 1) := by decide +kernel
theorem d_AL_add_0_17 : decode b_AL_add_0 17 = .ok (.getfield 48, 3) := by decide +kernel
theorem d_AL_add_0_20 : decode b_AL_add_0 20 = .ok (.invokevirtual 131, 3) := by decide +kernel
theorem d_AL_add_0_23 : decode b_AL_add_0 23 = .ok (.iconst 1, 1) := by decide +kernel
theorem d_AL_add_0_24 : decode b_AL_add_0 24 = .ok (.ireturn, 1) := by decide +kernel
end
section
set_option maxHeartbeats 4000000 in
set_option maxRecDepth 100000 in
theorem c_add1A (l : Launch) (G : GG) (sz : Nat) (e0 mi0 : Nat) (h0 : Nat) (mo : Int32) (els : List Nat) (q : Nat) (hq : q ∈ els) : Met l y_AL_add_0 w_AL_add_0 ({ frames := 4, cells := 1, slots := 22, locals := 80 }) (va_Pc [.ref h0, .ref q] (PwX G sz e0 mi0 els [(h0, .inr (1, [.int mo, .ref e0, .int (nI 0)]))])) (QA (S := Nat × (Nat → Option Nat)) G (fun _ => some (.int 1)) [(h0, .inr (1, [.int mo, .ref e0, .int (nI 0)]))] (fun u => [(h0, .inr (1, [.int (mo + 1), .ref u.1, .int (nI (0 + 1))])), (u.1, .inl (G.2 0, 10, .inr (.inr (.inr (.inr u.2)))))]) (fun u => u.2 0 = some q) sz) 1 22 (va_A [(h0, .inr (1, [.int mo, .ref e0, .int (nI 0)]))] sz) := by
  refine Met.ofW (cc := b_AL_add_0) (maxL := 2) (ret := (some .boolean)) (by decide) rfl ?_
  intro p e s m args below meth c s₁ B hml hv
  obtain ⟨rfl, ⟨hsz, hP, hGK, hD0⟩, hX⟩ := hv
  have hx := B.exec
  have hb := B.bytes
  have hr := B.returns
  have hts := atoms_spec (ws := w_AL_add_0) B.pre
  have hT : ∀ w ∈ lwG, w.before _ s = true := fun w h => hts w (List.mem_cons_of_mem _ h)
  have hown : s.vm.findClass R_AL = some m.cls := findClass_of_methodNamed B.named
  have hlocks := B.notSynchronized
  have hK := hGK.1
  have hN := hGK.2
  subst hsz
  have hD := hD0.self (sz := s.heap.size)
  generalize hAe : va_A [(h0, .inr (1, [.int mo, .ref e0, .int (nI 0)]))] s.heap.size = A at hD hX ⊢
  have hA : ∀ q : Nat, s.heap.size ≤ q → A q := fun q h => by rw [← hAe]; exact Or.inr h
  have hS : va_S A s.heap s.heap [] := va_S.rf
  have hP : va_P G.1 vwCl [(h0, .inr (1, [.int mo, .ref e0, .int (nI 0)]))] s.heap := hP
  have hl := lv_entry ([.ref h0, .ref q]) (n := 2) (Nat.le_of_ble_eq_true rfl)
  rw [lg_entry_eq]
  generalize (lg_sl ([.ref h0, .ref q]) ++ List.replicate (2 - (lg_sl ([.ref h0, .ref q])).length) Slot.unset).toArray = ls at hl ⊢
  have hl : lv_has ls 2 [(0, .ref h0), (1, .ref q)] := hl
  refine lv_aload_n hx hb d_AL_add_0_0 rfl (lv_at hl 0 rfl) ?_
  refine lv_dup hx hb d_AL_add_0_1 rfl ?_
  refine va_get (D := G.1) (ci := 1) (v := .int mo) (C := R_AL) (T := T_AL) (N := 3) hx hb hT in_AL hown hK hP 0 rfl rfl 0 (by decide) (hT _ wd_90) (u_same (hT _ wd_91)) rfl d_AL_add_0_2 ?_
  refine lv_iconst (v := 1) hx hb d_AL_add_0_5 (by decide) ?_
  refine lv_iadd hx hb d_AL_add_0_6 ?_
  refine va_put (D := G.1) (ci := 1) (v := .int (mo + 1)) (ty := .int) (C := R_AL) (T := T_AL) (N := 3) hx hb hT in_AL t_AL tok_AL nok_AL hown hK hP hD hS 0 rfl rfl 0 (by decide) (hT _ wd_90) (u_same (hT _ wd_91)) rfl (by decide +kernel) rfl rfl (Nat.le_of_ble_eq_true rfl) d_AL_add_0_7 (fun H locs hP hD hS => ?_)
  have hP : va_P G.1 vwCl [(h0, .inr (1, [.int (mo + 1), .ref e0, .int (nI 0)]))] H := hP
  have hD : va_D A [(h0, .inr (1, [.int (mo + 1), .ref e0, .int (nI 0)]))] := hD
  refine lv_aload_n hx hb d_AL_add_0_10 rfl (lv_at hl 0 rfl) ?_
  refine lv_aload_n hx hb d_AL_add_0_11 rfl (lv_at hl 1 rfl) ?_
  refine lv_aload_n hx hb d_AL_add_0_12 rfl (lv_at hl 0 rfl) ?_
  refine va_get (D := G.1) (ci := 1) (v := .ref e0) (C := R_AL) (T := T_AL) (N := 3) hx hb hT in_AL hown hK hP 0 rfl rfl 1 (by decide) (hT _ wd_87) (fun _ h9 => h9) rfl d_AL_add_0_13 ?_
  refine lv_aload_n hx hb d_AL_add_0_16 rfl (lv_at hl 0 rfl) ?_
  refine va_get (D := G.1) (ci := 1) (v := .int (nI 0)) (C := R_AL) (T := T_AL) (N := 3) hx hb hT in_AL hown hK hP 0 rfl rfl 2 (by decide) (hT _ wd_88) (fun _ h9 => h9) rfl d_AL_add_0_17 ?_
  have hpm : ([(h0, .inr (1, [.int (mo + 1), .ref e0, .int (nI 0)]))] : va_W).Perm ([(h0, .inr (1, [.int (mo + 1), .ref e0, .int (nI 0)]))] ++ []) := List.Perm.refl _
  have hPc := bx_PR hpm hP
  have hDc := bx_DR hpm hD
  have hXc : XE e0 mi0 els (va_A [(h0, .inr (1, [.int (mo + 1), .ref e0, .int (nI 0)]))] H.size) s H := (hX.kept hS.2.1).narrow (bx_freeR hpm hD hS hA)
  refine bx_callA (va_runV (As := [.ref q, .ref e0, .int (nI 0)]) (rest := []) ⟨hx, hb, hml, hown, hts⟩ (c_add3A l G H.size e0 mi0 h0 (mo + 1) els q hq) ⟨(callB_of 3 hts (gi_all wd_197) rfl rfl rfl (hT _ wd_48) (hT _ wd_194) (by decide +kernel) ⟨Nat.le_of_ble_eq_true rfl, Nat.le_of_ble_eq_true rfl⟩), (hT _ wd_196), (hT _ wd_0)⟩ (pvX hPc hGK hDc hXc (va_recv hK hPc (ci := 1) (q0 := 0) rfl rfl)) rfl rfl hl.1 rfl (lv_room (Nat.le_of_ble_eq_true rfl)) d_AL_add_0_20 ⟨Nat.le_of_ble_eq_true rfl, Nat.le_of_ble_eq_true rfl⟩) hpm hP hD hS hA (fun u H locs hu hP hD hS => ?_)
  obtain ⟨q9, f9⟩ := u
  have hP : va_P G.1 vwCl [(h0, .inr (1, [.int (mo + 1), .ref q9, .int (nI (0 + 1))])), (q9, .inl (G.2 0, 10, .inr (.inr (.inr (.inr f9)))))] H := hP
  have hD : va_D A [(h0, .inr (1, [.int (mo + 1), .ref q9, .int (nI (0 + 1))])), (q9, .inl (G.2 0, 10, .inr (.inr (.inr (.inr f9)))))] := hD
  refine W.eq (g2 := F0 m 23 ls []) rfl ?_
  refine lv_iconst (v := 1) hx hb d_AL_add_0_23 (by decide) ?_
  refine W.widen (k := 1) (n := 22) (Nat.le_of_ble_eq_true rfl) (Nat.le_of_ble_eq_true rfl) ?_
  exact W.zret (v := 1) hx hb hr rfl (fun t ht hW => ⟨⟨(q9, f9), rfl, by rw [ht]; exact hP, by rw [hAe]; exact hD, hu⟩, by rw [hAe]; exact hS.F ht⟩) hS.2.2 d_AL_add_0_24
set_option maxHeartbeats 4000000 in
set_option maxRecDepth 100000 in
theorem c_add1B (l : Launch) (G : GG) (sz : Nat) (e0 mi0 : Nat) (h0 : Nat) (ed : Nat) (mo : Int32) (n : Nat) (cap : Nat) (f : Nat → Option Nat) (els : List Nat) (q : Nat) (hnc : n < cap) (hcap : cap ≤ 22) (hq : q ∈ els) : Met l y_AL_add_0 w_AL_add_0 ({ frames := 1, cells := 1, slots := 22, locals := 23 }) (va_Pc [.ref h0, .ref q] (PwX G sz e0 mi0 els [(h0, .inr (1, [.int mo, .ref ed, .int (nI n)])), (ed, .inl (G.2 0, cap, .inr (.inr (.inr (.inr f)))))])) (QA (S := Nat × (Nat → Option Nat)) G (fun _ => some (.int 1)) [(h0, .inr (1, [.int mo, .ref ed, .int (nI n)])), (ed, .inl (G.2 0, cap, .inr (.inr (.inr (.inr f)))))] (fun u => [(h0, .inr (1, [.int (mo + 1), .ref u.1, .int (nI (n + 1))])), (u.1, .inl (G.2 0, cap, .inr (.inr (.inr (.inr u.2)))))]) (fun u => (∀ i, i < n → u.2 i = f i) ∧ u.2 n = some q) sz) 1 22 (va_A [(h0, .inr (1, [.int mo, .ref ed, .int (nI n)])), (ed, .inl (G.2 0, cap, .inr (.inr (.inr (.inr f)))))] sz) := by
  refine Met.ofW (cc := b_AL_add_0) (maxL := 2) (ret := (some .boolean)) (by decide) rfl ?_
  intro p e s m args below meth c s₁ B hml hv
  obtain ⟨rfl, ⟨hsz, hP, hGK, hD0⟩, hX⟩ := hv
  have hx := B.exec
  have hb := B.bytes
  have hr := B.returns
  have hts := atoms_spec (ws := w_AL_add_0) B.pre
  have hT : ∀ w ∈ lwG, w.before _ s = true := fun w h => hts w (List.mem_cons_of_mem _ h)
  have hown : s.vm.findClass R_AL = some m.cls := findClass_of_methodNamed B.named
  have hlocks := B.notSynchronized
  have hK := hGK.1
  have hN := hGK.2
  subst hsz
  have hD := hD0.self (sz := s.heap.size)
  generalize hAe : va_A [(h0, .inr (1, [.int mo, .ref ed, .int (nI n)])), (ed, .inl (G.2 0, cap, .inr (.inr (.inr (.inr f)))))] s.heap.size = A at hD hX ⊢
  have hA : ∀ q : Nat, s.heap.size ≤ q → A q := fun q h => by rw [← hAe]; exact Or.inr h
  have hS : va_S A s.heap s.heap [] := va_S.rf
  have hP : va_P G.1 vwCl [(h0, .inr (1, [.int mo, .ref ed, .int (nI n)])), (ed, .inl (G.2 0, cap, .inr (.inr (.inr (.inr f)))))] s.heap := hP
  have hl := lv_entry ([.ref h0, .ref q]) (n := 2) (Nat.le_of_ble_eq_true rfl)
  rw [lg_entry_eq]
  generalize (lg_sl ([.ref h0, .ref q]) ++ List.replicate (2 - (lg_sl ([.ref h0, .ref q])).length) Slot.unset).toArray = ls at hl ⊢
  have hl : lv_has ls 2 [(0, .ref h0), (1, .ref q)] := hl
  refine lv_aload_n hx hb d_AL_add_0_0 rfl (lv_at hl 0 rfl) ?_
  refine lv_dup hx hb d_AL_add_0_1 rfl ?_
  refine va_get (D := G.1) (ci := 1) (v := .int mo) (C := R_AL) (T := T_AL) (N := 3) hx hb hT in_AL hown hK hP 0 rfl rfl 0 (by decide) (hT _ wd_90) (u_same (hT _ wd_91)) rfl d_AL_add_0_2 ?_
  refine lv_iconst (v := 1) hx hb d_AL_add_0_5 (by decide) ?_
  refine lv_iadd hx hb d_AL_add_0_6 ?_
  refine va_put (D := G.1) (ci := 1) (v := .int (mo + 1)) (ty := .int) (C := R_AL) (T := T_AL) (N := 3) hx hb hT in_AL t_AL tok_AL nok_AL hown hK hP hD hS 0 rfl rfl 0 (by decide) (hT _ wd_90) (u_same (hT _ wd_91)) rfl (by decide +kernel) rfl rfl (Nat.le_of_ble_eq_true rfl) d_AL_add_0_7 (fun H locs hP hD hS => ?_)
  have hP : va_P G.1 vwCl [(h0, .inr (1, [.int (mo + 1), .ref ed, .int (nI n)])), (ed, .inl (G.2 0, cap, .inr (.inr (.inr (.inr f)))))] H := hP
  have hD : va_D A [(h0, .inr (1, [.int (mo + 1), .ref ed, .int (nI n)])), (ed, .inl (G.2 0, cap, .inr (.inr (.inr (.inr f)))))] := hD
  refine lv_aload_n hx hb d_AL_add_0_10 rfl (lv_at hl 0 rfl) ?_
  refine lv_aload_n hx hb d_AL_add_0_11 rfl (lv_at hl 1 rfl) ?_
  refine lv_aload_n hx hb d_AL_add_0_12 rfl (lv_at hl 0 rfl) ?_
  refine va_get (D := G.1) (ci := 1) (v := .ref ed) (C := R_AL) (T := T_AL) (N := 3) hx hb hT in_AL hown hK hP 0 rfl rfl 1 (by decide) (hT _ wd_87) (fun _ h9 => h9) rfl d_AL_add_0_13 ?_
  refine lv_aload_n hx hb d_AL_add_0_16 rfl (lv_at hl 0 rfl) ?_
  refine va_get (D := G.1) (ci := 1) (v := .int (nI n)) (C := R_AL) (T := T_AL) (N := 3) hx hb hT in_AL hown hK hP 0 rfl rfl 2 (by decide) (hT _ wd_88) (fun _ h9 => h9) rfl d_AL_add_0_17 ?_
  have hpm : ([(h0, .inr (1, [.int (mo + 1), .ref ed, .int (nI n)])), (ed, .inl (G.2 0, cap, .inr (.inr (.inr (.inr f)))))] : va_W).Perm ([(h0, .inr (1, [.int (mo + 1), .ref ed, .int (nI n)])), (ed, .inl (G.2 0, cap, .inr (.inr (.inr (.inr f)))))] ++ []) := List.Perm.refl _
  have hPc := bx_PR hpm hP
  have hDc := bx_DR hpm hD
  have hXc : XE e0 mi0 els (va_A [(h0, .inr (1, [.int (mo + 1), .ref ed, .int (nI n)])), (ed, .inl (G.2 0, cap, .inr (.inr (.inr (.inr f)))))] H.size) s H := (hX.kept hS.2.1).narrow (bx_freeR hpm hD hS hA)
  refine bx_callA (va_runV (As := [.ref q, .ref ed, .int (nI n)]) (rest := []) ⟨hx, hb, hml, hown, hts⟩ (c_add3B l G H.size e0 mi0 h0 ed (mo + 1) n cap f els q hnc hcap hq) ⟨(callB_of 3 hts (gi_all wd_197) rfl rfl rfl (hT _ wd_48) (hT _ wd_194) (by decide +kernel) ⟨Nat.le_of_ble_eq_true rfl, Nat.le_of_ble_eq_true rfl⟩), (hT _ wd_196), (hT _ wd_0)⟩ (pvX hPc hGK hDc hXc (va_recv hK hPc (ci := 1) (q0 := 0) rfl rfl)) rfl rfl hl.1 rfl (lv_room (Nat.le_of_ble_eq_true rfl)) d_AL_add_0_20 ⟨Nat.le_of_ble_eq_true rfl, Nat.le_of_ble_eq_true rfl⟩) hpm hP hD hS hA (fun u H locs hu hP hD hS => ?_)
  obtain ⟨q9, f9⟩ := u
  have hP : va_P G.1 vwCl [(h0, .inr (1, [.int (mo + 1), .ref q9, .int (nI (n + 1))])), (q9, .inl (G.2 0, cap, .inr (.inr (.inr (.inr f9)))))] H := hP
  have hD : va_D A [(h0, .inr (1, [.int (mo + 1), .ref q9, .int (nI (n + 1))])), (q9, .inl (G.2 0, cap, .inr (.inr (.inr (.inr f9)))))] := hD
  refine W.eq (g2 := F0 m 23 ls []) rfl ?_
  refine lv_iconst (v := 1) hx hb d_AL_add_0_23 (by decide) ?_
  refine W.widen (k := 1) (n := 22) (Nat.le_of_ble_eq_true rfl) (Nat.le_of_ble_eq_true rfl) ?_
  exact W.zret (v := 1) hx hb hr rfl (fun t ht hW => ⟨⟨(q9, f9), rfl, by rw [ht]; exact hP, by rw [hAe]; exact hD, hu⟩, by rw [hAe]; exact hS.F ht⟩) hS.2.2 d_AL_add_0_24
set_option maxHeartbeats 4000000 in
set_option maxRecDepth 100000 in
theorem c_add1C (l : Launch) (G : GG) (sz : Nat) (e0 mi0 : Nat) (h0 : Nat) (ed : Nat) (mo : Int32) (cap : Nat) (c2 : Nat) (f : Nat → Option Nat) (els : List Nat) (q : Nat) (hcc : (cap = 10 ∧ c2 = 15) ∨ (cap = 15 ∧ c2 = 22)) (hf : ∀ i, i < cap → ∀ y, f i = some y → y ∈ els) (hq : q ∈ els) : Met l y_AL_add_0 w_AL_add_0 ({ frames := 6, cells := 1, slots := 22, locals := 140 }) (va_Pc [.ref h0, .ref q] (PwX G sz e0 mi0 els [(h0, .inr (1, [.int mo, .ref ed, .int (nI cap)])), (ed, .inl (G.2 0, cap, .inr (.inr (.inr (.inr f)))))])) (QA (S := Nat × (Nat → Option Nat)) G (fun _ => some (.int 1)) [(h0, .inr (1, [.int mo, .ref ed, .int (nI cap)])), (ed, .inl (G.2 0, cap, .inr (.inr (.inr (.inr f)))))] (fun u => [(h0, .inr (1, [.int (mo + 1), .ref u.1, .int (nI (cap + 1))])), (u.1, .inl (G.2 0, c2, .inr (.inr (.inr (.inr u.2)))))]) (fun u => (∀ i, i < cap → u.2 i = f i) ∧ u.2 cap = some q) sz) 1 22 (va_A [(h0, .inr (1, [.int mo, .ref ed, .int (nI cap)])), (ed, .inl (G.2 0, cap, .inr (.inr (.inr (.inr f)))))] sz) := by
  refine Met.ofW (cc := b_AL_add_0) (maxL := 2) (ret := (some .boolean)) (by decide) rfl ?_
  intro p e s m args below meth c s₁ B hml hv
  obtain ⟨rfl, ⟨hsz, hP, hGK, hD0⟩, hX⟩ := hv
  have hx := B.exec
  have hb := B.bytes
  have hr := B.returns
  have hts := atoms_spec (ws := w_AL_add_0) B.pre
  have hT : ∀ w ∈ lwG, w.before _ s = true := fun w h => hts w (List.mem_cons_of_mem _ h)
  have hown : s.vm.findClass R_AL = some m.cls := findClass_of_methodNamed B.named
  have hlocks := B.notSynchronized
  have hK := hGK.1
  have hN := hGK.2
  subst hsz
  have hD := hD0.self (sz := s.heap.size)
  generalize hAe : va_A [(h0, .inr (1, [.int mo, .ref ed, .int (nI cap)])), (ed, .inl (G.2 0, cap, .inr (.inr (.inr (.inr f)))))] s.heap.size = A at hD hX ⊢
  have hA : ∀ q : Nat, s.heap.size ≤ q → A q := fun q h => by rw [← hAe]; exact Or.inr h
  have hS : va_S A s.heap s.heap [] := va_S.rf
  have hP : va_P G.1 vwCl [(h0, .inr (1, [.int mo, .ref ed, .int (nI cap)])), (ed, .inl (G.2 0, cap, .inr (.inr (.inr (.inr f)))))] s.heap := hP
  have hl := lv_entry ([.ref h0, .ref q]) (n := 2) (Nat.le_of_ble_eq_true rfl)
  rw [lg_entry_eq]
  generalize (lg_sl ([.ref h0, .ref q]) ++ List.replicate (2 - (lg_sl ([.ref h0, .ref q])).length) Slot.unset).toArray = ls at hl ⊢
  have hl : lv_has ls 2 [(0, .ref h0), (1, .ref q)] := hl
  refine lv_aload_n hx hb d_AL_add_0_0 rfl (lv_at hl 0 rfl) ?_
  refine lv_dup hx hb d_AL_add_0_1 rfl ?_
  refine va_get (D := G.1) (ci := 1) (v := .int mo) (C := R_AL) (T := T_AL) (N := 3) hx hb hT in_AL hown hK hP 0 rfl rfl 0 (by decide) (hT _ wd_90) (u_same (hT _ wd_91)) rfl d_AL_add_0_2 ?_
  refine lv_iconst (v := 1) hx hb d_AL_add_0_5 (by decide) ?_
  refine lv_iadd hx hb d_AL_add_0_6 ?_
  refine va_put (D := G.1) (ci := 1) (v := .int (mo + 1)) (ty := .int) (C := R_AL) (T := T_AL) (N := 3) hx hb hT in_AL t_AL tok_AL nok_AL hown hK hP hD hS 0 rfl rfl 0 (by decide) (hT _ wd_90) (u_same (hT _ wd_91)) rfl (by decide +kernel) rfl rfl (Nat.le_of_ble_eq_true rfl) d_AL_add_0_7 (fun H locs hP hD hS => ?_)
  have hP : va_P G.1 vwCl [(h0, .inr (1, [.int (mo + 1), .ref ed, .int (nI cap)])), (ed, .inl (G.2 0, cap, .inr (.inr (.inr (.inr f)))))] H := hP
  have hD : va_D A [(h0, .inr (1, [.int (mo + 1), .ref ed, .int (nI cap)])), (ed, .inl (G.2 0, cap, .inr (.inr (.inr (.inr f)))))] := hD
  refine lv_aload_n hx hb d_AL_add_0_10 rfl (lv_at hl 0 rfl) ?_
  refine lv_aload_n hx hb d_AL_add_0_11 rfl (lv_at hl 1 rfl) ?_
  refine lv_aload_n hx hb d_AL_add_0_12 rfl (lv_at hl 0 rfl) ?_
  refine va_get (D := G.1) (ci := 1) (v := .ref ed) (C := R_AL) (T := T_AL) (N := 3) hx hb hT in_AL hown hK hP 0 rfl rfl 1 (by decide) (hT _ wd_87) (fun _ h9 => h9) rfl d_AL_add_0_13 ?_
  refine lv_aload_n hx hb d_AL_add_0_16 rfl (lv_at hl 0 rfl) ?_
  refine va_get (D := G.1) (ci := 1) (v := .int (nI cap)) (C := R_AL) (T := T_AL) (N := 3) hx hb hT in_AL hown hK hP 0 rfl rfl 2 (by decide) (hT _ wd_88) (fun _ h9 => h9) rfl d_AL_add_0_17 ?_
  have hpm : ([(h0, .inr (1, [.int (mo + 1), .ref ed, .int (nI cap)])), (ed, .inl (G.2 0, cap, .inr (.inr (.inr (.inr f)))))] : va_W).Perm ([(h0, .inr (1, [.int (mo + 1), .ref ed, .int (nI cap)])), (ed, .inl (G.2 0, cap, .inr (.inr (.inr (.inr f)))))] ++ []) := List.Perm.refl _
  have hPc := bx_PR hpm hP
  have hDc := bx_DR hpm hD
  have hXc : XE e0 mi0 els (va_A [(h0, .inr (1, [.int (mo + 1), .ref ed, .int (nI cap)])), (ed, .inl (G.2 0, cap, .inr (.inr (.inr (.inr f)))))] H.size) s H := (hX.kept hS.2.1).narrow (bx_freeR hpm hD hS hA)
  refine bx_callA (va_runV (As := [.ref q, .ref ed, .int (nI cap)]) (rest := []) ⟨hx, hb, hml, hown, hts⟩ (c_add3C l G H.size e0 mi0 h0 ed (mo + 1) cap c2 f els q hcc hf hq) ⟨(callB_of 3 hts (gi_all wd_197) rfl rfl rfl (hT _ wd_48) (hT _ wd_194) (by decide +kernel) ⟨Nat.le_of_ble_eq_true rfl, Nat.le_of_ble_eq_true rfl⟩), (hT _ wd_196), (hT _ wd_0)⟩ (pvX hPc hGK hDc hXc (va_recv hK hPc (ci := 1) (q0 := 0) rfl rfl)) rfl rfl hl.1 rfl (lv_room (Nat.le_of_ble_eq_true rfl)) d_AL_add_0_20 ⟨Nat.le_of_ble_eq_true rfl, Nat.le_of_ble_eq_true rfl⟩) hpm hP hD hS hA (fun u H locs hu hP hD hS => ?_)
  obtain ⟨q9, f9⟩ := u
  have hP : va_P G.1 vwCl [(h0, .inr (1, [.int (mo + 1), .ref q9, .int (nI (cap + 1))])), (q9, .inl (G.2 0, c2, .inr (.inr (.inr (.inr f9)))))] H := hP
  have hD : va_D A [(h0, .inr (1, [.int (mo + 1), .ref q9, .int (nI (cap + 1))])), (q9, .inl (G.2 0, c2, .inr (.inr (.inr (.inr f9)))))] := hD
  refine W.eq (g2 := F0 m 23 ls []) rfl ?_
  refine lv_iconst (v := 1) hx hb d_AL_add_0_23 (by decide) ?_
  refine W.widen (k := 1) (n := 22) (Nat.le_of_ble_eq_true rfl) (Nat.le_of_ble_eq_true rfl) ?_
  exact W.zret (v := 1) hx hb hr rfl (fun t ht hW => ⟨⟨(q9, f9), rfl, by rw [ht]; exact hP, by rw [hAe]; exact hD, hu⟩, by rw [hAe]; exact hS.F ht⟩) hS.2.2 d_AL_add_0_24
end
