set_option maxRecDepth 100000 in
theorem nw_in : ∀ w ∈ nwL, w ∈ lw_tbl := by decide +kernel
theorem nw_on : ∀ w ∈ nwL, w.onTables = true := by decide +kernel
theorem lw_tab {w : Cond} {i : Nat} (h : lw_tbl[i]? = some w) : w ∈ lw_tbl := List.mem_of_getElem? h
set_option maxHeartbeats 8000000 in
set_option maxRecDepth 100000 in
theorem lw_GK {s : State} {args : Array Value} (hts : ∀ w ∈ lw_tbl, w.before args s = true) : ∃ G : GG, GK G s := by
  have hT : ∀ w ∈ lwG, w.before args s = true := fun w h => hts w (List.mem_filter.mp h).1
  obtain ⟨c0, i0, k0⟩ := u_known (C := R_ER) (T := T_ER) (N := 5) (n := 5) hT in_ER (hT _ wd_66)
  obtain ⟨c1, i1, k1⟩ := u_known (C := R_AL) (T := T_AL) (N := 3) (n := 3) hT in_AL (hT _ wd_74)
  obtain ⟨c2, i2, k2⟩ := u_known (C := R_LAMP) (T := T_LAMP) (N := 3) (n := 3) hT in_LAMP (hT _ wd_100)
  obtain ⟨c3, i3, k3⟩ := u_known (C := R_OCT) (T := T_OCT) (N := 2) (n := 2) hT in_OCT (hT _ wd_119)
  obtain ⟨c4, i4, k4⟩ := u_known (C := R_MON) (T := T_MON) (N := 6) (n := 6) hT in_MON (hT _ wd_162)
  obtain ⟨c5, i5, k5⟩ := u_known (C := R_COD) (T := T_COD) (N := 9) (n := 9) hT in_COD (hT _ wd_293)
  obtain ⟨c6, i6, k6⟩ := u_known (C := R_MOD) (T := T_MOD) (N := 25) (n := 25) hT in_MOD (hT _ wd_577)
  obtain ⟨compO, cO, kO, o1, -, o2, o3, o4⟩ := Cond.arrayOver_spec (hts (.arrayOver (.object "java/lang/Object")) (lw_tab (i := 236) (by decide +kernel)))
  obtain ⟨cB, kB, compB, aB1, aB2, aB3⟩ := Cond.arrayClass_spec (hT _ wd_133)
  obtain ⟨cI, kI, compI, aI1, aI2, aI3⟩ := Cond.arrayClass_spec (hT _ wd_658)
  obtain ⟨cZ, kZ, compZ, aZ1, aZ2, aZ3⟩ := Cond.arrayClass_spec (hT _ wd_659)
  obtain ⟨cJ, kJ, compJ, aJ1, aJ2, aJ3⟩ := Cond.arrayClass_spec (hT _ wd_778)
  refine ⟨((fun k => match k with | 0 => c0 | 1 => c1 | 2 => c2 | 3 => c3 | 4 => c4 | 5 => c5 | _ => c6, fun k => match k with | 0 => i0 | 1 => i1 | 2 => i2 | 3 => i3 | 4 => i4 | 5 => i5 | _ => i6), fun k => match k with | 0 => cO | 1 => cB | 2 => cI | 3 => cZ | _ => cJ), ⟨fun k q hq => ?_, fun k q hq => ?_⟩, fun w hw => va_Nw.of (nw_on w hw) (hts w (nw_in w hw))⟩
  · match k, hq with
    | 0, hq => cases hq; exact k0
    | 1, hq => cases hq; exact k1
    | 2, hq => cases hq; exact k2
    | 3, hq => cases hq; exact k3
    | 4, hq => cases hq; exact k4
    | 5, hq => cases hq; exact k5
    | 6, hq => cases hq; exact k6
    | k + 7, hq => simp [vwCl] at hq
  · match k, hq with
    | 0, hq => cases hq; exact ⟨fun n z => ⟨(fun k h => by cases h), kO, o2, compO, o3⟩, kO, compO, o2, o3, o1, o4⟩
    | 1, hq => cases hq; exact ⟨fun n z => ⟨(fun k h => by cases h), kB, aB2, compB, aB3⟩, aB1⟩
    | 2, hq => cases hq; exact ⟨fun n z => ⟨(fun k h => by cases h), kI, aI2, compI, aI3⟩, aI1⟩
    | 3, hq => cases hq; exact ⟨fun n z => ⟨(fun k h => by cases h), kZ, aZ2, compZ, aZ3⟩, aZ1⟩
    | 4, hq => cases hq; exact ⟨fun n z => ⟨(fun k h => by cases h), kJ, aJ2, compJ, aJ3⟩, aJ1⟩
    | k + 5, hq => simp [gT] at hq
set_option maxHeartbeats 8000000 in
set_option maxRecDepth 100000 in
theorem lw_LC {p : Program} {s : State} {m : MethodId} {meth : Method} {c : Code} {l : Launch} (hl9 : l.stackTraces = false) {b L : Nat} {xs : Nat → Int32} (C0 : lw_At p s m meth c b L xs) {A : Nat → Prop} (hA : ∀ q, s.heap.size ≤ q → A q) (hA2 : ∀ a : Nat, a < s.heap.size → ¬ A a) {G : GG} (hGK : GK G s) : ∃ e0 mi0 sa1 sa2 : Nat, LC l p s m meth c b L xs A G e0 mi0 sa1 sa2 := by
  obtain ⟨hx, hb, hr, hml, hown, hts, hX, hbl, hlocks, hgv⟩ := id C0
  have hq := flat_of_before _ hgv
  obtain ⟨e0, h1, h2⟩ := va_Tof (N := 0) (f := fun _ => .null) (A := A) (by omega) (hq (.arrayOf (.static "java/util/ArrayList" "DEFAULTCAPACITY_EMPTY_ELEMENTDATA" "[Ljava/lang/Object;") (.object "java/lang/Object")) (by decide +kernel)) (va_eqt (hq (.eq (.length (.static "java/util/ArrayList" "DEFAULTCAPACITY_EMPTY_ELEMENTDATA" "[Ljava/lang/Object;")) (.int 0)) (by decide +kernel))) (fun j hj => absurd hj (Nat.not_lt_zero j)) hA2
  obtain ⟨mi0, h3⟩ := va_Mi.of (hq (.isRef (.mirror "[Ljava/lang/Object;")) (by decide +kernel))
  obtain ⟨sa1, -, -, -, s1, -⟩ := Cond.exactly_spec (hq (.exactly (.string "EmissionRows" 87) "java/lang/String") (by decide +kernel))
  obtain ⟨sa2, -, -, -, s2, -⟩ := Cond.exactly_spec (hq (.exactly (.string "EmissionRows" 175) "java/lang/String") (by decide +kernel))
  refine ⟨e0, mi0, sa1, sa2, C0, hGK, ⟨⟨va_Zref (hts (.laysStatic "java/util/ArrayList" "DEFAULTCAPACITY_EMPTY_ELEMENTDATA" "[Ljava/lang/Object;") (lw_tab (i := 86) (by decide +kernel))) (hts (.initialized "java/util/ArrayList") (lw_tab (i := 48) (by decide +kernel))) h1 hA2, h2, h3, va_Dc.of (hts (.declares ⟨"java/lang/Object", "getClass", "()Ljava/lang/Class;"⟩) (lw_tab (i := 784) (by decide +kernel))), va_AO.of (hts (.arrayOver (.object "java/lang/Object")) (lw_tab (i := 236) (by decide +kernel)))⟩, fun y hy => absurd hy List.not_mem_nil⟩, ⟨va_Zqof (hts (.laysStatic "java/lang/Throwable" "UNASSIGNED_STACK" "[Ljava/lang/StackTraceElement;") (lw_tab (i := 506) (by decide +kernel))) (hts (.initialized "java/lang/Throwable") (lw_tab (i := 59) (by decide +kernel))) (hq (.isRef (.static "java/lang/Throwable" "UNASSIGNED_STACK" "[Ljava/lang/StackTraceElement;")) (by decide +kernel)) hA2, va_Zqof (hts (.laysStatic "java/lang/Throwable" "SUPPRESSED_SENTINEL" "Ljava/util/List;") (lw_tab (i := 508) (by decide +kernel))) (hts (.initialized "java/lang/Throwable") (lw_tab (i := 59) (by decide +kernel))) (hq (.isRef (.static "java/lang/Throwable" "SUPPRESSED_SENTINEL" "Ljava/util/List;")) (by decide +kernel)) hA2, fun w hw => ?_, cx_LS.of (hts (.laysStatic "java/lang/Throwable" "UNASSIGNED_STACK" "[Ljava/lang/StackTraceElement;") (lw_tab (i := 506) (by decide +kernel))) hA2, cx_LS.of (hts (.laysStatic "java/lang/Throwable" "SUPPRESSED_SENTINEL" "Ljava/util/List;") (lw_tab (i := 508) (by decide +kernel))) hA2⟩, vk_R.of (hts (.stringRef "EmissionRows" 87 "the monitor had no chance") (lw_tab (i := 519) (by decide +kernel))) s1, vk_R.of (hts (.stringRef "EmissionRows" 175 "the answer has no such octet") (lw_tab (i := 569) (by decide +kernel))) s2, hl9, hA, hA2 b hbl⟩
  simp only [dcL, List.mem_cons, List.not_mem_nil, or_false] at hw
  rcases hw with rfl | rfl | rfl
  · exact va_Nw.of rfl (hts (.declares ⟨"java/lang/RuntimeException", "<init>", "(Ljava/lang/String;)V"⟩) (lw_tab (i := 483) (by decide +kernel)))
  · exact va_Nw.of rfl (hts (.declares ⟨"java/lang/Exception", "<init>", "(Ljava/lang/String;)V"⟩) (lw_tab (i := 485) (by decide +kernel)))
  · exact va_Nw.of rfl (hts (.declares ⟨"java/lang/Throwable", "<init>", "(Ljava/lang/String;)V"⟩) (lw_tab (i := 487) (by decide +kernel)))
