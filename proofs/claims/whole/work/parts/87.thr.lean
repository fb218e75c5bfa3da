/-! the two methods that throw: what their starts ask -/
section TZ
def dcL : List Cond := [.declares ⟨"java/lang/RuntimeException", "<init>", "(Ljava/lang/String;)V"⟩, .declares ⟨"java/lang/Exception", "<init>", "(Ljava/lang/String;)V"⟩, .declares ⟨"java/lang/Throwable", "<init>", "(Ljava/lang/String;)V"⟩]
def DCs (U : State) : Prop := ∀ w ∈ dcL, va_Nw w U
theorem DCs.moved {u U : State} (hvm : u.vm.Alike U.vm) (h : DCs u) : DCs U := by
  intro w hw
  have h1 := h w hw
  simp only [dcL, List.mem_cons, List.not_mem_nil, or_false] at hw
  rcases hw with rfl | rfl | rfl <;> exact va_tabs rfl (rfl : (u.setVm U.vm).vm = U.vm) (by rw [Cond.declares_setVm hvm]; exact h1)
/-- a static's place -/
def cx_LS (C n d : String) (A : Nat → Prop) (U : State) (H : Heap) : Prop := ∃ (c : ClassId) (k : Class) (i : Nat) (f : Field) (a : Nat) (cell : Cell), U.vm.findClass C = some c ∧ U.fieldFound? C n d = some (c, k, i, f) ∧ f.isStatic = true ∧ k.statics = some a ∧ H[a]? = some cell ∧ cell.vm.isStatics = true ∧ cell.cls = c ∧ f.slot < cell.slots.size ∧ k.staticTypes[f.slot]? = some f.type ∧ ¬ A a
theorem cx_LS.moved {C n d : String} {A : Nat → Prop} {u U : State} {H : Heap} (hvm : u.vm.Alike U.vm) (h : cx_LS C n d A u H) : cx_LS C n d A U H := by
  obtain ⟨c, k, i, f, a, cell, h1, h2, h3, h4, h5, h6, h7, h8, h9, h10⟩ := h
  obtain ⟨k', hi', he⟩ := State.fieldFound?_setVm hvm h2
  exact ⟨c, k', i, f, a, cell, by rw [hvm.findClass]; exact h1, hi', h3, by rw [he]; exact h4, h5, h6, h7, h8, by rw [he]; exact h9, h10⟩
theorem cx_LS.kept {C n d : String} {A : Nat → Prop} {U : State} {H H1 : Heap} (h : cx_LS C n d A U H) (hq : ∀ a : Nat, a < H.size → ¬ A a → H1[a]? = H[a]?) : cx_LS C n d A U H1 := by
  obtain ⟨c, k, i, f, a, cell, h1, h2, h3, h4, h5, h6, h7, h8, h9, h10⟩ := h
  exact ⟨c, k, i, f, a, cell, h1, h2, h3, h4, by rw [hq a (Array.getElem?_eq_some_iff.mp h5).1 h10]; exact h5, h6, h7, h8, h9, h10⟩
theorem cx_LS.narrow {C n d : String} {A B : Nat → Prop} {U : State} {H : Heap} (h : cx_LS C n d A U H) (hAB : ∀ q, B q → A q) : cx_LS C n d B U H := by
  obtain ⟨c, k, i, f, a, cell, h1, h2, h3, h4, h5, h6, h7, h8, h9, h10⟩ := h
  exact ⟨c, k, i, f, a, cell, h1, h2, h3, h4, h5, h6, h7, h8, h9, fun z => h10 (hAB a z)⟩
theorem cx_LS.of {C n d : String} {A : Nat → Prop} {s : State} {args : Array Value} (hl : (Cond.laysStatic C n d).before args s = true) (hA : ∀ a : Nat, a < s.heap.size → ¬ A a) : cx_LS C n d A s s.heap := by
  obtain ⟨c, k, i, f, a, cell, h1, h2, h3, h4, h5, h6, h7, h8, h9⟩ := Cond.laysStatic_spec hl
  exact ⟨c, k, i, f, a, cell, h1, h2, h3, h4, h5, h6, h7, h8, h9, hA a (Array.getElem?_eq_some_iff.mp h5).1⟩
theorem cx_LS.use {C n d : String} {A : Nat → Prop} {s : State} (h : cx_LS C n d A s s.heap) (args : Array Value) : (Cond.laysStatic C n d).before args s = true := by
  obtain ⟨c, k, i, f, a, cell, h1, h2, h3, h4, h5, h6, h7, h8, h9, h10⟩ := h
  simp [Cond.before, Cond.holds, Cond.value, h1, h2, h3, h4, h5, h6, h7, h8, h9]
def ZTA (A : Nat → Prop) (U : State) (H : Heap) : Prop := va_Zq "java/lang/Throwable" "UNASSIGNED_STACK" "[Ljava/lang/StackTraceElement;" A U H ∧ va_Zq "java/lang/Throwable" "SUPPRESSED_SENTINEL" "Ljava/util/List;" A U H ∧ DCs U ∧ cx_LS "java/lang/Throwable" "UNASSIGNED_STACK" "[Ljava/lang/StackTraceElement;" A U H ∧ cx_LS "java/lang/Throwable" "SUPPRESSED_SENTINEL" "Ljava/util/List;" A U H
theorem ZTA.moved {A : Nat → Prop} {u U : State} {H : Heap} (hvm : u.vm.Alike U.vm) (h : ZTA A u H) : ZTA A U H := ⟨h.1.moved hvm, h.2.1.moved hvm, h.2.2.1.moved hvm, h.2.2.2.1.moved hvm, h.2.2.2.2.moved hvm⟩
theorem ZTA.kept {A : Nat → Prop} {U : State} {H H1 : Heap} (h : ZTA A U H) (hq : ∀ a : Nat, a < H.size → ¬ A a → H1[a]? = H[a]?) : ZTA A U H1 := ⟨h.1.kept hq, h.2.1.kept hq, h.2.2.1, h.2.2.2.1.kept hq, h.2.2.2.2.kept hq⟩
theorem ZTA.narrow {A B : Nat → Prop} {U : State} {H : Heap} (h : ZTA A U H) (hAB : ∀ q, B q → A q) : ZTA B U H := ⟨h.1.narrow hAB, h.2.1.narrow hAB, h.2.2.1, h.2.2.2.1.narrow hAB, h.2.2.2.2.narrow hAB⟩
abbrev ZT (U : State) (H : Heap) : Prop := ZTA (fun _ => False) U H
def PwT (G : GG) (k : Nat) (tx : String) (sa : Nat) (w0 : va_W) : State → Prop := fun U => Rw G w0 U ∧ ZT U U.heap ∧ vk_R "EmissionRows" k tx sa U
theorem PwT.blind {G : GG} {k sa : Nat} {tx : String} {w0 : va_W} {av : List Value} : FrameBlind (va_Pc av (PwT G k tx sa w0)) := fun a U g mk q => ⟨q.1, (Rw.blind (av := av) a U g mk ⟨q.1, q.2.1⟩).2, q.2.2.1.moved (u := U) (U := U.calling g mk a) (Vm.Alike.refl U.vm), vk_R.same (u := U) (U := U.calling g mk a) rfl q.2.2.2⟩
theorem pvT {G : GG} {s : State} {H : Heap} {w0 : va_W} {k sa b : Nat} {tx : String} {As : List Value} {C : String} (hP : va_P G.1 vwCl w0 H) (hG : GK G s) (hZ : ZT s H) (hR : vk_R "EmissionRows" k tx sa s) (hr : ∃ cell : Cell, H[b]? = some cell ∧ cell.vm.isStatics = false ∧ s.vm.findClass C = some cell.cls) : PreV s H C b (va_Pc (.ref b :: As) (PwT G k tx sa w0)) As :=
  ⟨PwT.blind, hr, fun U hU hW => ⟨rfl, ⟨by rw [hU]; exact hP, GK.moved hW hG⟩, by rw [hU]; exact hZ.moved hW.alike, hR.warm hW⟩⟩
def PwZ (G : GG) (sz k : Nat) (tx : String) (sa : Nat) (w0 : va_W) : State → Prop := fun U => Pw G sz w0 U ∧ ZT U U.heap ∧ vk_R "EmissionRows" k tx sa U
theorem PwZ.blind {G : GG} {sz k sa : Nat} {tx : String} {w0 : va_W} {av : List Value} : FrameBlind (va_Pc av (PwZ G sz k tx sa w0)) := fun a U g mk q => ⟨q.1, (Pw.blind (av := av) a U g mk ⟨q.1, q.2.1⟩).2, q.2.2.1.moved (u := U) (U := U.calling g mk a) (Vm.Alike.refl U.vm), vk_R.same (u := U) (U := U.calling g mk a) rfl q.2.2.2⟩
theorem psZ {G : GG} {s : State} {H : Heap} {w0 : va_W} {A : Nat → Prop} {k sa : Nat} {tx : String} {As : List Value} (hP : va_P G.1 vwCl w0 H) (hG : GK G s) (hD : va_D A w0) (hZ : ZT s H) (hR : vk_R "EmissionRows" k tx sa s) : PreS s H (va_Pc As (PwZ G H.size k tx sa w0)) As :=
  ⟨PwZ.blind, fun U hU hW => ⟨rfl, ⟨by rw [hU], by rw [hU]; exact hP, GK.moved hW hG, hD.weaken (fun _ _ _ _ => trivial)⟩, by rw [hU]; exact hZ.moved hW.alike, hR.warm hW⟩⟩
set_option maxRecDepth 100000 in
theorem at_ARE {args : Array Value} {s : State} (hT : ∀ w ∈ lwG, w.before args s = true) (hc : (Cond.castable "java/lang/ArithmeticException" "java/lang/ArithmeticException").before args s = true) (hz : ZT s s.heap) : ∀ a ∈ Bundle.ownAtoms "EmissionRows" 89 "java/lang/ArithmeticException" ["java/lang/RuntimeException", "java/lang/Exception"], a.before args s = true := by
  have h : ∀ a ∈ Bundle.ownAtoms "EmissionRows" 89 "java/lang/ArithmeticException" ["java/lang/RuntimeException", "java/lang/Exception"], a ∈ lwG ∨ a ∈ dcL ∨ a = .castable "java/lang/ArithmeticException" "java/lang/ArithmeticException" ∨ a = .isRef (.static "java/lang/Throwable" "UNASSIGNED_STACK" "[Ljava/lang/StackTraceElement;") ∨ a = .isRef (.static "java/lang/Throwable" "SUPPRESSED_SENTINEL" "Ljava/util/List;") ∨ a = .laysStatic "java/lang/Throwable" "UNASSIGNED_STACK" "[Ljava/lang/StackTraceElement;" ∨ a = .laysStatic "java/lang/Throwable" "SUPPRESSED_SENTINEL" "Ljava/util/List;" := by decide +kernel
  intro a ha
  rcases h a ha with h | h | rfl | rfl | rfl | rfl | rfl
  · exact hT a h
  · have h9 := hz.2.2.1 a h
    simp only [dcL, List.mem_cons, List.not_mem_nil, or_false] at h
    rcases h with rfl | rfl | rfl <;> exact va_Nw.use rfl h9
  · exact hc
  · exact cx_isRef hz.1 args
  · exact cx_isRef hz.2.1 args
  · exact hz.2.2.2.1.use args
  · exact hz.2.2.2.2.use args
set_option maxRecDepth 100000 in
theorem at_IOB {args : Array Value} {s : State} (hT : ∀ w ∈ lwG, w.before args s = true) (hc : (Cond.castable "java/lang/IndexOutOfBoundsException" "java/lang/IndexOutOfBoundsException").before args s = true) (hz : ZT s s.heap) : ∀ a ∈ Bundle.ownAtoms "EmissionRows" 177 "java/lang/IndexOutOfBoundsException" ["java/lang/RuntimeException", "java/lang/Exception"], a.before args s = true := by
  have h : ∀ a ∈ Bundle.ownAtoms "EmissionRows" 177 "java/lang/IndexOutOfBoundsException" ["java/lang/RuntimeException", "java/lang/Exception"], a ∈ lwG ∨ a ∈ dcL ∨ a = .castable "java/lang/IndexOutOfBoundsException" "java/lang/IndexOutOfBoundsException" ∨ a = .isRef (.static "java/lang/Throwable" "UNASSIGNED_STACK" "[Ljava/lang/StackTraceElement;") ∨ a = .isRef (.static "java/lang/Throwable" "SUPPRESSED_SENTINEL" "Ljava/util/List;") ∨ a = .laysStatic "java/lang/Throwable" "UNASSIGNED_STACK" "[Ljava/lang/StackTraceElement;" ∨ a = .laysStatic "java/lang/Throwable" "SUPPRESSED_SENTINEL" "Ljava/util/List;" := by decide +kernel
  intro a ha
  rcases h a ha with h | h | rfl | rfl | rfl | rfl | rfl
  · exact hT a h
  · have h9 := hz.2.2.1 a h
    simp only [dcL, List.mem_cons, List.not_mem_nil, or_false] at h
    rcases h with rfl | rfl | rfl <;> exact va_Nw.use rfl h9
  · exact hc
  · exact cx_isRef hz.1 args
  · exact cx_isRef hz.2.1 args
  · exact hz.2.2.2.1.use args
  · exact hz.2.2.2.2.use args
theorem has_in {i n : Int32} (h : ¬ hasF i n = 0) : vp_in i 41 := by
  unfold hasF at h
  by_cases h1 : i < 0
  · simp [h1] at h
  · by_cases h2 : n ≤ i
    · simp [h1, h2] at h
    · by_cases h3 : 41 ≤ i
      · simp [h1, h2, h3] at h
      · exact in41 h1 h3
/-- the table of handlers of a method that the tables give with one row -/
theorem cx_tab {p : Program} {l : Launch} {y : MethodName} {S : Spec} {code : ByteArray} {maxL : Nat} {ret : Option FieldType} {e : Env} {s : State} {m : MethodId} {args : Array Value} {below : List Frame} {meth : Method} {c : Code} {s₁ : State} {a1 a2 a3 a4 : Nat} (B : BodyLoose p l y S code maxL ret e s m args below meth c s₁)
    (h : (Cond.codeWith y code maxL ret [(a1, a2, a3, a4)]).before args s = true) : ∃ x : ExceptionTableEntry, c.exceptionTable.toList = [x] ∧ x.startPc = a1 ∧ x.endPc = a2 ∧ x.handlerPc = a3 ∧ x.catchType = a4 := by
  obtain ⟨m', meth', c', hn, hm, hc, -, -, hmap, -⟩ := Cond.codeWith_spec h
  cases B.named.symm.trans hn
  cases B.method.symm.trans hm
  cases (Stand.of_body B).code.symm.trans hc
  generalize c.exceptionTable.toList = L at hmap ⊢
  rcases L with _ | ⟨x, _ | ⟨z, r⟩⟩
  · simp at hmap
  · simp at hmap
    exact ⟨x, rfl, hmap.1, hmap.2.1, hmap.2.2.1, hmap.2.2.2⟩
  · simp at hmap
end TZ
section TK
variable {p : Program} {l : Launch} {e : Env} {R : Room} {s : State} {m : MethodId} {args : Array Value} {below : List Frame} {meth : Method} {c : Code} {H : Heap} {locs : List Loc} {cells slots : Nat} {Q : State → Prop}
theorem cx_callT2 {y : MethodName} {bytes cc : ByteArray} {maxL nL mc ms n index pc : Nat} {ret : Option FieldType} {ws : List Cond} {rm : Room} {Pc : Array Value → State → Prop} {cls own C : String} {Ts : List Cond} {b : Addr} {As rest : List Value} {ls : Array Slot} {a1 a2 a3 a4 : Nat} {A : Nat → Prop} {H0 : Heap} {D : va_G} {cl : List vw_C} {ws0 : va_W}
    (S : CallFix p m c cc nL s args Ts own) (hM : cx_Met l y ws rm Pc cls mc ms) (cw : CallW R s args own C index y bytes maxL ret ws rm mc ms n) (hp : PreV s H C b Pc As) (hn : As.length = n) (hsize : ls.size = nL) (hW : (rest.map fun v => v.category).sum ≤ 8) (hdg : decode cc pc = .ok (.invokevirtual index, 3)) (hf : cells + mc ≤ R.cells ∧ slots + ms ≤ R.slots)
    (hx : ∃ x : ExceptionTableEntry, c.exceptionTable.toList = [x] ∧ x.startPc = a1 ∧ x.endPc = a2 ∧ x.handlerPc = a3 ∧ x.catchType = a4) (hlk : (Cond.classLink own a4 cls).before args s = true) (h1 : a1 ≤ pc) (h2 : pc < a2) (h0 : a4 ≠ 0)
    (hP : va_P D cl ws0 H) (hS : va_S A H0 H locs)
    (kk : ∀ (q : Nat) (H1 : Heap), va_P D cl ws0 H1 → va_S A H0 H1 locs → W p l e R s m args below meth c H1 locs (cells + mc) (slots + ms) Q (F0 m a3 ls [.ref q])) : W p l e R s m args below meth c H locs cells slots Q (F0 m pc ls (As.reverse ++ .ref b :: rest)) := by
  obtain ⟨x, hsp, e1, e2, e3, e4⟩ := hx
  subst e3; subst e4
  refine cx_callT (x := x) S hM cw hp hn hsize hW hdg hf hlk hsp (by simp [covers, e1, e2, h1, h2]) h0 (fun q H1 z1 z2 => ?_)
  exact kk q H1 (fun k w hw => (hP k w hw).kept (z2 w.1 (hP k w hw).lt)) ⟨Nat.le_trans hS.1 z1, fun q9 g1 g2 => (z2 q9 (Nat.lt_of_lt_of_le g1 hS.1)).trans (hS.2.1 q9 g1 g2), hS.2.2⟩
end TK
