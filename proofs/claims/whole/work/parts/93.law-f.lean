/-! THE CLAIM OUT OF ONE WALK OF THE LAW'S BODY. Your part is whole_start (and what it stands on); all else here is the same for every law, but numbers. -/
def R_law : String := "EmissionRowsLaw"
def lw_P (b : Addr) (xs : List Int32) (args : Array Value) (s : State) : Prop := args = #[.ref b] ∧ s.IntsAt b xs ∧ xs.length ≤ 2560 ∧ (Jvm.Cond.and given_1 narrow_1).before args s = true
def lw_Q (_ : Array Value) (s : State) (o : Outcome) (t : State) : Prop := o = .returned (some (.int 1)) ∧ Framed s o t [] 601024 7293034
def lw_Z (below : List Frame) (a : Array Value) (s : State) : State → Prop := fun t => ∃ o, t.status = .running ∧ Ended t below o ∧ lw_Q a s o t
/-- the law's own end, with 1 on the stack, nothing written that was there before, its room as the claim has it -/
theorem lw_ret {p : Program} {l : Launch} {e : Env} {s : State} {m : MethodId} {below : List Frame} {meth : Method} {c : Code} {b : Nat} (hx : p.tables.exec = Jvm.exec) (hb : c.code = code) (hr : meth.sig.returnType = ret) (hlocks : meth.locks = false) {pc : Nat} {H : Heap} {ls : Array Slot} (hdg : decode code pc = .ok (.ireturn, 1)) : W p l e room_1 s m #[Value.ref b] below meth c H [] 601024 7293034 (lw_Z below #[Value.ref b] s) (F0 m pc ls [.int 1]) := by
  intro T hT X
  obtain ⟨fs, hret, hrun, hended, hW, hframe⟩ := X.leave (v := some (.int 1)) (hlocks := hlocks) (fun h => by rw [hr] at h; cases h)
  have hmeth' : T.vm.method? m = some meth := X.method'
  refine ⟨T.setFrames fs, ?_, .returned (some (.int 1)), hrun, hended, rfl, ⟨_, rfl⟩, hW, hframe⟩
  jvm_step X.here [X.here.top, hx, hb, hdg, hmeth', hr, ret, narrow_b1]
  (try refine ⟨rfl, ?_⟩); (try refine ⟨rfl, ?_⟩)
  first | (intro acts; rw [hret _ acts rfl rfl rfl]) | rw [hret _ _ rfl rfl rfl]
  exact Steps.refl _
/-- what holds at the law's entry: the machine, the code, the tables' words (any of lw_tbl by 'hts w (by decide +kernel)'), the script of L ints xs at the cell b, what the Statement gives of the start (any of its parts by flat_of_before) -/
def lw_At (p : Program) (s : State) (m : MethodId) (meth : Method) (c : Code) (b L : Nat) (xs : Nat → Int32) : Prop :=
  p.tables.exec = Jvm.exec ∧ c.code = code ∧ meth.sig.returnType = ret ∧ c.maxLocals = 8 ∧ s.vm.findClass R_law = some m.cls ∧ (∀ w ∈ lw_tbl, w.before #[Value.ref b] s = true) ∧ va_X b L xs s s.heap ∧ b < s.heap.size ∧ meth.locks = false ∧ (Jvm.Cond.and given_1 narrow_1).before #[Value.ref b] s = true
/-! the law: what stands along its loop -/
section LF
theorem gi_law {b : Cond} (h : b ∈ lwG) : GoodIn lw_tbl (b :: lwG) := by
  intro w hw
  rcases List.mem_cons.mp hw with rfl | h9
  · exact ⟨(List.mem_filter.mp h).1, good_of_word (List.mem_filter.mp h).2⟩
  · exact ⟨(List.mem_filter.mp h9).1, good_of_word (List.mem_filter.mp h9).2⟩
theorem wx_r : (.codeWith ⟨"EmissionRowsLaw", "ratio", "(LEmissionRows;II[J)I"⟩ method_3_code 5 (Option.some .int) [(0, 9, 12, 13)] : Cond) ∈ lwG := List.mem_filter.mpr ⟨List.mem_of_getElem? (i := 472) (by decide +kernel), by decide +kernel⟩
theorem wx_a : (.codeWith ⟨"EmissionRowsLaw", "at", "(LEmissionRows;I[J)I"⟩ method_4_code 4 (Option.some .int) [(0, 9, 12, 19)] : Cond) ∈ lwG := List.mem_filter.mpr ⟨List.mem_of_getElem? (i := 550) (by decide +kernel), by decide +kernel⟩
theorem rm_ok {cn sn mc ms : Nat} (h1 : cn + 2 ≤ 601024) (h2 : sn + 31 ≤ 7293034) (a : mc ≤ 2) (b : ms ≤ 31) : cn + mc ≤ room_1.cells ∧ sn + ms ≤ room_1.slots := ⟨by show cn + mc ≤ 601024; omega, by show sn + ms ≤ 7293034; omega⟩
theorem sc_1 (a : Nat) : nI a + 1 = nI (a + 1) := by rw [← nI_add]; rfl
theorem sc_2 (a : Nat) : nI a + 2 = nI (a + 2) := by rw [← nI_add]; rfl
theorem sc_3 (a : Nat) : nI a + 3 = nI (a + 3) := by rw [← nI_add]; rfl
theorem sc_4 (a : Nat) : nI a + 4 = nI (a + 4) := by rw [← nI_add]; rfl
theorem lw_pm0 {α : Type} {X Y t : List α} : ((X ++ Y) ++ t).Perm ((X ++ t) ++ Y) := by
  classical
  rw [List.perm_iff_count]
  intro z
  simp only [List.count_append]
  omega
theorem lw_pm {X Y t : va_W} : ((X ++ Y) ++ t).Perm ((X ++ t) ++ Y) := lw_pm0
theorem cy_up {cyc : Int32} {k : Nat} (h : ∃ c, c ≤ k ∧ cyc = nI c) : ∃ c, c ≤ k + 1 ∧ cyc = nI c := by
  obtain ⟨c, h1, h2⟩ := h
  exact ⟨c, by omega, h2⟩
theorem cy_ne {cyc : Int32} {k : Nat} (h : ∃ c, c ≤ k ∧ cyc = nI c) (hk : k < 1000) : ¬ cyc + 1 = 0 := by
  obtain ⟨c, h1, h2⟩ := h
  rw [h2, nI_1]
  exact nI_ne0 (by omega) (by omega)
theorem mcD_0 (cs ts cyc : Int32) (nC : Nat) (cc : Nat → Cdm) : pj q0 (mcD cs ts cyc nC cc) = pj q0 cc := by
  unfold mcD
  split
  · rfl
  · refine sm_pj (fun i w => ?_)
    unfold gMc
    split <;> rfl
def LC (l : Launch) (p : Program) (s : State) (m : MethodId) (meth : Method) (c : Code) (sb L : Nat) (xs : Nat → Int32) (A : Nat → Prop) (G : GG) (e0 mi0 sa1 sa2 : Nat) : Prop := lw_At p s m meth c sb L xs ∧ GK G s ∧ XE e0 mi0 [] A s s.heap ∧ ZTA A s s.heap ∧ vk_R "EmissionRows" 87 "the monitor had no chance" sa1 s ∧ vk_R "EmissionRows" 175 "the answer has no such octet" sa2 s ∧ l.stackTraces = false ∧ (∀ q, s.heap.size ≤ q → A q) ∧ ¬ A sb
def LINV (G : GG) (s : State) (A : Nat → Prop) (e0 x0 x1 x2 x3 x4 x5 z0 z1 z2 z3 z4 z5 z6 z7 z8 z9 z10 z11 z12 z13 z14 z15 z16 z17 ox k : Nat) (H : Heap) (locs : List Loc) : Prop := ∃ (cyc : Int32) (mM : Int32) (mC : Int32) (li : Int32) (cdv : Int32) (eM : Nat) (eC : Nat) (nM : Nat) (nC : Nat) (me : Int64) (mi : Int64) (b : OB) (bM : va_W) (bC : va_W) (am : Nat → Nat) (ac : Nat → Nat) (mon : Nat → Mon) (cod : Nat → Cod) (mm : Nat → Mon) (cc : Nat → Cdm) (mb : MB) (of : Nat → Int64), LD G e0 bM eM nM am ∧ LD G e0 bC eC nC ac ∧ RelM mon mm nM ∧ RelC cod cc nC ∧ OR b mb 41 ∧ bz li ∧ (∃ c, c ≤ k ∧ cyc = nI c) ∧ va_P G.1 vwCl ([(x0, .inr (0, [.ref x1, .ref x2, .ref x3, .ref x4, .int cyc])), (x1, .inr (1, [.int mM, .ref eM, .int (nI nM)])), (x2, .inr (1, [.int mC, .ref eC, .int (nI nC)])), (x3, .inr (2, [.int li, .long me, .long mi])), (x4, .inr (3, [.ref x5, .int b.1])), (x5, .inl (G.2 1, 41, .inl b.2)), (ox, .inl (G.2 4, 1, .inr (.inl of))), (z0, .inr (6, [.int cdv, .int (nI nM), .ref z1, .ref z2, .ref z3, .ref z4, .ref z5, .ref z6, .int (nI nC), .ref z7, .ref z8, .ref z9, .ref z10, .ref z11, .ref z12, .ref z13, .ref z14, .ref z15, .ref z16, .int cyc, .int li, .long me, .long mi, .int (nI mb.1), .ref z17])), (z1, .inl (G.2 2, 16, .inl (pj m0 mm))), (z2, .inl (G.2 2, 16, .inl (pj m1 mm))), (z3, .inl (G.2 2, 16, .inl (pj m2 mm))), (z4, .inl (G.2 2, 16, .inl (pj m3 mm))), (z5, .inl (G.2 2, 16, .inl (pj m4 mm))), (z6, .inl (G.2 3, 16, .inl (pj m5 mm))), (z7, .inl (G.2 2, 20, .inl (pj q0 cc))), (z8, .inl (G.2 3, 20, .inl (pj q1 cc))), (z9, .inl (G.2 3, 20, .inl (pj q2 cc))), (z10, .inl (G.2 3, 20, .inl (pj q3 cc))), (z11, .inl (G.2 3, 20, .inl (pj q4 cc))), (z12, .inl (G.2 2, 20, .inl (pj q5 cc))), (z13, .inl (G.2 2, 20, .inl (pj q6 cc))), (z14, .inl (G.2 3, 20, .inl (pj q7 cc))), (z15, .inl (G.2 2, 20, .inl (pj q8 cc))), (z16, .inl (G.2 2, 20, .inl (pj q9 cc))), (z17, .inl (G.2 2, 64, .inl mb.2))] ++ tlW bM bC nM am mon nC ac cod) H ∧ va_D A ([(x0, .inr (0, [.ref x1, .ref x2, .ref x3, .ref x4, .int cyc])), (x1, .inr (1, [.int mM, .ref eM, .int (nI nM)])), (x2, .inr (1, [.int mC, .ref eC, .int (nI nC)])), (x3, .inr (2, [.int li, .long me, .long mi])), (x4, .inr (3, [.ref x5, .int b.1])), (x5, .inl (G.2 1, 41, .inl b.2)), (ox, .inl (G.2 4, 1, .inr (.inl of))), (z0, .inr (6, [.int cdv, .int (nI nM), .ref z1, .ref z2, .ref z3, .ref z4, .ref z5, .ref z6, .int (nI nC), .ref z7, .ref z8, .ref z9, .ref z10, .ref z11, .ref z12, .ref z13, .ref z14, .ref z15, .ref z16, .int cyc, .int li, .long me, .long mi, .int (nI mb.1), .ref z17])), (z1, .inl (G.2 2, 16, .inl (pj m0 mm))), (z2, .inl (G.2 2, 16, .inl (pj m1 mm))), (z3, .inl (G.2 2, 16, .inl (pj m2 mm))), (z4, .inl (G.2 2, 16, .inl (pj m3 mm))), (z5, .inl (G.2 2, 16, .inl (pj m4 mm))), (z6, .inl (G.2 3, 16, .inl (pj m5 mm))), (z7, .inl (G.2 2, 20, .inl (pj q0 cc))), (z8, .inl (G.2 3, 20, .inl (pj q1 cc))), (z9, .inl (G.2 3, 20, .inl (pj q2 cc))), (z10, .inl (G.2 3, 20, .inl (pj q3 cc))), (z11, .inl (G.2 3, 20, .inl (pj q4 cc))), (z12, .inl (G.2 2, 20, .inl (pj q5 cc))), (z13, .inl (G.2 2, 20, .inl (pj q6 cc))), (z14, .inl (G.2 3, 20, .inl (pj q7 cc))), (z15, .inl (G.2 2, 20, .inl (pj q8 cc))), (z16, .inl (G.2 2, 20, .inl (pj q9 cc))), (z17, .inl (G.2 2, 64, .inl mb.2))] ++ tlW bM bC nM am mon nC ac cod) ∧ va_S A s.heap H locs
end LF
