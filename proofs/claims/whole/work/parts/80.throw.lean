/-! methods that throw, and their callers that catch -/
section TH
/-- what a throwing end says: a new object of the class, nothing old changed -/
def cx_QT (cls : String) (mc ms : Nat) : Array Value → State → Outcome → State → Prop := fun _ st o t =>
  ∃ (x : Addr) (ce : Cell), o = .threw x ∧ st.WarmedH t.vm ∧ st.sameButNew ({ t with vm := st.vm } : State) [] mc ms ∧ t.heap[x]? = some ce ∧ ce.vm = .none ∧ st.vm.findClass cls = some ce.cls
abbrev cx_Met (l : Launch) (y : MethodName) (ws : List Cond) (rm : Room) (Pc : Array Value → State → Prop) (cls : String) (mc ms : Nat) : Prop := MetFree l y (headSpec ws rm) Pc (fun _ _ _ _ _ => True) (cx_QT cls mc ms)
def cx_MQ (below : List Frame) (cls : String) (mc ms : Nat) (args : Array Value) (s : State) : State → Prop := fun t => ∃ o, t.status = .running ∧ Ended t below o ∧ cx_QT cls mc ms args s o t
theorem cx_ofW {l : Launch} {y : MethodName} {ws ws' : List Cond} {rm : Room} {Pc : Array Value → State → Prop} {cls : String} {mc ms : Nat} {cc : ByteArray} {maxL : Nat} {ret : Option FieldType} (hy : plainName y.cls = true) (hw : ws = Cond.code y cc maxL ret :: ws')
    (body : ∀ p e s m args below meth c s₁, BodyLoose p l y (headSpec ws rm) cc maxL ret e s m args below meth c s₁ → c.maxLocals = maxL → Pc args s → W p l e (headSpec ws rm).room s m args below meth c s.heap [] 0 0 (cx_MQ below cls mc ms args s) (entryFrame m args maxL)) : cx_Met l y ws rm Pc cls mc ms := by
  refine MetFree.of_bodyS (code := cc) (maxLocals := maxL) (ret := ret) hy (fun args s m h hn => ?_) (fun p e s m args below meth c s₁ B hml hP _ => ?_)
  · obtain ⟨meth, c, g1, g2, g3, g4, g5, g6, -, -⟩ := Cond.code_spec hn (atoms_spec (ws := ws) h _ (by rw [hw]; exact List.mem_cons_self))
    exact ⟨meth, c, g1, g2, g3, g4, g5, g6⟩
  · obtain ⟨t, a1, o, b1, b2, b3⟩ := body p e s m args below meth c s₁ B hml hP s₁ (by rw [B.state]; rfl) (Stand.of_body B)
    exact ⟨t, o, a1, b1, b2, b3⟩
/-- a static that holds a reference or null, as a word -/
theorem cx_isRef {C n d : String} {A : Nat → Prop} {s : State} (h : va_Zq C n d A s s.heap) (args : Array Value) : (Cond.isRef (.static C n d)).before args s = true := by
  rcases h with ⟨cf, kf, fi, f, a, cell, h1, h2, h3, h4, h5, h6, h7, h8⟩ | ⟨t, cf, kf, fi, f, a, cell, h1, h2, h3, h4, h5, h6, h7, h8⟩ <;>
    simp [Cond.before, Cond.holds, Cond.value, Term.eval, State.fieldNamed?, h1, h2, h4, h5, h6, h7]
/-- nothing old is changed -/
theorem cx_same {s t : State} {mc ms : Nat} (h : s.sameButNew t [] mc ms) : s.heap.size ≤ t.heap.size ∧ ∀ q : Nat, q < s.heap.size → t.heap[q]? = s.heap[q]? := by
  refine ⟨h.2.1, fun q hq => ?_⟩
  obtain ⟨c', h1, h2, h3, h4⟩ := h.2.2.2.2.2 q _ (Array.getElem?_eq_getElem hq)
  rw [Array.getElem?_eq_getElem hq, h1]
  have h5 : c'.slots = (s.heap[q]).slots := Array.ext_getElem? (fun i => h4 i (by simp))
  rw [h5] at h2
  rw [h2]
end TH
section TR
variable {p : Program} {l : Launch} {e : Env} {R : Room} {s : State} {m : MethodId} {args : Array Value} {below : List Frame} {meth : Method} {c : Code} {H : Heap} {locs : List Loc} {cells slots : Nat} {Q : State → Prop}
variable {cc : ByteArray} {pc : Nat} {ls : Array Slot}
/-- throw new X("text") -/
theorem cx_throw (hx : p.tables.exec = Jvm.exec) (hb : c.code = cc) (hml : c.maxLocals = ls.size) (hl9 : l.stackTraces = false) {own cls tx : String} {names : List String} {i1 i3 ic sa : Nat} (hown : s.vm.findClass own = some m.cls)
    (hcl : (Cond.classLink own i1 cls).before args s = true) (hinst : (Cond.instantiable cls 6).before args s = true) (hini : (Cond.initialized cls).before args s = true)
    (hfc : Bundle.fit cls = true) (hfn : ∀ n ∈ names, Bundle.fit n = true) (hat : ∀ a ∈ Bundle.ownAtoms own ic cls names, a.before args s = true) (hZ : vk_R own i3 tx sa s) (hno : c.exceptionTable.isEmpty = true)
    (d1 : decode cc pc = .ok (.new i1, 3)) (d2 : decode cc (pc + 3) = .ok (.dup, 1)) (d3 : decode cc (pc + 4) = .ok (.ldc i3, 2)) (d4 : decode cc (pc + 6) = .ok (.invokespecial ic, 3)) (d5 : decode cc (pc + 9) = .ok (.athrow, 1))
    (h1 : 1 ≤ R.cells) (h2 : 6 ≤ R.slots) (h3 : names.length + 3 < R.frames) (h4 : 1 + (13 * (names.length + 1) + 42) ≤ R.locals) (hlocks : meth.locks = false) :
    W p l e R s m args below meth c s.heap [] 0 0 (cx_MQ below cls 1 6 args s) (F0 m pc ls []) := by
  refine W.newc (n := 6) hx hb hown hcl hinst hini rfl d1 (by omega) (by omega) (fun cC kC f1 f2 f3 f4 => ?_)
  refine lv_dup hx hb d2 rfl ?_
  refine va_ldcS hx hb hown hZ d3 ?_
  intro T hT X
  have htr : e.platform.stackTraces = false := by rw [X.admits.platform]; exact hl9
  have hcell : T.heap[s.heap.size]? = some { cls := cC, slots := kC.instanceTypes.map defaultValue, vm := .none } := by
    rw [hT]
    exact Array.getElem?_push_size
  obtain ⟨U, st, hrun, hend, hW, hsame, ce, hce, K⟩ := X.ctorThrowS hx htr hown hfc hfn hat (fun x hx9 => absurd hx9 List.not_mem_nil) f1 f2 hcell (Nat.le_refl _) (msg := .ref sa) rfl (g := F0 m (pc + 6) ls [.ref sa, .ref s.heap.size, .ref s.heap.size]) rfl hml.symm rfl rfl (rest := []) rfl (by rw [hb]; exact d4) (by rw [hb]; exact d5)
    (fun x hx9 => by
      have h0 : c.exceptionTable.toList = [] := by
        have h9 : c.exceptionTable = #[] := Array.isEmpty_iff.mp hno
        rw [h9]
      rw [h0] at hx9
      exact absurd hx9 List.not_mem_nil) h3 h4 hlocks
  exact ⟨U, st, .threw s.heap.size, hrun, hend, s.heap.size, ce, rfl, hW, hsame, hce, K.vm, K.cls⟩
end TR
section TC
variable {p : Program} {l : Launch} {e : Env} {R : Room} {s : State} {m : MethodId} {args : Array Value} {below : List Frame} {meth : Method} {c : Code} {T : State} {H : Heap} {locs : List Loc} {cells slots : Nat} {Q : State → Prop}
/-- the search finds the one row, whose class is resolved there -/
theorem cx_finds {u : State} {g : JFrame} {a : Addr} {x : ExceptionTableEntry} {cT : ClassId} {vm' : Vm} {cell : Cell} (hm : u.vm.method? g.method = some meth) (hc : meth.code = some c) (hsp : c.exceptionTable.toList = [x]) (hx : covers x g.pc = true) (h0 : x.catchType ≠ 0)
    (hg : (resolveClass g.method.cls x.catchType).Gives e.toSetting u.vm (.ok cT) vm') (hsz : vm'.classes.size ≤ u.vm.classes.size) (hcell : u.heap[a]? = some cell) (hobj : ∀ k, cell.vm ≠ .statics k) (hk : ∃ k, vm'.classes[cell.cls]? = some k) (hcl : ∃ k, vm'.classes[cT]? = some k) (hfit : vm'.assignable cell.cls cT = true)
    (Q : Handler → Pre) (E : CtlPost) (d : Bool) (acts : List Action) : wp (findHandler g a) Q E e d acts u ↔ Q (.found x.handlerPc) d acts (u.setVm vm') := by
  obtain ⟨ha, ht⟩ := hg.op (op := VmOp.resolveClass g.method.cls x.catchType) rfl
  rw [W.findHandler_eq hm hc, hsp]
  simp only [covers] at hx
  have hcell' : (u.setVm vm').heap[a]? = some cell := hcell
  obtain ⟨k1, hk1⟩ := hk
  obtain ⟨k2, hk2⟩ := hcl
  simp [findHandler.go, hx, h0, ha, ht, hsz, hcell, hobj, hk1, hk2, hfit, VmOp.dirties, VmOp.acts]
theorem cx_step {u : State} {a : Addr} {f : JFrame} {r : List Frame} {pc : Nat} {vm' : Vm} (hf : ∀ (Q : Handler → Pre) (E : CtlPost) (d : Bool) (acts : List Action), wp (findHandler f a) Q E e d acts u ↔ Q (.found pc) d acts (u.setVm vm')) :
    (stepThrowing e u a (.java f :: r)).Is ((u.setVm vm').setFrames (.java { f with pc := pc, stack := [.ref a] } :: r)) [] := by
  simp only [stepThrowing, searchFrame, vmDo]
  generalize hr : Sem.go _ e false [] u = res
  obtain ⟨as, rfl, ha⟩ := Sem.eq_ok_of hr (a := Handler.found pc) (s' := u.setVm vm') (acts' := []) (by simp [hf])
  exact ⟨rfl, ha⟩
/-- caught in the walked method -/
theorem cx_catch (X : Stand p l e R s m args below meth c T locs cells slots) {a : Addr} {g : JFrame} (hg : g.method = m) {own cls : String} {x : ExceptionTableEntry} (hown : s.vm.findClass own = some m.cls) (hlk : (Cond.classLink own x.catchType cls).before args s = true)
    (hsp : c.exceptionTable.toList = [x]) (hx : covers x g.pc = true) (h0 : x.catchType ≠ 0) {cell : Cell} (hcell : T.heap[a]? = some cell) (hvm : cell.vm = .none) (hfc : s.vm.findClass cls = some cell.cls) :
    ∃ vm' : Vm, Stand p l e R s m args below meth c (T.setVm vm') locs cells slots ∧ ∀ target, Steps p.tables e below ((T.setVm vm').setTop { g with pc := x.handlerPc, stack := [.ref a] }) target → Steps p.tables e below ((T.setTop g).pushFrame (.throwing a)) target := by
  subst hg
  have hpl : e.platform.magicAccessors = ({} : Platform).magicAccessors := by rw [X.admits.platform]
  obtain ⟨cT, hfT, hcl⟩ := Cond.classLink_spec hown hlk e.platform hpl
  cases hfc.symm.trans hfT
  obtain ⟨hg1, hW1, hr1⟩ := State.classEntry (e := e) X.warmed hcl
  have hal : T.vm.Alike (T.vm.noted g.method.cls x.catchType (.cls cell.cls)) := X.warmed.alike.symm.trans hW1.alike
  generalize T.vm.noted g.method.cls x.catchType (.cls cell.cls) = vm1 at hg1 hW1 hr1 hal
  refine ⟨vm1, X.noted hW1, fun target hrest => ?_⟩
  obtain ⟨k0, hk0, -⟩ := Vm.findClass_spec hfT
  obtain ⟨k1, hk1, -⟩ := hW1.alike.2.2 _ _ hk0
  have hgo := X.here.throwing (g := g) a
  refine Steps.head hgo.1 hgo.2 ?_
  have hvm9 : ((T.setTop g).pushFrame (.throwing a)).vm = T.vm := Stand.throwing_vm T g a
  have hhp9 : ((T.setTop g).pushFrame (.throwing a)).heap = T.heap := Stand.throwing_heap T g a
  have hfind := cx_finds (e := e) (meth := meth) (c := c) (u := (T.setTop g).pushFrame (.throwing a)) (g := g) (a := a) (x := x) (cT := cell.cls) (vm' := vm1) (cell := cell) (by rw [hvm9]; exact X.method') X.code hsp hx h0 (by rw [hvm9]; exact hg1) (by rw [hvm9]; exact Vm.Alike.size_le hal) (by rw [hhp9]; exact hcell) (fun k => by rw [hvm]; exact fun z => by cases z) ⟨k1, hk1⟩ ⟨k1, hk1⟩ (va_asg vm1 cell.cls)
  rw [stepThread_throwing (frames_entered X.here.top _), (cx_step (e := e) (r := T.frames.tail) hfind).1]
  obtain ⟨g0, hr⟩ := X.frames_eq
  have hr' : (T.setVm vm1).frames = .java g0 :: below := hr
  have hcm : ∀ (u : State) (fs : List Frame), (u.setFrames fs).setVm vm1 = (u.setVm vm1).setFrames fs := fun _ _ => rfl
  rw [State.setTop_of_frames _ hr'] at hrest
  rw [State.pushFrame, State.setTop_of_frames _ hr, hcm, hcm, State.setFrames_setFrames, State.setFrames_setFrames, hr]
  exact hrest
/-- a call of a method that throws what the caller catches -/
theorem cx_callT {y : MethodName} {bytes cc : ByteArray} {maxL nL mc ms n index pc : Nat} {ret : Option FieldType} {ws : List Cond} {rm : Room} {Pc : Array Value → State → Prop} {cls own C : String} {Ts : List Cond} {b : Addr} {As rest : List Value} {ls : Array Slot} {x : ExceptionTableEntry}
    (S : CallFix p m c cc nL s args Ts own) (hM : cx_Met l y ws rm Pc cls mc ms) (cw : CallW R s args own C index y bytes maxL ret ws rm mc ms n) (hp : PreV s H C b Pc As) (hn : As.length = n) (hsize : ls.size = nL) (hW : (rest.map fun v => v.category).sum ≤ 8) (hdg : decode cc pc = .ok (.invokevirtual index, 3)) (hf : cells + mc ≤ R.cells ∧ slots + ms ≤ R.slots)
    (hlk : (Cond.classLink own x.catchType cls).before args s = true) (hsp : c.exceptionTable.toList = [x]) (hx : covers x pc = true) (h0 : x.catchType ≠ 0)
    (kk : ∀ (q : Nat) (H1 : Heap), H.size ≤ H1.size → (∀ z : Nat, z < H.size → H1[z]? = H[z]?) → W p l e R s m args below meth c H1 locs (cells + mc) (slots + ms) Q (F0 m x.handlerPc ls [.ref q])) : W p l e R s m args below meth c H locs cells slots Q (F0 m pc ls (As.reverse ++ .ref b :: rest)) := by
  obtain ⟨⟨hrc, hrs, hfr, hlo, hws, hcw, hcode, hini, hy, hlen, hl⟩, hin, hse⟩ := cw
  obtain ⟨hx9, hb, hml, ho, -⟩ := S
  obtain ⟨hbl, ⟨cellB, hcB, hoB, hclB⟩, hPc⟩ := hp
  intro T hT X
  subst hT
  obtain ⟨mk, methM, hnamed, hmethM, hstM, habM⟩ := Cond.instanceMethod_spec hin
  obtain ⟨methM', cM, hmethM', -, -, -, -, -, -, hsigM⟩ := Cond.code_spec hnamed hcode
  cases hmethM.symm.trans hmethM'
  obtain ⟨c2, r2, m2, q1, q2, q3, q4, kP, hkP, hkPi⟩ := Cond.selects_spec hse
  cases hclB.symm.trans q1
  cases (State.methodFound?_of_named hnamed hy).symm.trans q2
  cases hnamed.symm.trans q3
  have hselP : selectMethod e.platform s.vm cellB.cls mk = .method mk := by rw [Launch.admits_selectMethod X.admits]; exact q4
  obtain ⟨vm1, X1, hstep⟩ := X.invokevirtual hx9 ho hl hnamed hmethM hstM hkP hkPi hy (a := b) (cell := cellB) hcB (fun z h => by rw [h] at hoB; cases hoB) hselP hmethM habM hkP hkPi (g := F0 m pc ls (As.reverse ++ .ref b :: rest)) rfl (argsL := As) (rest := rest) (hn.trans (hlen _ hsigM)) rfl (by rw [hb]; exact hdg)
  have hnU := X1.named hnamed
  have w1 : (headSpec ws rm).pre.before (Value.ref b :: As).toArray (T.setVm vm1) = true := atoms_intro fun w hw => hws w hw _ _ X1.warmed
  have w3 : (Cond.initialized y.cls).before (Value.ref b :: As).toArray (T.setVm vm1) = true := word_at X1.warmed (Or.inl (by first | rfl | simp [Cond.onTables, Cond.keeps, Cond.steady])) hini
  obtain ⟨methY, cY, hmY, hcY, -, hlY, -⟩ := Cond.code_spec hnU (hws _ hcw (Value.ref b :: As).toArray _ X1.warmed)
  obtain ⟨kY, hkY, -⟩ := className_of_methodNamed hnU
  have hiY : kY.init = .initialized := Cond.initialized_spec (findClass_of_methodNamed hnU) hkY w3
  have hfrm : ((T.setVm vm1).setTop (F0 m pc ls rest)).frames = .java (F0 m pc ls rest) :: below := by rw [State.frames_setTop' _ X1.here.top, X1.tail]
  have happ : (headSpec ws rm).appliesLoose y e.platform ((T.setVm vm1).calling (F0 m pc ls rest) mk (Value.ref b :: As).toArray) = true :=
    Spec.appliesLoose_calling (g := F0 m pc ls rest) X1.here (by rw [hb]; exact hdg) hnU hkY hiY (X1.room_calling (g := F0 m pc ls rest) (R' := rm) (hsize.trans hml.symm) hmY hcY hfr (by rw [hlY]; show 2 * 0 + (rest.map fun v => v.category).sum + (maxL + 11) + rm.locals ≤ R.locals; omega) (by rw [hrc]; exact hf.1) (by rw [hrs]; exact hf.2)) w1
  obtain ⟨o, s2, hsteps, -, hend, x1, ce, rfl, hW2, hsame, hce, hvm, hfc⟩ := Steps.callFree hM p X.admits X.cas X.clock (acts := []) (mid := [.java (F0 m pc ls rest)]) (below := below) hfrm happ (hbl _ _ _ _ (hPc (T.setVm vm1) rfl X1.warmed)) trivial
  rw [hfrm] at hend
  obtain ⟨T', X', hWT, hsm, ht⟩ := X1.outOfThrown (g := F0 m pc ls rest) rfl hend hW2 hsame
  obtain ⟨z1, z2⟩ := cx_same hsm
  have hcell : T'.heap[x1]? = some ce := by
    rw [ht, Stand.throwing_heap] at hce
    exact hce
  have hfc' : s.vm.findClass cls = some ce.cls := by
    rw [← X1.warmed.alike.findClass]
    exact hfc
  obtain ⟨vm2, X2, hcat⟩ := cx_catch X' (a := x1) (g := F0 m pc ls rest) rfl ho hlk hsp hx h0 hcell hvm hfc'
  rw [List.append_nil] at X2
  obtain ⟨t, a1, b1⟩ := kk x1 T'.heap z1 z2 (T'.setVm vm2) rfl X2
  exact ⟨t, hstep _ fun acts => by rw [doInvoke_state]; exact hsteps.trans (by rw [ht]; exact hcat t a1), b1⟩
/-- a call of a static method that has a table of handlers -/
theorem cx_runSW {y : MethodName} {bytes cc : ByteArray} {maxL nL mc ms n index : Nat} {ret : Option FieldType} {hh : List (Nat × Nat × Nat × Nat)} {ws : List Cond} {rm : Room} {Pc : Array Value → State → Prop} {Qc : Array Value → State → Outcome → State → Prop} {free : Addr → Prop} {own : String} {Ts : List Cond} {As rest : List Value} {g : JFrame}
    (S : CallFix p m c cc nL s args Ts own) (hM : Met l y ws rm Pc Qc mc ms free) (hrc : rm.cells = mc) (hrs : rm.slots = ms) (hfr : rm.frames + 1 ≤ R.frames) (hlo : 8 + (maxL + 11) + rm.locals ≤ R.locals) (hG : GoodIn Ts ws) (hcw : Cond.codeWith y bytes maxL ret hh ∈ ws)
    (hini : (Cond.initialized y.cls).before args s = true) (hy : y.cls ≠ "java/lang/invoke/MethodHandle" ∧ y.cls ≠ "java/lang/invoke/VarHandle" ∧ (parseMethodDescriptor y.desc).map (fun d => d.parameters.length) = some n) (hl : (Cond.methodLink own index y).before args s = true) (hst : (Cond.static y).before args s = true)
    (hp : PreS s H Pc As) (hg : g.method = m) (hn : As.length = n) (hsize : g.locals.size = nL) (hstack : g.stack = As.reverse ++ rest) (hW : 2 * g.monitorRoom + (rest.map fun v => v.category).sum ≤ 8) (hdg : decode cc g.pc = .ok (.invokestatic index, 3)) (hf : cells + mc ≤ R.cells ∧ slots + ms ≤ R.slots) :
    va_Run p l e R s m args below meth c H locs cells slots mc ms g rest (Qc As.toArray) free := by
  obtain ⟨hx, hb, hml, ho, hts⟩ := S
  have hws := pay_in hts hG
  have hcode : (Cond.codeWith y bytes maxL ret hh).before args s = true := hts _ (hG _ hcw).1
  have hK : Back l R p e below s args y 3 8 (PreOf R mc ms Pc) (PostOf Qc mc ms free) := va_backW (hh := hh) (bytes := bytes) (maxL := maxL) (ret := ret) hM hp.1 hrc hrs hfr hlo hws hcw (fun a' U hW => word_at hW (Or.inl (by first | rfl | simp [Cond.onTables, Cond.keeps, Cond.steady])) hini)
  obtain ⟨mk, methM, cM, hnamed, hmethM, -, -, -, -, -, -, hsigM⟩ := Cond.codeWith_spec hcode
  have hstatic : methM.isStatic = true := Cond.static_spec hnamed hmethM hst
  obtain ⟨kP, hkP, -⟩ := className_of_methodNamed hnamed
  have hiP : kP.init = .initialized := Cond.initialized_spec (findClass_of_methodNamed hnamed) hkP hini
  have hlen : ∀ sig, parseMethodDescriptor y.desc = some sig → As.length = sig.parameters.length := fun sig h => by
    have h2 := hy.2.2
    rw [h] at h2
    exact hn.trans (Option.some.inj h2).symm
  intro T hT X
  obtain ⟨vm1, X1, hstep⟩ := X.invokestatic hx ho hl hnamed hmethM hstatic hkP hiP ⟨hy.1, hy.2.1⟩ (g := g) hg (argsL := As) (rest := rest) (hlen _ hsigM) hstack (by rw [hb]; exact hdg)
  obtain ⟨v, ⟨U', l2, c2, s2⟩, X', ⟨g', mk', t, L, e1, e2, hq, f1, hL, f2, f3⟩, st⟩ := hK m meth c ⟨T.setVm vm1, locs, cells, slots⟩ { g with stack := rest } (.invokestatic index) mk As.toArray X1 hg (hsize.trans hml.symm) (by rw [hb]; exact hdg) hW (X1.named hnamed) ⟨hf.1, hf.2, hp.2 (T.setVm vm1) hT X1.warmed⟩
  dsimp only [Pt.U, Pt.locs, Pt.cells, Pt.slots] at X' e1 e2 f1 f2 f3 st
  subst f1; subst f2; subst f3
  exact ⟨v, (T.setVm vm1).calling g' mk' As.toArray, t, U', L, hT, X', hL, e1, e2, hq, fun target h => hstep _ fun acts => by rw [doInvoke_state]; exact st.trans h⟩
end TC
