/-! methods that make cells: their ends, their calls; the empty row of the lists; elements of lists -/
section AL0
/-- an end whose world has new cells -/
def QA {S : Type} (G : GG) (v : S → Option Value) (w0 : va_W) (w1 : S → va_W) (post : S → Prop) (sz : Nat) : Array Value → State → Outcome → State → Prop := fun _ st o t => (∃ u : S, o = .returned (v u) ∧ va_P G.1 vwCl (w1 u) t.heap ∧ va_D (va_A w0 sz) (w1 u) ∧ post u) ∧ va_F (va_A w0 sz) st t
/-- behind a call: the callee's cells, and the rest, which is unchanged -/
theorem bx_joinR {D : va_G} {cl : List vw_C} {A0 : Nat → Prop} {ws w0 wr w1 : va_W} {H H1 : Heap} (hp : ws.Perm (w0 ++ wr)) (hP : va_P D cl ws H) (hD : va_D A0 ws)
    (hk : ∀ q : Nat, q < H.size → ¬ va_A w0 H.size q → H1[q]? = H[q]?) (hF : ∀ q, va_A w0 H.size q → A0 q) (hP1 : va_P D cl w1 H1) (hD1 : va_D (va_A w0 H.size) w1) : va_P D cl (w1 ++ wr) H1 ∧ va_D A0 (w1 ++ wr) := by
  have hP2 : va_P D cl (w0 ++ wr) H := bx_P_perm hP hp.symm
  have hD2 : va_D A0 (w0 ++ wr) := bx_D_perm hD hp.symm
  have apart : ∀ (k : Nat) (q : Nat × va_E), wr[k]? = some q → q.1 < H.size ∧ ¬ va_A w0 H.size q.1 := by
    intro k q hq
    have h2 : (w0 ++ wr)[w0.length + k]? = some q := bx_at_r hq
    have hl := (hP2 _ q h2).lt
    refine ⟨hl, fun h => ?_⟩
    rcases h with ⟨k2, e9, h⟩ | h
    · have h3 : (w0 ++ wr)[k2]? = some (q.1, e9) := bx_at_l h
      have h4 := hD2.1 _ _ q (q.1, e9) h2 h3 rfl
      have h5 := (List.getElem?_eq_some_iff.mp h).1
      omega
    · omega
  have hDr : va_D A0 wr := by
    refine ⟨fun i j x y hi hj hxy => ?_, fun k q hq => hD2.2 _ q (bx_at_r hq)⟩
    have := hD2.1 _ _ x y (bx_at_r (X := w0) hi) (bx_at_r (X := w0) hj) hxy
    omega
  refine ⟨va_P.app hP1 (fun k q hq => ?_), va_D.app (hD1.weaken (fun k q _ h => hF q.1 h)) hDr (fun i j x y hx hy hxy => ?_)⟩
  · obtain ⟨g1, g2⟩ := apart k q hq
    exact (hP2 _ q (bx_at_r hq)).kept (hk q.1 g1 g2)
  · exact (apart j y hy).2 (by rw [← hxy]; exact hD1.2 i x hx)
theorem bx_freeR {A0 : Nat → Prop} {ws w0 wr : va_W} {H0 H : Heap} {locs : List Loc} (hp : ws.Perm (w0 ++ wr)) (hD : va_D A0 ws) (hS : va_S A0 H0 H locs) (hA : ∀ q, H0.size ≤ q → A0 q) : ∀ q, va_A w0 H.size q → A0 q := by
  rintro q (⟨k, e9, h⟩ | h)
  · exact (bx_D_perm hD hp.symm).2 k (q, e9) (bx_at_l h)
  · exact hA q (Nat.le_trans hS.1 h)
theorem bx_DR {A0 : Nat → Prop} {ws w0 wr : va_W} (hp : ws.Perm (w0 ++ wr)) (hD : va_D A0 ws) : va_D A0 w0 := by
  have h2 := bx_D_perm hD hp.symm
  exact ⟨fun i j x y hi hj hxy => h2.1 i j x y (bx_at_l hi) (bx_at_l hj) hxy, fun k q hq => h2.2 k q (bx_at_l hq)⟩
theorem bx_PR {D : va_G} {cl : List vw_C} {ws w0 wr : va_W} {H : Heap} (hp : ws.Perm (w0 ++ wr)) (hP : va_P D cl ws H) : va_P D cl w0 H := fun k q hq => (bx_P_perm hP hp.symm) k q (bx_at_l hq)
/-- the lists' empty row, and what else the lists' growing asks of the machine -/
def ZE (e0 mi : Nat) (A : Nat → Prop) (U : State) (H : Heap) : Prop :=
  va_Z "java/util/ArrayList" "DEFAULTCAPACITY_EMPTY_ELEMENTDATA" "[Ljava/lang/Object;" (.ref e0) A U H ∧ va_T (.object "java/lang/Object") e0 0 (fun _ => .null) A U H ∧ va_Mi "[Ljava/lang/Object;" mi U ∧ va_Dc U ∧ va_AO "java/lang/Object" U
theorem ZE.moved {e0 mi : Nat} {A : Nat → Prop} {u U : State} {H : Heap} (hvm : u.vm.Alike U.vm) (h : ZE e0 mi A u H) : ZE e0 mi A U H := ⟨va_Z.moved hvm h.1, va_T.moved hvm h.2.1, va_Mi.moved hvm h.2.2.1, va_Dc.moved hvm h.2.2.2.1, va_AO.moved hvm h.2.2.2.2⟩
theorem ZE.kept {e0 mi : Nat} {A : Nat → Prop} {U : State} {H H1 : Heap} (h : ZE e0 mi A U H) (hq : ∀ a : Nat, a < H.size → ¬ A a → H1[a]? = H[a]?) : ZE e0 mi A U H1 := ⟨h.1.kept hq, h.2.1.kept hq, h.2.2⟩
theorem ZE.narrow {e0 mi : Nat} {A B : Nat → Prop} {U : State} {H : Heap} (h : ZE e0 mi A U H) (hAB : ∀ q, B q → A q) : ZE e0 mi B U H := ⟨h.1.narrow hAB, h.2.1.narrow hAB, h.2.2⟩
theorem va_Any.moved {E : String} {u U : State} {H : Heap} {a : Nat} (hvm : u.vm.Alike U.vm) (h : va_Any E u H a) : va_Any E U H a := by
  obtain ⟨cv, h1, h2, ⟨kC, h3⟩, h4⟩ := h
  obtain ⟨k', hk', -⟩ := hvm.2.2 _ _ h3
  refine ⟨cv, h1, h2, ⟨k', hk'⟩, fun comp hc => ?_⟩
  rw [hvm.assignable]
  exact h4 comp (by rw [← hvm.findClass]; exact hc)
theorem va_Any.kept {E : String} {U : State} {H H1 : Heap} {a : Nat} (h : va_Any E U H a) (hq : H1[a]? = H[a]?) : va_Any E U H1 a := by
  obtain ⟨cv, h1, h2⟩ := h
  exact ⟨cv, by rw [hq]; exact h1, h2⟩
theorem va_Any.lt {E : String} {U : State} {H : Heap} {a : Nat} (h : va_Any E U H a) : a < H.size := by
  obtain ⟨cv, h1, -⟩ := h
  exact (Array.getElem?_eq_some_iff.mp h1).1
/-- the elements that a list holds or gets: objects that lie elsewhere -/
def XE (e0 mi : Nat) (els : List Nat) (A : Nat → Prop) (U : State) (H : Heap) : Prop := ZE e0 mi A U H ∧ ∀ y ∈ els, va_Any "java/lang/Object" U H y ∧ ¬ A y
theorem XE.moved {e0 mi : Nat} {els : List Nat} {A : Nat → Prop} {u U : State} {H : Heap} (hvm : u.vm.Alike U.vm) (h : XE e0 mi els A u H) : XE e0 mi els A U H := ⟨h.1.moved hvm, fun y hy => ⟨(h.2 y hy).1.moved hvm, (h.2 y hy).2⟩⟩
theorem XE.kept {e0 mi : Nat} {els : List Nat} {A : Nat → Prop} {U : State} {H H1 : Heap} (h : XE e0 mi els A U H) (hq : ∀ a : Nat, a < H.size → ¬ A a → H1[a]? = H[a]?) : XE e0 mi els A U H1 := ⟨h.1.kept hq, fun y hy => ⟨(h.2 y hy).1.kept (hq y (h.2 y hy).1.lt (h.2 y hy).2), (h.2 y hy).2⟩⟩
theorem XE.narrow {e0 mi : Nat} {els : List Nat} {A B : Nat → Prop} {U : State} {H : Heap} (h : XE e0 mi els A U H) (hAB : ∀ q, B q → A q) : XE e0 mi els B U H := ⟨h.1.narrow hAB, fun y hy => ⟨(h.2 y hy).1, fun z => (h.2 y hy).2 (hAB y z)⟩⟩
def PwX (G : GG) (sz e0 mi : Nat) (els : List Nat) (w0 : va_W) : State → Prop := fun U => Pw G sz w0 U ∧ XE e0 mi els (va_A w0 sz) U U.heap
theorem PwX.blind {G : GG} {sz e0 mi : Nat} {els : List Nat} {w0 : va_W} {av : List Value} : FrameBlind (va_Pc av (PwX G sz e0 mi els w0)) := fun a U g mk q => ⟨q.1, (Pw.blind (av := av) a U g mk ⟨q.1, q.2.1⟩).2, q.2.2.moved (u := U) (U := U.calling g mk a) (Vm.Alike.refl U.vm)⟩
theorem pvX {G : GG} {s : State} {H : Heap} {w0 : va_W} {A : Nat → Prop} {e0 mi b : Nat} {els : List Nat} {As : List Value} {C : String} (hP : va_P G.1 vwCl w0 H) (hG : GK G s) (hD : va_D A w0) (hX : XE e0 mi els (va_A w0 H.size) s H) (hr : ∃ cell : Cell, H[b]? = some cell ∧ cell.vm.isStatics = false ∧ s.vm.findClass C = some cell.cls) : PreV s H C b (va_Pc (.ref b :: As) (PwX G H.size e0 mi els w0)) As :=
  ⟨PwX.blind, hr, fun U hU hW => ⟨rfl, ⟨by rw [hU], by rw [hU]; exact hP, GK.moved hW hG, hD.weaken (fun _ _ _ _ => trivial)⟩, by rw [hU]; exact hX.moved hW.alike⟩⟩
theorem psX {G : GG} {s : State} {H : Heap} {w0 : va_W} {A : Nat → Prop} {e0 mi : Nat} {els : List Nat} {As : List Value} (hP : va_P G.1 vwCl w0 H) (hG : GK G s) (hD : va_D A w0) (hX : XE e0 mi els (va_A w0 H.size) s H) : PreS s H (va_Pc As (PwX G H.size e0 mi els w0)) As :=
  ⟨PwX.blind, fun U hU hW => ⟨rfl, ⟨by rw [hU], by rw [hU]; exact hP, GK.moved hW hG, hD.weaken (fun _ _ _ _ => trivial)⟩, by rw [hU]; exact hX.moved hW.alike⟩⟩
/-- the numbers of the arrays' kinds are those that the tables say -/
theorem bx_cA {D : va_G} {cl : List vw_C} {tys : List (ClassId × FieldType)} {U : State} {c1 c2 : ClassId} {C : String} {i j : Nat} (h : va_K D cl tys U) (h1 : tys[i]? = some (c1, .object C)) (h2 : tys[j]? = some (c2, .object C)) : c2 = c1 := by
  obtain ⟨-, -, -, -, -, g1⟩ := (h.2 i _ h1).2
  obtain ⟨-, -, -, -, -, g2⟩ := (h.2 j _ h2).2
  exact Option.some.inj (g2.symm.trans g1)
theorem bx_cB {D : va_G} {cl : List vw_C} {tys : List (ClassId × FieldType)} {U : State} {c1 c2 : ClassId} {i j : Nat} (h : va_K D cl tys U) (h1 : tys[i]? = some (c1, .byte)) (h2 : tys[j]? = some (c2, .byte)) : c2 = c1 := Option.some.inj (((h.2 j _ h2).2 : U.vm.findClass _ = some c2).symm.trans (h.2 i _ h1).2)
theorem bx_cI {D : va_G} {cl : List vw_C} {tys : List (ClassId × FieldType)} {U : State} {c1 c2 : ClassId} {i j : Nat} (h : va_K D cl tys U) (h1 : tys[i]? = some (c1, .int)) (h2 : tys[j]? = some (c2, .int)) : c2 = c1 := Option.some.inj (((h.2 j _ h2).2 : U.vm.findClass _ = some c2).symm.trans (h.2 i _ h1).2)
theorem bx_cZ {D : va_G} {cl : List vw_C} {tys : List (ClassId × FieldType)} {U : State} {c1 c2 : ClassId} {i j : Nat} (h : va_K D cl tys U) (h1 : tys[i]? = some (c1, .boolean)) (h2 : tys[j]? = some (c2, .boolean)) : c2 = c1 := Option.some.inj (((h.2 j _ h2).2 : U.vm.findClass _ = some c2).symm.trans (h.2 i _ h1).2)
theorem bx_cJ {D : va_G} {cl : List vw_C} {tys : List (ClassId × FieldType)} {U : State} {c1 c2 : ClassId} {i j : Nat} (h : va_K D cl tys U) (h1 : tys[i]? = some (c1, .long)) (h2 : tys[j]? = some (c2, .long)) : c2 = c1 := Option.some.inj (((h.2 j _ h2).2 : U.vm.findClass _ = some c2).symm.trans (h.2 i _ h1).2)
end AL0
section AL1
variable {p : Program} {l : Launch} {e : Env} {R : Room} {s : State} {m : MethodId} {args : Array Value} {below : List Frame} {meth : Method} {c : Code} {H : Heap} {locs : List Loc} {cells slots : Nat} {Q : State → Prop}
variable {pc : Nat} {ls : Array Slot} {rest st0 : List Value} {a : Array Value} {A0 : Nat → Prop} {H0 : Heap} {G : GG} {ws w0 wr : va_W} {mc ms : Nat}
/-- a call of a method that makes cells -/
theorem bx_callA {S : Type} {v : S → Option Value} {w1 : S → va_W} {post : S → Prop} (hr : va_Run p l e R s m args below meth c H locs cells slots mc ms (F0 m pc ls st0) rest (QA G v w0 w1 post H.size a) (va_A w0 H.size)) (hp : ws.Perm (w0 ++ wr)) (hP : va_P G.1 vwCl ws H) (hD : va_D A0 ws) (hS : va_S A0 H0 H locs) (hA : ∀ q, H0.size ≤ q → A0 q)
    (kk : ∀ (u : S) (H1 : Heap) (locs1 : List Loc), post u → va_P G.1 vwCl (w1 u ++ wr) H1 → va_D A0 (w1 u ++ wr) → va_S A0 H0 H1 locs1 → W p l e R s m args below meth c H1 locs1 (cells + mc) (slots + ms) Q (F0 m (pc + 3) ls ((v u).toList ++ rest))) : W p l e R s m args below meth c H locs cells slots Q (F0 m pc ls st0) := by
  have hF := bx_freeR hp hD hS hA
  intro T hT X
  obtain ⟨v', st₀, t, T', L, h0, X', hL, e1, -, ⟨⟨u, hv, hP1, hD1, hu⟩, hz, hk⟩, st⟩ := hr T hT X
  cases hv
  rw [h0] at hz hk
  rw [← e1] at hz hk hP1
  obtain ⟨g1, g2⟩ := bx_joinR hp hP hD hk hF hP1 hD1
  obtain ⟨t2, a1, b1⟩ := kk u T'.heap (locs ++ L) hu g1 g2
    ⟨Nat.le_trans hS.1 hz, fun q h1 h2 => by rw [hk q (Nat.lt_of_lt_of_le h1 hS.1) (fun z => h2 (hF q z))]; exact hS.2.1 q h1 h2, fun q hq => by
      rcases List.mem_append.mp hq with h | h
      · exact hS.2.2 q h
      · exact hF _ (hL q h)⟩ T' rfl X'
  exact ⟨t2, st t2 a1, b1⟩
/-- a call that makes none and has part of the world -/
theorem bx_callR {v : Option Value} {w1 : va_W} (hr : va_Run p l e R s m args below meth c H locs cells slots 0 0 (F0 m pc ls st0) rest (QW G v w0 w1 H.size a) (va_A w0 H.size)) (hp : ws.Perm (w0 ++ wr)) (hP : va_P G.1 vwCl ws H) (hD : va_D A0 ws) (hS : va_S A0 H0 H locs) (hA : ∀ q, H0.size ≤ q → A0 q)
    (kk : ∀ (H1 : Heap) (locs1 : List Loc), va_P G.1 vwCl (w1 ++ wr) H1 → va_D A0 (w1 ++ wr) → va_S A0 H0 H1 locs1 → W p l e R s m args below meth c H1 locs1 cells slots Q (F0 m (pc + 3) ls (v.toList ++ rest))) : W p l e R s m args below meth c H locs cells slots Q (F0 m pc ls st0) := by
  have hF := bx_freeR hp hD hS hA
  refine bx_callG hr hS hF fun H1 locs1 hP1 hD1 hk hS1 => ?_
  obtain ⟨g1, g2⟩ := bx_joinR hp hP hD hk hF hP1 hD1
  exact kk H1 locs1 g1 g2 hS1
end AL1
