/-! what every contract of mine begins and ends with -/
section BG
/-- the numbers of the objects' kinds and their slots; the numbers of the arrays' kinds -/
abbrev GG : Type := va_G × (Nat → ClassId)
def nwOk : Cond → Bool
  | .fieldLinkNest .. => true
  | .methodLinkNest .. => true
  | .castable .. => true
  | _ => false
theorem nwL_ok : nwL.all nwOk = true := by decide +kernel
def GK (G : GG) (U : State) : Prop := va_K G.1 vwCl (gT G) U ∧ ∀ w ∈ nwL, va_Nw w U
theorem GK.moved {G : GG} {s U : State} (hW : s.WarmedH U.vm) (h : GK G s) : GK G U := by
  refine ⟨va_K.moved hW.alike h.1, fun w hw => ?_⟩
  have h1 := List.all_eq_true.mp nwL_ok w hw
  have h2 := h.2 w hw
  cases w <;> first | (simp [nwOk] at h1; done) | exact va_Nw.warmF hW h2 | exact va_Nw.warmM hW h2 | exact va_Nw.warmC hW h2
theorem GK.same {G : GG} {u U : State} (e : u.vm = U.vm) (h : GK G u) : GK G U := by
  refine ⟨va_K.moved (by rw [e]; exact Vm.Alike.refl _) h.1, fun w hw => ?_⟩
  have h1 := List.all_eq_true.mp nwL_ok w hw
  have h2 := h.2 w hw
  cases w <;> first | (simp [nwOk] at h1; done) | exact va_Nw.same rfl e h2
/-- a start that reads alone -/
def Rw (G : GG) (w0 : va_W) : State → Prop := fun U => va_P G.1 vwCl w0 U.heap ∧ GK G U
/-- a start that writes -/
def Pw (G : GG) (sz : Nat) (w0 : va_W) : State → Prop := fun U => U.heap.size = sz ∧ va_P G.1 vwCl w0 U.heap ∧ GK G U ∧ va_D (fun _ => True) w0
/-- an end: the answer, the world -/
def QW (G : GG) (v : Option Value) (w0 w1 : va_W) (sz : Nat) : Array Value → State → Outcome → State → Prop := fun _ st o t => (o = .returned v ∧ va_P G.1 vwCl w1 t.heap ∧ va_D (va_A w0 sz) w1) ∧ va_F (va_A w0 sz) st t
theorem Rw.blind {G : GG} {w0 : va_W} {av : List Value} : FrameBlind (va_Pc av (Rw G w0)) := fun a U g mk q => ⟨q.1, q.2.1, GK.same (u := U) (U := U.calling g mk a) rfl q.2.2⟩
theorem Pw.blind {G : GG} {sz : Nat} {w0 : va_W} {av : List Value} : FrameBlind (va_Pc av (Pw G sz w0)) := fun a U g mk q => ⟨q.1, q.2.1, q.2.2.1, GK.same (u := U) (U := U.calling g mk a) rfl q.2.2.2.1, q.2.2.2.2⟩
theorem pvR {G : GG} {s : State} {H : Heap} {w0 : va_W} {b : Nat} {As : List Value} {C : String} (hP : va_P G.1 vwCl w0 H) (hG : GK G s) (hr : ∃ cell : Cell, H[b]? = some cell ∧ cell.vm.isStatics = false ∧ s.vm.findClass C = some cell.cls) : PreV s H C b (va_Pc (.ref b :: As) (Rw G w0)) As :=
  ⟨Rw.blind, hr, fun U hU hW => ⟨rfl, by rw [hU]; exact hP, GK.moved hW hG⟩⟩
theorem psR {G : GG} {s : State} {H : Heap} {w0 : va_W} {As : List Value} (hP : va_P G.1 vwCl w0 H) (hG : GK G s) : PreS s H (va_Pc As (Rw G w0)) As :=
  ⟨Rw.blind, fun U hU hW => ⟨rfl, by rw [hU]; exact hP, GK.moved hW hG⟩⟩
theorem pvW {G : GG} {s : State} {H : Heap} {w0 : va_W} {A : Nat → Prop} {b : Nat} {As : List Value} {C : String} (hP : va_P G.1 vwCl w0 H) (hG : GK G s) (hD : va_D A w0) (hr : ∃ cell : Cell, H[b]? = some cell ∧ cell.vm.isStatics = false ∧ s.vm.findClass C = some cell.cls) : PreV s H C b (va_Pc (.ref b :: As) (Pw G H.size w0)) As :=
  ⟨Pw.blind, hr, fun U hU hW => ⟨rfl, by rw [hU], by rw [hU]; exact hP, GK.moved hW hG, hD.weaken (fun _ _ _ _ => trivial)⟩⟩
theorem psW {G : GG} {s : State} {H : Heap} {w0 : va_W} {A : Nat → Prop} {As : List Value} (hP : va_P G.1 vwCl w0 H) (hG : GK G s) (hD : va_D A w0) : PreS s H (va_Pc As (Pw G H.size w0)) As :=
  ⟨Pw.blind, fun U hU hW => ⟨rfl, by rw [hU], by rw [hU]; exact hP, GK.moved hW hG, hD.weaken (fun _ _ _ _ => trivial)⟩⟩
theorem bx_nil {D : va_G} {cl : List vw_C} {H : Heap} : va_P D cl [] H := fun k q h => by simp at h
end BG
section BC
variable {p : Program} {l : Launch} {e : Env} {R : Room} {s : State} {m : MethodId} {args : Array Value} {below : List Frame} {meth : Method} {c : Code} {H : Heap} {locs : List Loc} {cells slots : Nat} {Q : State → Prop}
variable {pc : Nat} {ls : Array Slot} {rest st0 : List Value} {a : Array Value} {A0 : Nat → Prop} {H0 : Heap} {G : GG} {ws w0 w1 : va_W}
theorem bx_freeK (hD : va_D A0 ws) (hS : va_S A0 H0 H locs) (hA : ∀ q, H0.size ≤ q → A0 q) (ks : List Nat) (hc : ks.map (fun i => ws[i]?) = w0.map some) : ∀ q, va_A w0 H.size q → A0 q := va_free hD hS hA ks hc
theorem bx_callG {v : Option Value} (hr : va_Run p l e R s m args below meth c H locs cells slots 0 0 (F0 m pc ls st0) rest (QW G v w0 w1 H.size a) (va_A w0 H.size)) (hS : va_S A0 H0 H locs) (hF : ∀ q, va_A w0 H.size q → A0 q)
    (kk : ∀ (H1 : Heap) (locs1 : List Loc), va_P G.1 vwCl w1 H1 → va_D (va_A w0 H.size) w1 → (∀ q : Nat, q < H.size → ¬ va_A w0 H.size q → H1[q]? = H[q]?) → va_S A0 H0 H1 locs1 → W p l e R s m args below meth c H1 locs1 cells slots Q (F0 m (pc + 3) ls (v.toList ++ rest))) : W p l e R s m args below meth c H locs cells slots Q (F0 m pc ls st0) := by
  intro T hT X
  obtain ⟨v', st₀, t, T', L, h0, X', hL, e1, -, ⟨⟨hv, hP1, hD1⟩, hz, hk⟩, st⟩ := hr T hT X
  cases hv
  rw [h0] at hz hk
  rw [← e1] at hz hk hP1
  obtain ⟨t2, a1, b1⟩ := kk T'.heap (locs ++ L) hP1 hD1 hk
    ⟨Nat.le_trans hS.1 hz, fun q h1 h2 => by rw [hk q (Nat.lt_of_lt_of_le h1 hS.1) (fun z => h2 (hF q z))]; exact hS.2.1 q h1 h2, fun q hq => by
      rcases List.mem_append.mp hq with h | h
      · exact hS.2.2 q h
      · exact hF _ (hL q h)⟩ T' rfl X'
  exact ⟨t2, st t2 a1, b1⟩
/-- a call that has some places of the world, and answers nothing -/
theorem bx_callKv (ks : List Nat) (hr : va_Run p l e R s m args below meth c H locs cells slots 0 0 (F0 m pc ls st0) rest (QW G none w0 w1 H.size a) (va_A w0 H.size)) (hP : va_P G.1 vwCl ws H) (hD : va_D A0 ws) (hS : va_S A0 H0 H locs) (hA : ∀ q, H0.size ≤ q → A0 q) (hn : va_nd ks = true) (hc : ks.map (fun i => ws[i]?) = w0.map some) (ha : w1.map (·.1) = w0.map (·.1))
    (kk : ∀ (H1 : Heap) (locs1 : List Loc), va_P G.1 vwCl (bx_sets ws ks w1) H1 → va_D A0 (bx_sets ws ks w1) → va_S A0 H0 H1 locs1 → W p l e R s m args below meth c H1 locs1 cells slots Q (F0 m (pc + 3) ls rest)) : W p l e R s m args below meth c H locs cells slots Q (F0 m pc ls st0) := by
  refine bx_callG hr hS (va_free hD hS hA ks hc) fun H1 locs1 hP1 hD1 hk hS1 => ?_
  obtain ⟨g1, g2⟩ := bx_puts hP hD ks hn hc ha hk hP1
  exact kk H1 locs1 g1 g2 hS1
/-- .. and answers r -/
theorem bx_callKr {r : Value} (ks : List Nat) (hr : va_Run p l e R s m args below meth c H locs cells slots 0 0 (F0 m pc ls st0) rest (QW G (some r) w0 w1 H.size a) (va_A w0 H.size)) (hP : va_P G.1 vwCl ws H) (hD : va_D A0 ws) (hS : va_S A0 H0 H locs) (hA : ∀ q, H0.size ≤ q → A0 q) (hn : va_nd ks = true) (hc : ks.map (fun i => ws[i]?) = w0.map some) (ha : w1.map (·.1) = w0.map (·.1))
    (kk : ∀ (H1 : Heap) (locs1 : List Loc), va_P G.1 vwCl (bx_sets ws ks w1) H1 → va_D A0 (bx_sets ws ks w1) → va_S A0 H0 H1 locs1 → W p l e R s m args below meth c H1 locs1 cells slots Q (F0 m (pc + 3) ls (r :: rest))) : W p l e R s m args below meth c H locs cells slots Q (F0 m pc ls st0) := by
  refine bx_callG hr hS (va_free hD hS hA ks hc) fun H1 locs1 hP1 hD1 hk hS1 => ?_
  obtain ⟨g1, g2⟩ := bx_puts hP hD ks hn hc ha hk hP1
  exact kk H1 locs1 g1 g2 hS1
theorem bx_freeF (hD : va_D A0 ws) (hS : va_S A0 H0 H locs) (hA : ∀ q, H0.size ≤ q → A0 q) : ∀ q, va_A ws H.size q → A0 q := by
  rintro q (⟨k, e9, h⟩ | h)
  · exact hD.2 k _ h
  · exact hA q (Nat.le_trans hS.1 h)
/-- a call that has the whole world -/
theorem bx_callFv (hr : va_Run p l e R s m args below meth c H locs cells slots 0 0 (F0 m pc ls st0) rest (QW G none ws w1 H.size a) (va_A ws H.size)) (hD : va_D A0 ws) (hS : va_S A0 H0 H locs) (hA : ∀ q, H0.size ≤ q → A0 q)
    (kk : ∀ (H1 : Heap) (locs1 : List Loc), va_P G.1 vwCl w1 H1 → va_D A0 w1 → va_S A0 H0 H1 locs1 → W p l e R s m args below meth c H1 locs1 cells slots Q (F0 m (pc + 3) ls rest)) : W p l e R s m args below meth c H locs cells slots Q (F0 m pc ls st0) :=
  bx_callG hr hS (bx_freeF hD hS hA) fun H1 locs1 hP1 hD1 _ hS1 => kk H1 locs1 hP1 (hD1.weaken (fun _ q _ h => bx_freeF hD hS hA q.1 h)) hS1
theorem bx_callFr {r : Value} (hr : va_Run p l e R s m args below meth c H locs cells slots 0 0 (F0 m pc ls st0) rest (QW G (some r) ws w1 H.size a) (va_A ws H.size)) (hD : va_D A0 ws) (hS : va_S A0 H0 H locs) (hA : ∀ q, H0.size ≤ q → A0 q)
    (kk : ∀ (H1 : Heap) (locs1 : List Loc), va_P G.1 vwCl w1 H1 → va_D A0 w1 → va_S A0 H0 H1 locs1 → W p l e R s m args below meth c H1 locs1 cells slots Q (F0 m (pc + 3) ls (r :: rest))) : W p l e R s m args below meth c H locs cells slots Q (F0 m pc ls st0) :=
  bx_callG hr hS (bx_freeF hD hS hA) fun H1 locs1 hP1 hD1 _ hS1 => kk H1 locs1 hP1 (hD1.weaken (fun _ q _ h => bx_freeF hD hS hA q.1 h)) hS1
end BC
