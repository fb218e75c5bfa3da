/-! lists that grow, as the system holds them; monitor and fault as functions -/
section LS
/-- a list of n elements: its row, where the elements lie -/
def LD (G : GG) (e0 : Nat) (bk : va_W) (e n : Nat) (a : Nat → Nat) : Prop := n ≤ 20 ∧ ((n = 0 ∧ bk = [] ∧ e = e0) ∨ ∃ (cap : Nat) (f : Nat → Option Nat), bk = [(e, .inl (G.2 0, cap, .inr (.inr (.inr (.inr f)))))] ∧ 0 < n ∧ n ≤ cap ∧ (cap = 10 ∨ cap = 15 ∨ cap = 22) ∧ ∀ i, i < n → f i = some (a i))
theorem LD.lb {G : GG} {e0 : Nat} {bk : va_W} {e n : Nat} {a : Nat → Nat} (h : LD G e0 bk e n a) : LB G bk e n a := by
  refine ⟨h.1, ?_⟩
  rcases h.2 with h1 | ⟨cap, f, h1, h2, h3, h4, h5⟩
  · exact Or.inl h1.1
  · exact Or.inr ⟨cap, f, h1, h3, by omega, h5⟩
theorem LD.zero {G : GG} {e0 : Nat} {a : Nat → Nat} : LD G e0 [] e0 0 a := ⟨by omega, Or.inl ⟨rfl, rfl, rfl⟩⟩
/-- what add does -/
theorem LD.more {G : GG} {e0 e2 n cap q : Nat} {a : Nat → Nat} {f : Nat → Option Nat} (hn : n < 20) (hc : n < cap) (hcc : cap = 10 ∨ cap = 15 ∨ cap = 22) (h1 : ∀ i, i < n → f i = some (a i)) (h2 : f n = some q) : LD G e0 [(e2, .inl (G.2 0, cap, .inr (.inr (.inr (.inr f)))))] e2 (n + 1) (va_up a n q) := by
  refine ⟨by omega, Or.inr ⟨cap, f, rfl, by omega, by omega, hcc, fun i hi => ?_⟩⟩
  by_cases h : i = n
  · subst h
    rw [va_up_self, h2]
  · rw [va_up_ne _ _ h, h1 i (by omega)]
/-- the three ways in which a list gets an element -/
theorem LD.ways {G : GG} {e0 : Nat} {bk : va_W} {e n : Nat} {a : Nat → Nat} (h : LD G e0 bk e n a) (hn : n < 20) : (n = 0 ∧ bk = [] ∧ e = e0) ∨ (∃ (cap : Nat) (f : Nat → Option Nat), bk = [(e, .inl (G.2 0, cap, .inr (.inr (.inr (.inr f)))))] ∧ n < cap ∧ (cap = 10 ∨ cap = 15 ∨ cap = 22) ∧ ∀ i, i < n → f i = some (a i))
    ∨ (∃ (c2 : Nat) (f : Nat → Option Nat), bk = [(e, .inl (G.2 0, n, .inr (.inr (.inr (.inr f)))))] ∧ ((n = 10 ∧ c2 = 15) ∨ (n = 15 ∧ c2 = 22)) ∧ ∀ i, i < n → f i = some (a i)) := by
  rcases h.2 with h1 | ⟨cap, f, h1, h2, h3, h4, h5⟩
  · exact Or.inl h1
  · rcases Nat.lt_or_ge n cap with h6 | h6
    · exact Or.inr (Or.inl ⟨cap, f, h1, h6, h4, h5⟩)
    · have h7 : n = cap := by omega
      subst h7
      rcases h4 with h4 | h4 | h4
      · exact Or.inr (Or.inr ⟨15, f, h1, Or.inl ⟨h4, rfl⟩, h5⟩)
      · exact Or.inr (Or.inr ⟨22, f, h1, Or.inr ⟨h4, rfl⟩, h5⟩)
      · omega
theorem bx_mid {α : Type} {a b c d e f n : α} {t : List α} : ([a, b, c, d, e, f, n] ++ t).Perm (([a, b, c, d, e, f] ++ t) ++ [n]) := by
  classical
  rw [List.perm_iff_count]
  intro z
  simp only [List.count_append, List.count_cons, List.count_nil]
  omega
theorem bx_pM1 {α : Type} {a b c d e f g : α} {bk r : List α} : ([a, b, c, d, e, f, g] ++ (bk ++ r)).Perm ((b :: bk) ++ ([a, c, d, e, f, g] ++ r)) := by
  classical
  rw [List.perm_iff_count]
  intro z
  simp only [List.count_append, List.count_cons, List.count_nil]
  omega
theorem bx_pM2 {α : Type} {a b c d e f g : α} {bk bC p q : List α} : ([a, b, c, d, e, f] ++ (bk ++ (bC ++ ((p ++ [g]) ++ q)))).Perm ((b :: bk) ++ ([a, c, d, e, f, g] ++ (bC ++ (p ++ q)))) := by
  classical
  rw [List.perm_iff_count]
  intro z
  simp only [List.count_append, List.count_cons, List.count_nil]
  omega
theorem bx_pC1 {α : Type} {a b c d e f g : α} {bM bk r : List α} : ([a, b, c, d, e, f, g] ++ (bM ++ (bk ++ r))).Perm ((c :: bk) ++ ([a, b, d, e, f, g] ++ (bM ++ r))) := by
  classical
  rw [List.perm_iff_count]
  intro z
  simp only [List.count_append, List.count_cons, List.count_nil]
  omega
theorem bx_pC2 {α : Type} {a b c d e f g : α} {bM bk p q : List α} : ([a, b, c, d, e, f] ++ (bM ++ (bk ++ (p ++ (q ++ [g]))))).Perm ((c :: bk) ++ ([a, b, d, e, f, g] ++ (bM ++ (p ++ q)))) := by
  classical
  rw [List.perm_iff_count]
  intro z
  simp only [List.count_append, List.count_cons, List.count_nil]
  omega
theorem bx_p3 {α : Type} {a b c : α} : [a, b, c].Perm ([c] ++ [a, b]) := by
  classical
  rw [List.perm_iff_count]
  intro z
  simp only [List.count_append, List.count_cons, List.count_nil]
  omega
theorem bx_p5 {α : Type} {a b c d e : α} : [a, b, c, d, e].Perm ([e] ++ [a, b, c, d]) := by
  classical
  rw [List.perm_iff_count]
  intro z
  simp only [List.count_append, List.count_cons, List.count_nil]
  omega
theorem bx_out {D : va_G} {cl : List vw_C} {A0 : Nat → Prop} {ws w0 wr : va_W} {H : Heap} (hp : ws.Perm (w0 ++ wr)) (hP : va_P D cl ws H) (hD : va_D A0 ws) {q : Nat × va_E} (hq : q ∈ wr) : ¬ va_A w0 H.size q.1 := by
  have hP2 : va_P D cl (w0 ++ wr) H := bx_P_perm hP hp.symm
  have hD2 : va_D A0 (w0 ++ wr) := bx_D_perm hD hp.symm
  obtain ⟨k, hk⟩ := List.getElem?_of_mem hq
  have h2 : (w0 ++ wr)[w0.length + k]? = some q := bx_at_r hk
  have hl := (hP2 _ q h2).lt
  intro h
  rcases h with ⟨k2, e9, h⟩ | h
  · have h3 : (w0 ++ wr)[k2]? = some (q.1, e9) := bx_at_l h
    have h4 := hD2.1 _ _ q (q.1, e9) h2 h3 rfl
    have h5 := (List.getElem?_eq_some_iff.mp h).1
    omega
  · omega
theorem bx_XA {D : va_G} {cl : List vw_C} {A : Nat → Prop} {ws w0 wr : va_W} {H0 H : Heap} {locs : List Loc} {s : State} {e0 mi0 : Nat} (hX : XE e0 mi0 [] A s H0) (hp : ws.Perm (w0 ++ wr)) (hP : va_P D cl ws H) (hD : va_D A ws) (hS : va_S A H0 H locs) (hA : ∀ q, H0.size ≤ q → A q) (els : List Nat)
    (he : ∀ y ∈ els, va_Any "java/lang/Object" s H y ∧ ∃ e : va_E, (y, e) ∈ wr) : XE e0 mi0 els (va_A w0 H.size) s H := by
  refine ⟨((hX.kept hS.2.1).narrow (bx_freeR hp hD hS hA)).1, fun y hy => ?_⟩
  obtain ⟨h1, e, h2⟩ := he y hy
  exact ⟨h1, bx_out hp hP hD h2⟩
/-- the elements of the monitors' list, and a new one -/
theorem el_mon {G : GG} {s : State} {H : Heap} {X bM bC wr : va_W} {nM nC k q : Nat} {am ac : Nat → Nat} {mon : Nat → Mon} {cod : Nat → Cod} {fs : List Value} (hGK : GK G s) (hP : va_P G.1 vwCl (X ++ tlW bM bC nM am mon nC ac cod) H) (hX : X[k]? = some (q, .inr (4, fs))) (hq : (q, .inr (4, fs)) ∈ wr) (hr : ∀ z ∈ bx_pl nM am (fun i => monE (mon i)), z ∈ wr) (hw : va_Nw (.castable "EmissionRows$Monitor" "java/lang/Object") s) : ∀ y ∈ q :: (List.range nM).map am, va_Any "java/lang/Object" s H y ∧ ∃ e : va_E, (y, e) ∈ wr := by
  intro y hy
  rcases List.mem_cons.mp hy with rfl | h
  · exact ⟨va_rAny hGK.1 hP (ci := 4) (bx_at_l hX) rfl (vb_asgC hw), _, hq⟩
  · obtain ⟨i, hi, rfl⟩ := List.mem_map.mp h
    have hi := List.mem_range.mp hi
    exact ⟨va_rAny hGK.1 hP (ci := 4) (tl_mon hi) rfl (vb_asgC hw), _, hr _ (List.mem_of_getElem? (bx_pl_get (f := fun i => monE (mon i)) hi))⟩
theorem el_cod {G : GG} {s : State} {H : Heap} {X bM bC wr : va_W} {nM nC k q : Nat} {am ac : Nat → Nat} {mon : Nat → Mon} {cod : Nat → Cod} {fs : List Value} (hGK : GK G s) (hP : va_P G.1 vwCl (X ++ tlW bM bC nM am mon nC ac cod) H) (hX : X[k]? = some (q, .inr (5, fs))) (hq : (q, .inr (5, fs)) ∈ wr) (hr : ∀ z ∈ bx_pl nC ac (fun i => codE (cod i)), z ∈ wr) (hw : va_Nw (.castable "EmissionRows$Code" "java/lang/Object") s) : ∀ y ∈ q :: (List.range nC).map ac, va_Any "java/lang/Object" s H y ∧ ∃ e : va_E, (y, e) ∈ wr := by
  intro y hy
  rcases List.mem_cons.mp hy with rfl | h
  · exact ⟨va_rAny hGK.1 hP (ci := 5) (bx_at_l hX) rfl (vb_asgC hw), _, hq⟩
  · obtain ⟨i, hi, rfl⟩ := List.mem_map.mp h
    have hi := List.mem_range.mp hi
    exact ⟨va_rAny hGK.1 hP (ci := 5) (tl_cod hi) rfl (vb_asgC hw), _, hr _ (List.mem_of_getElem? (bx_pl_get (f := fun i => codE (cod i)) hi))⟩
theorem pl_mon {n q : Nat} {am : Nat → Nat} {mon : Nat → Mon} {x : Mon} : bx_pl (n + 1) (va_up am n q) (fun i => monE (va_up mon n x i)) = bx_pl n am (fun i => monE (mon i)) ++ [(q, monE x)] := by
  rw [bx_pl_succ, va_up_self, va_up_self]
  congr 1
  exact bx_pl_congr (fun i hi => by rw [va_up_ne _ _ (show i ≠ n by omega), va_up_ne _ _ (show i ≠ n by omega)]; exact ⟨rfl, rfl⟩)
theorem pl_cod {n q : Nat} {am : Nat → Nat} {cod : Nat → Cod} {x : Cod} : bx_pl (n + 1) (va_up am n q) (fun i => codE (va_up cod n x i)) = bx_pl n am (fun i => codE (cod i)) ++ [(q, codE x)] := by
  rw [bx_pl_succ, va_up_self, va_up_self]
  congr 1
  exact bx_pl_congr (fun i hi => by rw [va_up_ne _ _ (show i ≠ n by omega), va_up_ne _ _ (show i ≠ n by omega)]; exact ⟨rfl, rfl⟩)
/-- monitor: its answer, the count behind it, the monitors behind it -/
def mnB (kd cd : Int32) : Int32 := if kindF kd = 0 then 0 else if cd < 0 then 0 else if cd < 8 then 1 else 0
def mnR (kd cd : Int32) (nM : Nat) : Int32 := if mnB kd cd = 0 then (-2) else if nI nM < 16 then nI (nM + 1) else (-4)
def mnN (kd cd : Int32) (nM : Nat) : Nat := if mnB kd cd = 0 then nM else if nI nM < 16 then nM + 1 else nM
def mnM (kd cd : Int32) (nM : Nat) (mon : Nat → Mon) : Nat → Mon := if mnB kd cd = 0 then mon else if nI nM < 16 then va_up mon nM (kd, cd, 0, 0, 0, 0) else mon
/-- fault -/
def ftB (nu : Int32) : Int32 := if nu < 1 then 0 else if nu ≤ 65535 then 1 else 0
def codO (q : Cod) (oo : Int32) : Cod := (q.1, oo, q.2.2.1, q.2.2.2.1, q.2.2.2.2.1, q.2.2.2.2.2.1, q.2.2.2.2.2.2.1, q.2.2.2.2.2.2.2.1, q.2.2.2.2.2.2.2.2)
def ftR (nu : Int32) (nC : Nat) (cod : Nat → Cod) : Int32 := if ftB nu = 0 then (-2) else match kcF cod nu nC nC with
  | some _ => nI nC
  | none => if nI nC < 20 then nI (nC + 1) else (-4)
def ftN (nu : Int32) (nC : Nat) (cod : Nat → Cod) : Nat := if ftB nu = 0 then nC else match kcF cod nu nC nC with
  | some _ => nC
  | none => if nI nC < 20 then nC + 1 else nC
def ftC (nu oo : Int32) (nC : Nat) (cod : Nat → Cod) : Nat → Cod := if ftB nu = 0 then cod else match kcF cod nu nC nC with
  | some j => va_up cod j (codO (cod j) oo)
  | none => if nI nC < 20 then va_up cod nC (nu, oo, 0, 0, 0, 0, 0, 0, 0) else cod
end LS
